/-! The reference: the tour. -/
theorem bc_or : ∀ z : Nat, z < 9 → ∀ t : Nat, t < 512 → t.testBit z = false → bcJ ((t ||| 2 ^ z : Nat) : Int) = bcJ (t : Int) + 1 := by decide +kernel
theorem bc_whl : ∀ n : Nat, n < 10 → bcJ ((2 ^ n - 1 : Nat) : Int) = (n : Int) := by decide +kernel
theorem orz {t z n : Nat} (ht : t < 2 ^ n) (hz : z < n) (hn : n ≤ 9) (hb : bAnd (bShr (t : Int) (z : Int)) 1 = 0) : (t : Int) < bOr (t : Int) (bShl 1 (z : Int)) ∧ bOr (t : Int) (bShl 1 (z : Int)) < ((2 ^ n : Nat) : Int) ∧ bcJ (bOr (t : Int) (bShl 1 (z : Int))) = bcJ (t : Int) + 1 := by
  have h2 : 2 ^ n ≤ 2 ^ 9 := Nat.pow_le_pow_right (by decide) hn
  have h3 : 2 ^ z < 2 ^ n := Nat.pow_lt_pow_right (by decide) hz
  have h4 := Nat.or_lt_two_pow ht h3
  have hz0 := (bit_f (t := t) (z := z) (by omega) (by omega)).mp hb
  have hc := bc_or z (by omega) t (by omega) hz0
  rw [bShl_1 z (by omega), bOr_nn (by omega) (by omega)]
  have hl : t ≤ t ||| 2 ^ z := Nat.left_le_or
  have hne : t ||| 2 ^ z ≠ t := fun e => by rw [e] at hc; omega
  exact ⟨by omega, by omega, hc⟩
theorem orI {Λ : Mm} (hW : WL Λ) {t z : Int} (ht : 0 ≤ t ∧ t ≤ whl Λ) (hz : 0 ≤ z ∧ z < Λ 0 0) (hb : bAnd (bShr t z) 1 = 0) : t < bOr t (bShl 1 z) ∧ bOr t (bShl 1 z) ≤ whl Λ ∧ bcJ (bOr t (bShl 1 z)) = bcJ t + 1 := by
  have h0 := hW.1
  unfold whl at ht ⊢
  have h := orz (t := t.toNat) (z := z.toNat) (n := (Λ 0 0).toNat) (by omega) (by omega) (by omega) (by rw [show ((t.toNat : Nat) : Int) = t by omega, show ((z.toNat : Nat) : Int) = z by omega]; exact hb)
  rw [show ((t.toNat : Nat) : Int) = t by omega, show ((z.toNat : Nat) : Int) = z by omega] at h
  exact ⟨h.1, by omega, h.2.2⟩
def tvJ (Λ : Mm) (s : Int → Int) : Nat → Int → Int
  | 0 => fun _ => 10000
  | n + 1 => fun j => if j / 9 = whl Λ then wyW Λ s 1 (j % 9 * 9 + 0) else (nxN Λ s (tvJ Λ s n) (j / 9) (j % 9) (Λ 0 0).toNat).2
theorem tvJ_s {Λ : Mm} {s : Int → Int} {n : Nat} {t a : Int} (ha : 0 ≤ a ∧ a < 9) : tvJ Λ s (n + 1) (t * 9 + a) = if t = whl Λ then wyW Λ s 1 (a * 9 + 0) else (nxN Λ s (tvJ Λ s n) t a (Λ 0 0).toNat).2 := by
  show (if (t * 9 + a) / 9 = whl Λ then wyW Λ s 1 ((t * 9 + a) % 9 * 9 + 0) else (nxN Λ s (tvJ Λ s n) ((t * 9 + a) / 9) ((t * 9 + a) % 9) (Λ 0 0).toNat).2) = _
  rw [show (t * 9 + a) / 9 = t by omega, show (t * 9 + a) % 9 = a by omega]
theorem nx_congr {Λ : Mm} {s : Int → Int} {T T' : Int → Int} {t a : Int} (h : ∀ z : Int, 0 ≤ z → z < Λ 0 0 → bAnd (bShr t z) 1 = 0 → T (bOr t (bShl 1 z) * 9 + z) = T' (bOr t (bShl 1 z) * 9 + z)) : ∀ n : Nat, (n : Int) ≤ Λ 0 0 → nxN Λ s T t a n = nxN Λ s T' t a n
  | 0, _ => rfl
  | n + 1, hn => by
    have ih := nx_congr (s := s) (a := a) h n (by omega)
    show nxS Λ s T t a (n : Int) (nxN Λ s T t a n) = nxS Λ s T' t a (n : Int) (nxN Λ s T' t a n)
    rw [ih]
    unfold nxS
    by_cases hb : bAnd (bShr t (n : Int)) 1 = 0
    · have e : coP Λ s T t a (n : Int) = coP Λ s T' t a (n : Int) := by
        unfold coP
        rw [h (n : Int) (by omega) (by omega) hb]
      rw [e]
    · rw [if_neg (fun h9 => hb h9.1), if_neg (fun h9 => hb h9.1)]
theorem tvJ_f {Λ : Mm} {s : Int → Int} (hW : WL Λ) : ∀ n : Nat, ∀ t a : Int, 0 ≤ t → t ≤ whl Λ → whl Λ - t < n → (0 ≤ a ∧ a < 9) → tvJ Λ s n (t * 9 + a) = tvJ Λ s (n + 1) (t * 9 + a)
  | 0, t, a, h1, h2, h3, _ => absurd h3 (by omega)
  | n + 1, t, a, h1, h2, h3, ha => by
    have h0 := hW.1
    rw [tvJ_s ha, tvJ_s ha]
    by_cases e : t = whl Λ
    · rw [if_pos e, if_pos e]
    · rw [if_neg e, if_neg e, nx_congr (T := tvJ Λ s n) (T' := tvJ Λ s (n + 1)) (fun z z1 z2 hb => by
        have o := orI hW ⟨h1, h2⟩ ⟨z1, z2⟩ hb
        exact tvJ_f hW n _ z (by omega) o.2.1 (by omega) (by omega)) _ (by omega)]
theorem nx_1 {Λ : Mm} {s : Int → Int} {T : Int → Int} {t a : Int} : ∀ n : Nat, (nxN Λ s T t a n).2 ≤ 10000 ∧ ((nxN Λ s T t a n).1 = -1 ∧ (nxN Λ s T t a n).2 = 10000 ∧ (∀ z : Int, 0 ≤ z → z < n → bAnd (bShr t z) 1 = 0 → coP Λ s T t a z = 10000) ∨ (0 ≤ (nxN Λ s T t a n).1 ∧ (nxN Λ s T t a n).1 < n) ∧ bAnd (bShr t (nxN Λ s T t a n).1) 1 = 0 ∧ (nxN Λ s T t a n).2 = coP Λ s T t a (nxN Λ s T t a n).1 ∧ (nxN Λ s T t a n).2 < 10000 ∧ (∀ z : Int, 0 ≤ z → z < n → bAnd (bShr t z) 1 = 0 → (nxN Λ s T t a n).2 ≤ coP Λ s T t a z) ∧ ∀ z : Int, 0 ≤ z → z < (nxN Λ s T t a n).1 → bAnd (bShr t z) 1 = 0 → (nxN Λ s T t a n).2 < coP Λ s T t a z)
  | 0 => ⟨Int.le_refl _, Or.inl ⟨rfl, rfl, fun z h1 h2 => absurd h2 (by omega)⟩⟩
  | n + 1 => by
    have ih := nx_1 (Λ := Λ) (s := s) (T := T) (t := t) (a := a) n
    have e : nxN Λ s T t a (n + 1) = nxS Λ s T t a (n : Int) (nxN Λ s T t a n) := rfl
    have cle : ∀ z, coP Λ s T t a z ≤ 10000 := fun z => (mn2_le _ _).1
    rw [e]
    unfold nxS
    generalize nxN Λ s T t a n = q at ih ⊢
    obtain ⟨h1, h2⟩ := ih
    by_cases hc : bAnd (bShr t (n : Int)) 1 = 0 ∧ coP Λ s T t a (n : Int) < q.2
    · rw [if_pos hc]
      show coP Λ s T t a (n : Int) ≤ 10000 ∧ (_ ∨ _)
      refine ⟨cle _, Or.inr ⟨⟨by simp only []; omega, by simp only []; omega⟩, hc.1, rfl, by simp only []; omega, fun z z1 z2 zb => ?_, fun z z1 z2 zb => ?_⟩⟩
      · show coP Λ s T t a (n : Int) ≤ coP Λ s T t a z
        by_cases ez : z = (n : Int)
        · rw [ez]; exact Int.le_refl _
        · rcases h2 with ⟨_, k2, k3⟩ | ⟨_, _, _, _, k3, _⟩
          · have := k3 z z1 (by omega) zb
            omega
          · have := k3 z z1 (by omega) zb
            omega
      · show coP Λ s T t a (n : Int) < coP Λ s T t a z
        simp only [] at z2
        rcases h2 with ⟨_, k2, k3⟩ | ⟨_, _, _, _, k3, _⟩
        · have := k3 z z1 (by omega) zb
          omega
        · have := k3 z z1 (by omega) zb
          omega
    · rw [if_neg hc]
      refine ⟨h1, ?_⟩
      rcases h2 with ⟨k1, k2, k3⟩ | ⟨k1, k2, k3, k4, k5, k6⟩
      · refine Or.inl ⟨k1, k2, fun z z1 z2 zb => ?_⟩
        by_cases ez : z = (n : Int)
        · rw [ez] at zb ⊢
          have := cle (n : Int)
          have : ¬ coP Λ s T t a (n : Int) < q.2 := fun h9 => hc ⟨zb, h9⟩
          omega
        · exact k3 z z1 (by omega) zb
      · refine Or.inr ⟨⟨k1.1, by omega⟩, k2, k3, k4, fun z z1 z2 zb => ?_, k6⟩
        by_cases ez : z = (n : Int)
        · rw [ez] at zb ⊢
          have : ¬ coP Λ s T t a (n : Int) < q.2 := fun h9 => hc ⟨zb, h9⟩
          omega
        · exact k5 z z1 (by omega) zb
theorem tvJ_b {Λ : Mm} {s : Int → Int} (hW : WL Λ) : ∀ n : Nat, ∀ t a : Int, 0 ≤ t → t ≤ whl Λ → (0 ≤ a ∧ a < Λ 0 0) → tvJ Λ s n (t * 9 + a) = 10000 ∨ (0 ≤ tvJ Λ s n (t * 9 + a) ∧ tvJ Λ s n (t * 9 + a) ≤ 72 * (10 - bcJ t))
  | 0, t, a, _, _, _ => Or.inl rfl
  | n + 1, t, a, h1, h2, ha => by
    have h0 := hW.1
    have h9 : whl Λ < 512 := by
      have p9 : 2 ^ (Λ 0 0).toNat ≤ 2 ^ 9 := Nat.pow_le_pow_right (by decide) (by omega)
      unfold whl
      omega
    have bt := bcJ_9 t.toNat (by omega)
    rw [show ((t.toNat : Nat) : Int) = t by omega] at bt
    rw [tvJ_s (by omega)]
    by_cases e : t = whl Λ
    · rw [if_pos e]
      have w := wy_72 (s := s) hW (a := a) (z := 0) ha (by omega)
      omega
    · rw [if_neg e]
      rcases (nx_1 (Λ := Λ) (s := s) (T := tvJ Λ s n) (t := t) (a := a) (Λ 0 0).toNat).2 with ⟨_, k2, _⟩ | ⟨k1, k2, k3, k4, _⟩
      · exact Or.inl k2
      · generalize (nxN Λ s (tvJ Λ s n) t a (Λ 0 0).toNat).1 = z at k1 k2 k3
        have o := orI hW ⟨h1, h2⟩ (z := z) (by omega) k2
        have ih := tvJ_b (s := s) hW n (bOr t (bShl 1 z)) z (by omega) o.2.1 (by omega)
        have w := wy_72 (s := s) hW (a := a) (z := z) ha (by omega)
        unfold coP at k3
        have m9 := mn2_le 10000 (wyW Λ s 1 (a * 9 + z) + tvJ Λ s n (bOr t (bShl 1 z) * 9 + z))
        omega
def tvT (Λ : Mm) (s : Int → Int) : Int → Int := tvJ Λ s 512
theorem tvT_e {Λ : Mm} {s : Int → Int} (hW : WL Λ) {t a : Int} (ht : 0 ≤ t ∧ t ≤ whl Λ) (ha : 0 ≤ a ∧ a < 9) : tvT Λ s (t * 9 + a) = if t = whl Λ then wyW Λ s 1 (a * 9 + 0) else (nxN Λ s (tvT Λ s) t a (Λ 0 0).toNat).2 := by
  have h0 := hW.1
  have h9 : whl Λ < 512 := by
    have p9 : 2 ^ (Λ 0 0).toNat ≤ 2 ^ 9 := Nat.pow_le_pow_right (by decide) (by omega)
    unfold whl
    omega
  unfold tvT
  rw [tvJ_f hW 512 t a ht.1 ht.2 (by omega) ha, tvJ_s ha]
theorem tvT_b {Λ : Mm} {s : Int → Int} (hW : WL Λ) {t a : Int} (ht : 0 ≤ t ∧ t ≤ whl Λ) (ha : 0 ≤ a ∧ a < Λ 0 0) : Bd 720 (tvT Λ s (t * 9 + a)) := by
  have h0 := hW.1
  have h9 : whl Λ < 512 := by
    have p9 : 2 ^ (Λ 0 0).toNat ≤ 2 ^ 9 := Nat.pow_le_pow_right (by decide) (by omega)
    unfold whl
    omega
  have bt := bcJ_9 t.toNat (by omega)
  rw [show ((t.toNat : Nat) : Int) = t by omega] at bt
  have h := tvJ_b (s := s) hW 512 t a ht.1 ht.2 ha
  unfold Bd
  show tvJ Λ s 512 (t * 9 + a) = 10000 ∨ (0 ≤ tvJ Λ s 512 (t * 9 + a) ∧ tvJ Λ s 512 (t * 9 + a) ≤ 720)
  omega
theorem tvT_ok {Λ : Mm} {s : Int → Int} (hW : WL Λ) : TourOK Λ s (tvT Λ s) 0 := fun t h1 h2 _ a a1 a2 _ => by
  have h0 := hW.1
  have b := tvT_b (s := s) hW (t := t) (a := a) (by omega) (by omega)
  unfold Bd at b
  exact ⟨tvT_e hW (by omega) (by omega), by omega, by omega⟩
/-- the least so far, in the reference's numbers -/
def mvN (Λ : Mm) (s : Int → Int) (t a : Int) (n : Nat) : Int := fd (fun z v => if bAnd (bShr t (z : Int)) 1 = 0 then lesF v (tr9 (wyW Λ s 1 (a * 9 + (z : Int))) + tr9 (tvT Λ s (bOr t (bShl 1 (z : Int)) * 9 + (z : Int)))) else v) (if t = whl Λ then tr9 (wyW Λ s 1 (a * 9 + 0)) else 9999) n
theorem whl_bit {Λ : Mm} (hW : WL Λ) {z : Int} (hz : 0 ≤ z ∧ z < Λ 0 0) : ¬ bAnd (bShr (whl Λ) z) 1 = 0 := fun h => by
  have h0 := hW.1
  have p9 : 2 ^ (Λ 0 0).toNat ≤ 2 ^ 9 := Nat.pow_le_pow_right (by decide) (by omega)
  have p0 : 0 < 2 ^ (Λ 0 0).toNat := Nat.pow_pos (by decide)
  have e : whl Λ = ((2 ^ (Λ 0 0).toNat - 1 : Nat) : Int) := by unfold whl; omega
  rw [e, show z = ((z.toNat : Nat) : Int) by omega, bBit (by omega) (by omega), Nat.testBit_two_pow_sub_one, if_pos (by exact decide_eq_true (by omega))] at h
  exact absurd h (by decide)
theorem mv_w {Λ : Mm} {s : Int → Int} (hW : WL Λ) {a : Int} : ∀ n : Nat, (n : Int) ≤ Λ 0 0 → mvN Λ s (whl Λ) a n = tr9 (wyW Λ s 1 (a * 9 + 0))
  | 0, _ => if_pos rfl
  | n + 1, hn => (if_neg (whl_bit hW (by omega))).trans (mv_w hW n (by omega))
theorem mv_n {Λ : Mm} {s : Int → Int} (hW : WL Λ) {t a : Int} (ht : 0 ≤ t ∧ t < whl Λ) (ha : 0 ≤ a ∧ a < Λ 0 0) : ∀ n : Nat, (n : Int) ≤ Λ 0 0 → mvN Λ s t a n = tr9 (nxN Λ s (tvT Λ s) t a n).2 ∧ Bd 4608 (nxN Λ s (tvT Λ s) t a n).2
  | 0, _ => ⟨(if_neg (by omega)).trans rfl, Or.inl rfl⟩
  | n + 1, hn => by
    obtain ⟨i1, i2⟩ := mv_n (s := s) hW ht ha n (by omega)
    have e1 : mvN Λ s t a (n + 1) = if bAnd (bShr t (n : Int)) 1 = 0 then lesF (mvN Λ s t a n) (tr9 (wyW Λ s 1 (a * 9 + (n : Int))) + tr9 (tvT Λ s (bOr t (bShl 1 (n : Int)) * 9 + (n : Int)))) else mvN Λ s t a n := rfl
    have e2 : nxN Λ s (tvT Λ s) t a (n + 1) = nxS Λ s (tvT Λ s) t a (n : Int) (nxN Λ s (tvT Λ s) t a n) := rfl
    rw [e1, e2]
    unfold nxS
    by_cases hb : bAnd (bShr t (n : Int)) 1 = 0
    · have o := orI hW (t := t) (by omega) (z := (n : Int)) (by omega) hb
      have b1 := wy_72 (s := s) hW (a := a) (z := (n : Int)) ha (by omega)
      have b2 := tvT_b (s := s) hW (t := bOr t (bShl 1 (n : Int))) (a := (n : Int)) (by omega) (by omega)
      have b1' : Bd 4608 (wyW Λ s 1 (a * 9 + (n : Int))) := b1.imp_right fun h => ⟨h.1, by omega⟩
      rw [if_pos hb, i1, tr_mn i2 b1' (b2.up (by decide))]
      have ee : (if bAnd (bShr t (n : Int)) 1 = 0 ∧ coP Λ s (tvT Λ s) t a (n : Int) < (nxN Λ s (tvT Λ s) t a n).2 then ((n : Int), coP Λ s (tvT Λ s) t a (n : Int)) else nxN Λ s (tvT Λ s) t a n).2 = mn2 (nxN Λ s (tvT Λ s) t a n).2 (wyW Λ s 1 (a * 9 + (n : Int)) + tvT Λ s (bOr t (bShl 1 (n : Int)) * 9 + (n : Int))) := by
        unfold coP
        unfold Bd at i2 b2
        by_cases hl : bAnd (bShr t (n : Int)) 1 = 0 ∧ mn2 10000 (wyW Λ s 1 (a * 9 + (n : Int)) + tvT Λ s (bOr t (bShl 1 (n : Int)) * 9 + (n : Int))) < (nxN Λ s (tvT Λ s) t a n).2
        · rw [if_pos hl]
          have hl2 := hl.2
          show mn2 10000 _ = _
          unfold mn2 at hl2 ⊢
          split at hl2 <;> split <;> omega
        · rw [if_neg hl]
          have hl2 : ¬ mn2 10000 (wyW Λ s 1 (a * 9 + (n : Int)) + tvT Λ s (bOr t (bShl 1 (n : Int)) * 9 + (n : Int))) < (nxN Λ s (tvT Λ s) t a n).2 := fun h9 => hl ⟨hb, h9⟩
          unfold mn2 at hl2 ⊢
          split at hl2 <;> split <;> omega
      rw [ee]
      refine ⟨rfl, ?_⟩
      unfold Bd at i2 b2 ⊢
      unfold mn2
      split <;> omega
    · rw [if_neg hb, if_neg (fun h9 => hb h9.1)]
      exact ⟨i1, i2⟩
theorem mv_fin {Λ : Mm} {s : Int → Int} (hW : WL Λ) {t a : Int} (ht : 0 ≤ t ∧ t ≤ whl Λ) (ha : 0 ≤ a ∧ a < Λ 0 0) : mvN Λ s t a (Λ 0 0).toNat = tr9 (tvT Λ s (t * 9 + a)) := by
  have h0 := hW.1
  rw [tvT_e hW ht (by omega)]
  by_cases e : t = whl Λ
  · rw [if_pos e, e, mv_w hW _ (by omega)]
  · rw [if_neg e]
    exact (mv_n hW (by omega) ha _ (by omega)).1
theorem mv_rg {Λ : Mm} {s : Int → Int} (hW : WL Λ) {t a : Int} (ht : 0 ≤ t ∧ t ≤ whl Λ) (ha : 0 ≤ a ∧ a < Λ 0 0) (n : Nat) (hn : (n : Int) ≤ Λ 0 0) : 0 ≤ mvN Λ s t a n ∧ mvN Λ s t a n ≤ 9999 := by
  by_cases e : t = whl Λ
  · rw [e, mv_w hW n hn]
    exact tr_rg (((wyW_i (s := s) hW).1 _).2) (Int.le_refl _)
  · have h := mv_n (s := s) hW (t := t) (by omega) ha n hn
    rw [h.1]
    exact tr_rg h.2 (Int.le_refl _)
def itT (Λ : Mm) (s : Int → Int) (t a : Int) (n : Nat) : Int := fd (fun i v => if bAnd (bShr t (Λ 0 0 - 1 - (i : Int))) 1 = 0 then (if tr9 (wyW Λ s 1 (a * 9 + (Λ 0 0 - 1 - (i : Int)))) + tr9 (tvT Λ s (bOr t (bShl 1 (Λ 0 0 - 1 - (i : Int))) * 9 + (Λ 0 0 - 1 - (i : Int)))) = tr9 (tvT Λ s (t * 9 + a)) then Λ 0 0 - 1 - (i : Int) else v) else v) (-1) n
def itQ (Λ : Mm) (s : Int → Int) (t a b : Int) : Prop := bAnd (bShr t b) 1 = 0 ∧ tr9 (wyW Λ s 1 (a * 9 + b)) + tr9 (tvT Λ s (bOr t (bShl 1 b) * 9 + b)) = tr9 (tvT Λ s (t * 9 + a))
theorem itT_1 {Λ : Mm} {s : Int → Int} {t a : Int} : ∀ n : Nat, (itT Λ s t a n = -1 ∧ ∀ b : Int, Λ 0 0 - n ≤ b → b < Λ 0 0 → ¬ itQ Λ s t a b) ∨ ((Λ 0 0 - n ≤ itT Λ s t a n ∧ itT Λ s t a n < Λ 0 0) ∧ itQ Λ s t a (itT Λ s t a n) ∧ ∀ b : Int, Λ 0 0 - n ≤ b → b < itT Λ s t a n → ¬ itQ Λ s t a b)
  | 0 => Or.inl ⟨rfl, fun b h1 h2 => absurd h2 (by omega)⟩
  | n + 1 => by
    have ih := itT_1 (Λ := Λ) (s := s) (t := t) (a := a) n
    have e : itT Λ s t a (n + 1) = if bAnd (bShr t (Λ 0 0 - 1 - (n : Int))) 1 = 0 then (if tr9 (wyW Λ s 1 (a * 9 + (Λ 0 0 - 1 - (n : Int)))) + tr9 (tvT Λ s (bOr t (bShl 1 (Λ 0 0 - 1 - (n : Int))) * 9 + (Λ 0 0 - 1 - (n : Int)))) = tr9 (tvT Λ s (t * 9 + a)) then Λ 0 0 - 1 - (n : Int) else itT Λ s t a n) else itT Λ s t a n := rfl
    have keep : itT Λ s t a (n + 1) = itT Λ s t a n → ¬ itQ Λ s t a (Λ 0 0 - 1 - (n : Int)) → (itT Λ s t a (n + 1) = -1 ∧ ∀ b : Int, Λ 0 0 - ((n + 1 : Nat) : Int) ≤ b → b < Λ 0 0 → ¬ itQ Λ s t a b) ∨ ((Λ 0 0 - ((n + 1 : Nat) : Int) ≤ itT Λ s t a (n + 1) ∧ itT Λ s t a (n + 1) < Λ 0 0) ∧ itQ Λ s t a (itT Λ s t a (n + 1)) ∧ ∀ b : Int, Λ 0 0 - ((n + 1 : Nat) : Int) ≤ b → b < itT Λ s t a (n + 1) → ¬ itQ Λ s t a b) := fun k1 k2 => by
      rw [k1]
      rcases ih with ⟨i1, i2⟩ | ⟨i1, i2, i3⟩
      · refine Or.inl ⟨i1, fun b g1 g2 => ?_⟩
        by_cases eb : b = Λ 0 0 - 1 - (n : Int)
        · rw [eb]; exact k2
        · exact i2 b (by omega) g2
      · refine Or.inr ⟨⟨by omega, i1.2⟩, i2, fun b g1 g2 => ?_⟩
        by_cases eb : b = Λ 0 0 - 1 - (n : Int)
        · rw [eb]; exact k2
        · exact i3 b (by omega) g2
    by_cases hc : bAnd (bShr t (Λ 0 0 - 1 - (n : Int))) 1 = 0
    · by_cases hl : tr9 (wyW Λ s 1 (a * 9 + (Λ 0 0 - 1 - (n : Int)))) + tr9 (tvT Λ s (bOr t (bShl 1 (Λ 0 0 - 1 - (n : Int))) * 9 + (Λ 0 0 - 1 - (n : Int)))) = tr9 (tvT Λ s (t * 9 + a))
      · rw [e.trans ((if_pos hc).trans (if_pos hl))]
        exact Or.inr ⟨⟨by omega, by omega⟩, ⟨hc, hl⟩, fun b g1 g2 => absurd g2 (by omega)⟩
      · exact keep (e.trans ((if_pos hc).trans (if_neg hl))) fun h9 => hl h9.2
    · exact keep (e.trans (if_neg hc)) fun h9 => hc h9.1
/-- where the way goes on, both find the same stop -/
theorem it_nx {Λ : Mm} {s : Int → Int} (hW : WL Λ) {t a : Int} (ht : 0 ≤ t ∧ t < whl Λ) (ha : 0 ≤ a ∧ a < Λ 0 0) (hf : tvT Λ s (t * 9 + a) < 10000) : itT Λ s t a (Λ 0 0).toNat = (nxN Λ s (tvT Λ s) t a (Λ 0 0).toNat).1 ∧ (0 ≤ itT Λ s t a (Λ 0 0).toNat ∧ itT Λ s t a (Λ 0 0).toNat < Λ 0 0) ∧ bAnd (bShr t (itT Λ s t a (Λ 0 0).toNat)) 1 = 0 ∧ tvT Λ s (bOr t (bShl 1 (itT Λ s t a (Λ 0 0).toNat)) * 9 + itT Λ s t a (Λ 0 0).toNat) < 10000 := by
  have h0 := hW.1
  have ev := tvT_e (s := s) hW (t := t) (a := a) (by omega) (by omega)
  rw [if_neg (by omega)] at ev
  have bt := tvT_b (s := s) hW (t := t) (a := a) (by omega) ha
  have n1 := (nx_1 (Λ := Λ) (s := s) (T := tvT Λ s) (t := t) (a := a) (Λ 0 0).toNat).2
  have i1 := itT_1 (Λ := Λ) (s := s) (t := t) (a := a) (Λ 0 0).toNat
  rw [← ev] at n1
  have et := tr_id (bt.up (by decide)) hf
  have iff9 : ∀ b : Int, 0 ≤ b → b < Λ 0 0 → bAnd (bShr t b) 1 = 0 → ((itQ Λ s t a b ↔ coP Λ s (tvT Λ s) t a b = tvT Λ s (t * 9 + a)) ∧ (itQ Λ s t a b → tvT Λ s (bOr t (bShl 1 b) * 9 + b) < 10000)) := fun b b1 b2 hb => by
    have o := orI hW (t := t) (by omega) (z := b) (by omega) hb
    have w := wy_72 (s := s) hW (a := a) (z := b) ha (by omega)
    have b2' := tvT_b (s := s) hW (t := bOr t (bShl 1 b)) (a := b) (by omega) (by omega)
    unfold itQ coP
    rw [et]
    unfold Bd at b2' bt
    unfold tr9 mn2
    constructor
    · constructor
      · rintro ⟨_, g⟩
        repeat' split at g
        all_goals split <;> omega
      · intro g
        refine ⟨hb, ?_⟩
        split at g
        · repeat' split
          all_goals omega
        · omega
    · rintro ⟨_, g⟩
      repeat' split at g
      all_goals omega
  rcases n1 with ⟨_, k2, _⟩ | ⟨k1, k2, k3, k4, k5, k6⟩
  · omega
  · generalize (nxN Λ s (tvT Λ s) t a (Λ 0 0).toNat).1 = x at k1 k2 k3 k6 ⊢
    have qx := ((iff9 x k1.1 (by omega) k2).1).mpr k3.symm
    rcases i1 with ⟨g1, g2⟩ | ⟨g1, g2, g3⟩
    · exact absurd qx (g2 x (by omega) (by omega))
    · generalize itT Λ s t a (Λ 0 0).toNat = y at g1 g2 g3 ⊢
      have hy := iff9 y (by omega) g1.2 g2.1
      refine ⟨?_, ⟨by omega, g1.2⟩, g2.1, hy.2 g2⟩
      rcases Int.lt_trichotomy x y with h | h | h
      · exact absurd qx (g3 x (by omega) h)
      · exact h.symm
      · have := k6 y (by omega) h g2.1
        have := hy.1.mp g2
        omega
/-- along the tour -/
theorem ts_go {Λ : Mm} {s : Int → Int} (hW : WL Λ) (h1 : 0 < Λ 0 0) (hf : tvT Λ s 9 < 10000) : ∀ k : Nat, (k : Int) < Λ 0 0 → (0 ≤ (tsN Λ s (tvT Λ s) k).1 ∧ (tsN Λ s (tvT Λ s) k).1 ≤ whl Λ) ∧ (0 ≤ (tsN Λ s (tvT Λ s) k).2 ∧ (tsN Λ s (tvT Λ s) k).2 < Λ 0 0) ∧ bcJ (tsN Λ s (tvT Λ s) k).1 = k + 1 ∧ tvT Λ s ((tsN Λ s (tvT Λ s) k).1 * 9 + (tsN Λ s (tvT Λ s) k).2) < 10000
  | 0, _ => by
    have h0 := hW.1
    have p1 : 2 ^ 1 ≤ 2 ^ (Λ 0 0).toNat := Nat.pow_le_pow_right (by decide) (by omega)
    refine ⟨⟨by show (0 : Int) ≤ 1; decide, by show (1 : Int) ≤ whl Λ; unfold whl; omega⟩, ⟨Int.le_refl _, h1⟩, by show bcJ 1 = 1; decide, hf⟩
  | k + 1, hk => by
    have h0 := hW.1
    obtain ⟨i1, i2, i3, i4⟩ := ts_go hW h1 hf k (by omega)
    have e : tsN Λ s (tvT Λ s) (k + 1) = tsS Λ s (tvT Λ s) (tsN Λ s (tvT Λ s) k) := rfl
    rw [e]
    generalize tsN Λ s (tvT Λ s) k = q at i1 i2 i3 i4 ⊢
    have nw : q.1 ≠ whl Λ := fun h9 => by
      have p0 : 0 < 2 ^ (Λ 0 0).toNat := Nat.pow_pos (by decide)
      have w := bc_whl (Λ 0 0).toNat (by omega)
      rw [show ((2 ^ (Λ 0 0).toNat - 1 : Nat) : Int) = whl Λ by unfold whl; omega, ← h9] at w
      omega
    have it := it_nx hW (t := q.1) (a := q.2) (by omega) i2 i4
    have o := orI hW i1 it.2.1 it.2.2.1
    have e9 := it.1
    have it := it.2
    rw [e9] at it o
    unfold tsS
    rw [if_neg (by omega), if_neg (by omega)]
    exact ⟨⟨by simp only []; omega, o.2.1⟩, it.1, by simp only []; omega, it.2.2⟩
theorem ts_s {Λ : Mm} {s : Int → Int} (hW : WL Λ) (h1 : 0 < Λ 0 0) (hf : tvT Λ s 9 < 10000) {k : Nat} (hk : (k : Int) + 1 < Λ 0 0) : tsN Λ s (tvT Λ s) (k + 1) = (bOr (tsN Λ s (tvT Λ s) k).1 (bShl 1 (itT Λ s (tsN Λ s (tvT Λ s) k).1 (tsN Λ s (tvT Λ s) k).2 (Λ 0 0).toNat)), itT Λ s (tsN Λ s (tvT Λ s) k).1 (tsN Λ s (tvT Λ s) k).2 (Λ 0 0).toNat) ∧ (tsN Λ s (tvT Λ s) k).1 < whl Λ := by
  have h0 := hW.1
  obtain ⟨i1, i2, i3, i4⟩ := ts_go hW h1 hf k (by omega)
  have e : tsN Λ s (tvT Λ s) (k + 1) = tsS Λ s (tvT Λ s) (tsN Λ s (tvT Λ s) k) := rfl
  rw [e]
  generalize tsN Λ s (tvT Λ s) k = q at i1 i2 i3 i4 ⊢
  have nw : q.1 ≠ whl Λ := fun h9 => by
    have p0 : 0 < 2 ^ (Λ 0 0).toNat := Nat.pow_pos (by decide)
    have w := bc_whl (Λ 0 0).toNat (by omega)
    rw [show ((2 ^ (Λ 0 0).toNat - 1 : Nat) : Int) = whl Λ by unfold whl; omega, ← h9] at w
    omega
  have it := it_nx hW (t := q.1) (a := q.2) (by omega) i2 i4
  refine ⟨?_, by omega⟩
  unfold tsS
  rw [if_neg (by omega), ← it.1, if_neg (by omega)]
