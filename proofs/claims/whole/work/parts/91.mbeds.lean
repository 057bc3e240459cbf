/-! The reference: beds. -/
def lsC (Λ : Mm) (s : Int → Int) (L : Int → Int) (p t : Int) (n : Nat) : Int := fd (fun c v => if csP Λ s p t (c : Int) = 0 then v else lesF v (wyW Λ s 1 (s (1 + p) * 9 + (c : Int)) + L (bOr t (bShl 1 (c : Int))))) (1000 + L t) n
def lsF (Λ : Mm) (s : Int → Int) : Nat → Int → Int
  | 0 => fun _ => 0
  | k + 1 => fun t => lsC Λ s (lsF Λ s k) (Λ 0 1 - ((k : Int) + 1)) t (Λ 0 0).toNat
theorem lesF_e (x y : Int) : (lesF x y = x ∨ lesF x y = y) ∧ lesF x y ≤ x ∧ lesF x y ≤ y := by
  unfold lesF
  split <;> omega
section
variable {Λ : Mm} {s : Int → Int} {L T : Int → Int} {p t : Int}
theorem ls_1 (n : Nat) : lsC Λ s L p t n ≤ 1000 + L t ∧ (∀ c : Nat, c < n → ¬ csP Λ s p t (c : Int) = 0 → lsC Λ s L p t n ≤ wyW Λ s 1 (s (1 + p) * 9 + (c : Int)) + L (bOr t (bShl 1 (c : Int)))) ∧ (lsC Λ s L p t n = 1000 + L t ∨ ∃ c : Nat, c < n ∧ ¬ csP Λ s p t (c : Int) = 0 ∧ lsC Λ s L p t n = wyW Λ s 1 (s (1 + p) * 9 + (c : Int)) + L (bOr t (bShl 1 (c : Int)))) := by
  induction n with
  | zero => exact ⟨Int.le_refl _, fun c h => absurd h (Nat.not_lt_zero c), Or.inl rfl⟩
  | succ n ih =>
    obtain ⟨h1, h2, h3⟩ := ih
    have e : lsC Λ s L p t (n + 1) = if csP Λ s p t (n : Int) = 0 then lsC Λ s L p t n else lesF (lsC Λ s L p t n) (wyW Λ s 1 (s (1 + p) * 9 + (n : Int)) + L (bOr t (bShl 1 (n : Int)))) := rfl
    by_cases hc : csP Λ s p t (n : Int) = 0
    · rw [e, if_pos hc]
      refine ⟨h1, fun c k1 k2 => ?_, h3.imp_right fun ⟨c, k1, k2, k3⟩ => ⟨c, by omega, k2, k3⟩⟩
      by_cases ec : c = n
      · rw [ec] at k2; exact absurd hc k2
      · exact h2 c (by omega) k2
    · rw [e, if_neg hc]
      have l := lesF_e (lsC Λ s L p t n) (wyW Λ s 1 (s (1 + p) * 9 + (n : Int)) + L (bOr t (bShl 1 (n : Int))))
      refine ⟨by omega, fun c k1 k2 => ?_, ?_⟩
      · by_cases ec : c = n
        · rw [ec]; exact l.2.2
        · have := h2 c (by omega) k2
          omega
      · rcases l.1 with l1 | l1
        · rw [l1]
          exact h3.imp_right fun ⟨c, k1, k2, k3⟩ => ⟨c, by omega, k2, k3⟩
        · exact Or.inr ⟨n, by omega, hc, l1⟩
theorem bb_1 (n : Nat) : T ((p + 1) * 512 + t) ≤ (bbN Λ s T p t n).2 ∧ (∀ b : Int, Λ 0 0 - n ≤ b → b < Λ 0 0 → ¬ csP Λ s p t b = 0 → bbG Λ s T p t b ≤ (bbN Λ s T p t n).2) ∧ (((bbN Λ s T p t n).2 = T ((p + 1) * 512 + t)) ∨ ∃ b : Int, Λ 0 0 - n ≤ b ∧ b < Λ 0 0 ∧ ¬ csP Λ s p t b = 0 ∧ (bbN Λ s T p t n).2 = bbG Λ s T p t b) ∧ (((bbN Λ s T p t n).1 = -1 ∧ ∀ b : Int, Λ 0 0 - n ≤ b → b < Λ 0 0 → ¬ (¬ csP Λ s p t b = 0 ∧ bbG Λ s T p t b = (bbN Λ s T p t n).2)) ∨ ((Λ 0 0 - n ≤ (bbN Λ s T p t n).1 ∧ (bbN Λ s T p t n).1 < Λ 0 0) ∧ (¬ csP Λ s p t (bbN Λ s T p t n).1 = 0 ∧ bbG Λ s T p t (bbN Λ s T p t n).1 = (bbN Λ s T p t n).2) ∧ ∀ b : Int, Λ 0 0 - n ≤ b → b < (bbN Λ s T p t n).1 → ¬ (¬ csP Λ s p t b = 0 ∧ bbG Λ s T p t b = (bbN Λ s T p t n).2))) := by
  induction n with
  | zero => exact ⟨Int.le_refl _, fun b h1 h2 => absurd h2 (by omega), Or.inl rfl, Or.inl ⟨rfl, fun b h1 h2 => absurd h2 (by omega)⟩⟩
  | succ n ih =>
    have e : bbN Λ s T p t (n + 1) = bbS Λ s T p t (Λ 0 0 - 1 - (n : Int)) (bbN Λ s T p t n) := rfl
    rw [e]
    generalize bbN Λ s T p t n = q at ih ⊢
    obtain ⟨h1, h2, h3, h4⟩ := ih
    unfold bbS
    by_cases hc : csP Λ s p t (Λ 0 0 - 1 - (n : Int)) = 0
    · rw [if_pos hc]
      refine ⟨h1, fun b k1 k2 k3 => ?_, h3.imp_right fun ⟨b, k1, k2⟩ => ⟨b, by omega, k2⟩, ?_⟩
      · by_cases eb : b = Λ 0 0 - 1 - (n : Int)
        · rw [eb] at k3; exact absurd hc k3
        · exact h2 b (by omega) k2 k3
      · rcases h4 with ⟨k1, k2⟩ | ⟨k1, k2, k3⟩
        · refine Or.inl ⟨k1, fun b g1 g2 g3 => ?_⟩
          by_cases eb : b = Λ 0 0 - 1 - (n : Int)
          · rw [eb] at g3; exact g3.1 hc
          · exact k2 b (by omega) g2 g3
        · refine Or.inr ⟨⟨by omega, k1.2⟩, k2, fun b g1 g2 g3 => ?_⟩
          by_cases eb : b = Λ 0 0 - 1 - (n : Int)
          · rw [eb] at g3; exact g3.1 hc
          · exact k3 b (by omega) g2 g3
    · rw [if_neg hc]
      by_cases hl : bbG Λ s T p t (Λ 0 0 - 1 - (n : Int)) < q.2
      · rw [if_pos hl]
        refine ⟨h1, fun b k1 k2 k3 => ?_, h3.imp_right fun ⟨b, k1, k2⟩ => ⟨b, by omega, k2⟩, ?_⟩
        · by_cases eb : b = Λ 0 0 - 1 - (n : Int)
          · rw [eb]; omega
          · exact h2 b (by omega) k2 k3
        · rcases h4 with ⟨k1, k2⟩ | ⟨k1, k2, k3⟩
          · refine Or.inl ⟨k1, fun b g1 g2 g3 => ?_⟩
            by_cases eb : b = Λ 0 0 - 1 - (n : Int)
            · rw [eb] at g3; omega
            · exact k2 b (by omega) g2 g3
          · refine Or.inr ⟨⟨by omega, k1.2⟩, k2, fun b g1 g2 g3 => ?_⟩
            by_cases eb : b = Λ 0 0 - 1 - (n : Int)
            · rw [eb] at g3; omega
            · exact k3 b (by omega) g2 g3
      · rw [if_neg hl]
        show T ((p + 1) * 512 + t) ≤ bbG Λ s T p t (Λ 0 0 - 1 - (n : Int)) ∧ (∀ b : Int, Λ 0 0 - ((n + 1 : Nat) : Int) ≤ b → b < Λ 0 0 → ¬ csP Λ s p t b = 0 → bbG Λ s T p t b ≤ bbG Λ s T p t (Λ 0 0 - 1 - (n : Int))) ∧ _
        refine ⟨by omega, fun b k1 k2 k3 => ?_, Or.inr ⟨Λ 0 0 - 1 - (n : Int), by omega, by omega, hc, rfl⟩, Or.inr ⟨⟨by simp only []; omega, by simp only []; omega⟩, ⟨hc, rfl⟩, fun b g1 g2 => absurd g2 (by simp only []; omega)⟩⟩
        by_cases eb : b = Λ 0 0 - 1 - (n : Int)
        · rw [eb]; exact Int.le_refl _
        · have := h2 b (by omega) k2 k3
          omega
theorem lsF_rg (hW : WL Λ) : ∀ (k : Nat) (t : Int), 0 ≤ lsF Λ s k t ∧ lsF Λ s k t ≤ 1000 * k
  | 0, t => by show 0 ≤ (0 : Int) ∧ (0 : Int) ≤ 1000 * ((0 : Nat) : Int); decide
  | k + 1, t => by
    have ih := lsF_rg hW k
    obtain ⟨h1, h2, h3⟩ := ls_1 (Λ := Λ) (s := s) (L := lsF Λ s k) (p := Λ 0 1 - ((k : Int) + 1)) (t := t) (Λ 0 0).toNat
    show 0 ≤ lsC Λ s (lsF Λ s k) (Λ 0 1 - ((k : Int) + 1)) t (Λ 0 0).toNat ∧ lsC Λ s (lsF Λ s k) (Λ 0 1 - ((k : Int) + 1)) t (Λ 0 0).toNat ≤ _
    have i1 := ih t
    refine ⟨?_, by omega⟩
    rcases h3 with h3 | ⟨c, k1, k2, k3⟩
    · omega
    · have i2 := ih (bOr t (bShl 1 (c : Int)))
      have b := ((wyW_i (s := s) hW).1 (s (1 + (Λ 0 1 - ((k : Int) + 1))) * 9 + (c : Int))).2
      unfold Bd at b
      omega
end
/-- the class's table, out of the reference's -/
def tM (Λ : Mm) (s : Int → Int) (j : Int) : Int := 1000 * (Λ 0 1 - j / 512) - lsF Λ s (Λ 0 1 - j / 512).toNat (j % 512)
theorem tM_at {Λ : Mm} {s : Int → Int} {p t : Int} (ht : 0 ≤ t ∧ t < 512) : tM Λ s (p * 512 + t) = 1000 * (Λ 0 1 - p) - lsF Λ s (Λ 0 1 - p).toNat t := by
  unfold tM
  rw [show (p * 512 + t) / 512 = p by omega, show (p * 512 + t) % 512 = t by omega]
theorem or512 {t b : Int} (ht : 0 ≤ t ∧ t < 512) (hb : 0 ≤ b ∧ b < 9) : 0 ≤ bOr t (bShl 1 b) ∧ bOr t (bShl 1 b) < 512 := by
  have h := bor_lt (t := t.toNat) (z := b.toNat) (n := 9) (by omega) (by omega) (by decide)
  rw [show ((t.toNat : Nat) : Int) = t by omega, show ((b.toNat : Nat) : Int) = b by omega] at h
  exact h
theorem tM_G {Λ : Mm} {s : Int → Int} {p t b : Int} (ht : 0 ≤ t ∧ t < 512) (hb : 0 ≤ b ∧ b < 9) : bbG Λ s (tM Λ s) p t b = 1000 * (Λ 0 1 - p) - (wyW Λ s 1 (s (1 + p) * 9 + b) + lsF Λ s (Λ 0 1 - (p + 1)).toNat (bOr t (bShl 1 b))) := by
  unfold bbG
  rw [tM_at (or512 ht hb)]
  omega
theorem ls_bb {Λ : Mm} {s : Int → Int} {p t : Int} (hW : WL Λ) (hp : 0 ≤ p ∧ p < Λ 0 1) (ht : 0 ≤ t ∧ t < 512) : (bbN Λ s (tM Λ s) p t (Λ 0 0).toNat).2 = 1000 * (Λ 0 1 - p) - lsF Λ s (Λ 0 1 - p).toNat t := by
  have h0 := hW.1
  obtain ⟨b1, b2, b3, _⟩ := bb_1 (Λ := Λ) (s := s) (T := tM Λ s) (p := p) (t := t) (Λ 0 0).toNat
  obtain ⟨l1, l2, l3⟩ := ls_1 (Λ := Λ) (s := s) (L := lsF Λ s (Λ 0 1 - (p + 1)).toNat) (p := p) (t := t) (Λ 0 0).toNat
  have e : lsF Λ s (Λ 0 1 - p).toNat t = lsC Λ s (lsF Λ s (Λ 0 1 - (p + 1)).toNat) p t (Λ 0 0).toNat := by
    rw [show (Λ 0 1 - p).toNat = (Λ 0 1 - (p + 1)).toNat + 1 by omega]
    show lsC Λ s (lsF Λ s (Λ 0 1 - (p + 1)).toNat) (Λ 0 1 - (((Λ 0 1 - (p + 1)).toNat : Int) + 1)) t (Λ 0 0).toNat = _
    rw [show Λ 0 1 - (((Λ 0 1 - (p + 1)).toNat : Int) + 1) = p by omega]
  rw [e]
  rw [tM_at (p := p + 1) ht] at b1 b3
  have g : ∀ b : Int, 0 ≤ b → b < Λ 0 0 → bbG Λ s (tM Λ s) p t b = 1000 * (Λ 0 1 - p) - (wyW Λ s 1 (s (1 + p) * 9 + b) + lsF Λ s (Λ 0 1 - (p + 1)).toNat (bOr t (bShl 1 b))) := fun b k1 k2 => tM_G ht (by omega)
  have ge : (bbN Λ s (tM Λ s) p t (Λ 0 0).toNat).2 ≥ 1000 * (Λ 0 1 - p) - lsC Λ s (lsF Λ s (Λ 0 1 - (p + 1)).toNat) p t (Λ 0 0).toNat := by
    rcases l3 with l3 | ⟨c, k1, k2, k3⟩
    · omega
    · have := b2 (c : Int) (by omega) (by omega) k2
      rw [g (c : Int) (by omega) (by omega)] at this
      omega
  have le : (bbN Λ s (tM Λ s) p t (Λ 0 0).toNat).2 ≤ 1000 * (Λ 0 1 - p) - lsC Λ s (lsF Λ s (Λ 0 1 - (p + 1)).toNat) p t (Λ 0 0).toNat := by
    rcases b3 with b3 | ⟨b, k1, k2, k3, k4⟩
    · omega
    · rw [g b (by omega) k2] at k4
      have := l2 b.toNat (by omega) (by rw [show ((b.toNat : Nat) : Int) = b by omega]; exact k3)
      rw [show ((b.toNat : Nat) : Int) = b by omega] at this
      omega
  omega
theorem tM_ok {Λ : Mm} {s : Int → Int} (hW : WL Λ) : LodgeOK Λ s (tM Λ s) := fun p h1 h2 t t1 t2 _ => by
  have ha := abI_rg hW
  have ht : 0 ≤ t ∧ t < 512 := by omega
  have r := lsF_rg (s := s) hW (Λ 0 1 - p).toNat t
  unfold LE
  rw [tM_at ht]
  refine ⟨?_, by omega, by omega⟩
  by_cases ep : p = Λ 0 1
  · rw [if_pos ep, ep]
    rw [show (Λ 0 1 - Λ 0 1).toNat = 0 by omega]
    show 1000 * (Λ 0 1 - Λ 0 1) - 0 = 0
    omega
  · rw [if_neg ep, ls_bb hW (by omega) ht]
def itN (Λ : Mm) (s : Int → Int) (p t : Int) (n : Nat) : Int := fd (fun i v => if csP Λ s p t (Λ 0 0 - 1 - (i : Int)) = 0 then v else if wyW Λ s 1 (s (1 + p) * 9 + (Λ 0 0 - 1 - (i : Int))) + lsF Λ s (Λ 0 1 - (p + 1)).toNat (bOr t (bShl 1 (Λ 0 0 - 1 - (i : Int)))) = lsF Λ s (Λ 0 1 - p).toNat t then Λ 0 0 - 1 - (i : Int) else v) (-1) n
def itP (Λ : Mm) (s : Int → Int) (p t b : Int) : Prop := ¬ csP Λ s p t b = 0 ∧ wyW Λ s 1 (s (1 + p) * 9 + b) + lsF Λ s (Λ 0 1 - (p + 1)).toNat (bOr t (bShl 1 b)) = lsF Λ s (Λ 0 1 - p).toNat t
theorem it_1 {Λ : Mm} {s : Int → Int} {p t : Int} : ∀ n : Nat, (itN Λ s p t n = -1 ∧ ∀ b : Int, Λ 0 0 - n ≤ b → b < Λ 0 0 → ¬ itP Λ s p t b) ∨ ((Λ 0 0 - n ≤ itN Λ s p t n ∧ itN Λ s p t n < Λ 0 0) ∧ itP Λ s p t (itN Λ s p t n) ∧ ∀ b : Int, Λ 0 0 - n ≤ b → b < itN Λ s p t n → ¬ itP Λ s p t b)
  | 0 => Or.inl ⟨rfl, fun b h1 h2 => absurd h2 (by omega)⟩
  | n + 1 => by
    have ih := it_1 (Λ := Λ) (s := s) (p := p) (t := t) n
    have e : itN Λ s p t (n + 1) = if csP Λ s p t (Λ 0 0 - 1 - (n : Int)) = 0 then itN Λ s p t n else if wyW Λ s 1 (s (1 + p) * 9 + (Λ 0 0 - 1 - (n : Int))) + lsF Λ s (Λ 0 1 - (p + 1)).toNat (bOr t (bShl 1 (Λ 0 0 - 1 - (n : Int)))) = lsF Λ s (Λ 0 1 - p).toNat t then Λ 0 0 - 1 - (n : Int) else itN Λ s p t n := rfl
    have keep : itN Λ s p t (n + 1) = itN Λ s p t n → ¬ itP Λ s p t (Λ 0 0 - 1 - (n : Int)) → (itN Λ s p t (n + 1) = -1 ∧ ∀ b : Int, Λ 0 0 - ((n + 1 : Nat) : Int) ≤ b → b < Λ 0 0 → ¬ itP Λ s p t b) ∨ ((Λ 0 0 - ((n + 1 : Nat) : Int) ≤ itN Λ s p t (n + 1) ∧ itN Λ s p t (n + 1) < Λ 0 0) ∧ itP Λ s p t (itN Λ s p t (n + 1)) ∧ ∀ b : Int, Λ 0 0 - ((n + 1 : Nat) : Int) ≤ b → b < itN Λ s p t (n + 1) → ¬ itP Λ s p t b) := fun k1 k2 => by
      rw [k1]
      rcases ih with ⟨i1, i2⟩ | ⟨i1, i2, i3⟩
      · refine Or.inl ⟨i1, fun b g1 g2 => ?_⟩
        by_cases eb : b = Λ 0 0 - 1 - (n : Int)
        · rw [eb]; exact k2
        · exact i2 b (by omega) g2
      · refine Or.inr ⟨⟨by omega, i1.2⟩, i2, fun b g1 g2 => ?_⟩
        by_cases eb : b = Λ 0 0 - 1 - (n : Int)
        · rw [eb]; exact k2
        · exact i3 b (by omega) g2
    by_cases hc : csP Λ s p t (Λ 0 0 - 1 - (n : Int)) = 0
    · exact keep (e.trans (if_pos hc)) fun h9 => h9.1 hc
    · by_cases hl : wyW Λ s 1 (s (1 + p) * 9 + (Λ 0 0 - 1 - (n : Int))) + lsF Λ s (Λ 0 1 - (p + 1)).toNat (bOr t (bShl 1 (Λ 0 0 - 1 - (n : Int)))) = lsF Λ s (Λ 0 1 - p).toNat t
      · rw [e.trans ((if_neg hc).trans (if_pos hl))]
        exact Or.inr ⟨⟨by omega, by omega⟩, ⟨hc, hl⟩, fun b g1 g2 => absurd g2 (by omega)⟩
      · exact keep (e.trans ((if_neg hc).trans (if_neg hl))) fun h9 => hl h9.2
theorem it_bb {Λ : Mm} {s : Int → Int} {p t : Int} (hW : WL Λ) (hp : 0 ≤ p ∧ p < Λ 0 1) (ht : 0 ≤ t ∧ t < 512) : itN Λ s p t (Λ 0 0).toNat = (bbN Λ s (tM Λ s) p t (Λ 0 0).toNat).1 := by
  have h0 := hW.1
  have hm := ls_bb (s := s) hW hp ht
  obtain ⟨_, _, _, b4⟩ := bb_1 (Λ := Λ) (s := s) (T := tM Λ s) (p := p) (t := t) (Λ 0 0).toNat
  have i4 := it_1 (Λ := Λ) (s := s) (p := p) (t := t) (Λ 0 0).toNat
  have iff9 : ∀ b : Int, 0 ≤ b → b < Λ 0 0 → (itP Λ s p t b ↔ (¬ csP Λ s p t b = 0 ∧ bbG Λ s (tM Λ s) p t b = (bbN Λ s (tM Λ s) p t (Λ 0 0).toNat).2)) := fun b k1 k2 => by
    rw [hm, tM_G ht (by omega)]
    unfold itP
    constructor
    · rintro ⟨g1, g2⟩
      exact ⟨g1, by omega⟩
    · rintro ⟨g1, g2⟩
      exact ⟨g1, by omega⟩
  generalize (bbN Λ s (tM Λ s) p t (Λ 0 0).toNat).1 = x at b4 ⊢
  generalize itN Λ s p t (Λ 0 0).toNat = y at i4 ⊢
  rcases b4 with ⟨b1, b2⟩ | ⟨b1, b2, b3⟩
  · rcases i4 with ⟨i1, i2⟩ | ⟨i1, i2, i3⟩
    · omega
    · exact absurd ((iff9 y (by omega) i1.2).mp i2) (b2 y (by omega) i1.2)
  · rcases i4 with ⟨i1, i2⟩ | ⟨i1, i2, i3⟩
    · exact absurd ((iff9 x (by omega) b1.2).mpr b2) (i2 x (by omega) b1.2)
    · rcases Int.lt_trichotomy x y with h | h | h
      · exact absurd ((iff9 x (by omega) b1.2).mpr b2) (i3 x (by omega) h)
      · exact h.symm
      · exact absurd ((iff9 y (by omega) i1.2).mp i2) (b3 y (by omega) h)
theorem tb_sum {Λ : Mm} {s : Int → Int} {T : Int → Int} (hW : WL Λ) (hσ : WS Λ 0 (sig0 s)) (hO : LodgeOK Λ s T) : ∀ n : Nat, (n : Int) ≤ Λ 0 1 → T 0 = 1000 * (tbN Λ s T n).2.1 - (tbN Λ s T n).2.2 + T ((n : Int) * 512 + (tbN Λ s T n).1) ∧ (tbN Λ s T n).2.2 ≤ 72 * n
  | 0, _ => by
    show T 0 = 1000 * 0 - 0 + T (((0 : Nat) : Int) * 512 + 0) ∧ (0 : Int) ≤ 72 * ((0 : Nat) : Int)
    rw [show ((0 : Nat) : Int) * 512 + 0 = 0 by decide]
    omega
  | n + 1, hn => by
    have h0 := hW.1
    have ih := tb_sum hW hσ hO n (by omega)
    have r := tbN_rg hW hO n (by omega)
    have ha := abI_rg hW
    have le := (hO (n : Int) (by omega) (by omega) _ r.1.1.1 r.1.1.2 r.1.2).1
    rw [if_neg (by omega)] at le
    have b := (bbN_rg (s := s) hW (hO.rw (p := (n : Int)) (by omega)) r.1.1 r.1.2 (Λ 0 0).toNat (by omega)).2
    have hw := sig0_WS_n hσ (p := (n : Int)) (by omega)
    have e : tbN Λ s T (n + 1) = tkS Λ s T (n : Int) (tbN Λ s T n) := rfl
    rw [e]
    unfold tkS
    rcases b with ⟨b1, b2⟩ | ⟨b1, b2, b3⟩
    · rw [if_pos b1]
      rw [show ((n + 1 : Nat) : Int) = (n : Int) + 1 by omega]
      omega
    · rw [if_neg (by omega)]
      have c1 := cs_1 (show ¬ csP Λ s (n : Int) (tbN Λ s T n).1 (bbN Λ s T (n : Int) (tbN Λ s T n).1 (Λ 0 0).toNat).1 = 0 by omega)
      have w7 := wy_72 (s := s) hW (a := s (1 + (n : Int))) (z := (bbN Λ s T (n : Int) (tbN Λ s T n).1 (Λ 0 0).toNat).1) (by omega) b1
      have fc := (far_cost (s := s) hW (s (1 + (n : Int)) * 9 + (bbN Λ s T (n : Int) (tbN Λ s T n).1 (Λ 0 0).toNat).1)).mp c1.2.2
      unfold bbG at b3
      rw [show ((n + 1 : Nat) : Int) = (n : Int) + 1 by omega]
      simp only []
      omega
theorem lodge_fin {Λ : Mm} {s : Int → Int} (hW : WL Λ) (hσ : WS Λ 0 (sig0 s)) : Λ 0 1 - bDiv (lsF Λ s (Λ 0 1).toNat 0) 1000 = (tbN Λ s (tM Λ s) (Λ 0 1).toNat).2.1 ∧ bRem (lsF Λ s (Λ 0 1).toNat 0) 1000 = (tbN Λ s (tM Λ s) (Λ 0 1).toNat).2.2 := by
  have h8 := hW.2.1
  have hO := tM_ok (s := s) hW
  have h := tb_sum hW hσ hO (Λ 0 1).toNat (by omega)
  have r := tbN_rg hW hO (Λ 0 1).toNat (by omega)
  have ha := abI_rg hW
  have t0 := tM_at (Λ := Λ) (s := s) (p := 0) (t := 0) (by decide)
  rw [show (0 : Int) * 512 + 0 = 0 by decide, show Λ 0 1 - 0 = Λ 0 1 by omega] at t0
  have t1 := tM_at (Λ := Λ) (s := s) (p := ((Λ 0 1).toNat : Int)) (t := (tbN Λ s (tM Λ s) (Λ 0 1).toNat).1) (by omega)
  rw [show (Λ 0 1 - ((Λ 0 1).toNat : Int)).toNat = 0 by omega] at t1
  have t2 : lsF Λ s 0 (tbN Λ s (tM Λ s) (Λ 0 1).toNat).1 = 0 := rfl
  have lr := lsF_rg (s := s) hW (Λ 0 1).toNat 0
  rw [bDiv_nn (by omega) (by decide), bRem_nn (by omega) (by decide)]
  omega
theorem mp_canLie {l : Launch} {γ : Gh} {ρ m : Mm} {p c t : Int} {s : Int → Int} {Λ : Mm} {hl tl : List Int} (hL : LY ρ) (hR : MR m) (hW : WL Λ) (hM : MLand m Λ hl tl) (hs : MRow m s) (hσ : WS Λ 0 (sig0 s)) (hr : RF (Λ 0 0) m (wyW Λ s)) (hw : W2 4608 (wyW Λ s)) (hp : 0 ≤ p ∧ p < Λ 0 1) (hc : 0 ≤ c ∧ c < Λ 0 0) : gE l γ μX11_canLie 0 0 0 (rI KK fun x ρ9 m9 => ρ = ρ9 ∧ MR m9 ∧ csP Λ s p t c = x ∧ m = m9) xN KK ρ m [vR 84, vI p, vI c, vI t] := by
  refine gE.ofw cl_X11.2 ?_ rfl rfl (Nat.le_of_ble_eq_true rfl)
  show gT l γ μX11_canLie 0 0 0 _ _ KK ρ m 0 [some (vR 84), some (vI p), some (vI c), some (vI t)] []
  have hn1 := hW.1
  have hn8 := hW.2.1
  have hpw := sig0_WS_n hσ hp
  have hbd := hW.2.2.1 c hc.1 hc.2
  have rcs := (hr (s (1 + p)) c (by omega) (by omega) hc.1 hc.2).2
  have b9 := (hw (s (1 + p) * 9 + c)).2
  have t9 := tr_lt b9
  have g9 := tr_rg b9 (Int.le_refl _)
  have fc9 := far_cost (s := s) hW (s (1 + p) * 9 + c)
  refine tz_aload0 (n := 1) (g_at ck_X11_canLie 0 rfl) rfl (g_ne kd_84) ?_
  refine tz_getAv (n := 4) (a := 86) fk_X11_20 kd_84 (ly_84_6 hL) (g_at ck_X11_canLie 1 rfl) rfl ?_
  refine tz_iload2 (n := 5) (g_at ck_X11_canLie 2 rfl) rfl ?_
  refine tz_iald (n := 6) kd_86 (by omega) (g_at ck_X11_canLie 3 rfl) rfl ?_
  rw [(hM.2.2.1 c hc.1 hc.2).2.1]
  refine tz_iconst (n := 7) (g_at ck_X11_canLie 4 rfl) rfl ?_
  refine tz_icmp_ne (n := 10) (tgt := 46) (g_at ck_X11_canLie 5 rfl) rfl rfl (by omega) (fun h7 => ?_) (fun h7 => ?_)
  · skip
    refine tz_iconst (n := 47) (g_at ck_X11_canLie 29 rfl) rfl ?_
    exact tz_bret (g_at ck_X11_canLie 30 rfl) rfl (by decide) (rI_mk ⟨rfl, hR, if_neg (fun h9 => h7 h9.1), rfl⟩)
  · skip
    refine tz_iload3 (n := 11) (g_at ck_X11_canLie 6 rfl) rfl ?_
    refine tz_iload2 (n := 12) (g_at ck_X11_canLie 7 rfl) rfl ?_
    refine tz_ishr (n := 13) (g_at ck_X11_canLie 8 rfl) rfl ?_
    refine tz_iconst (n := 14) (g_at ck_X11_canLie 9 rfl) rfl ?_
    refine tz_iand (n := 15) (g_at ck_X11_canLie 10 rfl) rfl ?_
    refine tz_if_ne (n := 18) (tgt := 46) (g_at ck_X11_canLie 11 rfl) rfl rfl (bAnd_rg _ _) (fun h15 => ?_) (fun h15 => ?_)
    · skip
      refine tz_iconst (n := 47) (g_at ck_X11_canLie 29 rfl) rfl ?_
      exact tz_bret (g_at ck_X11_canLie 30 rfl) rfl (by decide) (rI_mk ⟨rfl, hR, if_neg (fun h9 => h15 h9.2.1), rfl⟩)
    · skip
      refine tz_aload0 (n := 19) (g_at ck_X11_canLie 12 rfl) rfl (g_ne kd_84) ?_
      refine tz_getAv (n := 22) (a := 111) fk_X11_99 kd_84 (ly_84_53 hL) (g_at ck_X11_canLie 13 rfl) rfl ?_
      refine tz_bipush (n := 24) (g_at ck_X11_canLie 14 rfl) rfl rfl ?_
      refine tz_aload0 (n := 25) (g_at ck_X11_canLie 15 rfl) rfl (g_ne kd_84) ?_
      refine tz_getAv (n := 28) (a := 103) fk_X11_75 kd_84 (ly_84_43 hL) (g_at ck_X11_canLie 16 rfl) rfl ?_
      refine tz_iconst (n := 29) (g_at ck_X11_canLie 17 rfl) rfl ?_
      refine tz_iload1 (n := 30) (g_at ck_X11_canLie 18 rfl) rfl ?_
      refine tz_iadd (n := 31) (g_at ck_X11_canLie 19 rfl) rfl ?_
      refine tz_iald (n := 32) kd_103 (by omega) (g_at ck_X11_canLie 20 rfl) rfl ?_
      rw [hs (1 + p) (by omega) (by omega)]
      refine tz_imul (n := 33) (g_at ck_X11_canLie 21 rfl) rfl ?_
      refine tz_iload2 (n := 34) (g_at ck_X11_canLie 22 rfl) rfl ?_
      refine tz_iadd (n := 35) (g_at ck_X11_canLie 23 rfl) rfl ?_
      refine tz_iald (n := 36) kd_111 (by omega) (g_at ck_X11_canLie 24 rfl) rfl ?_
      rw [rcs]
      refine tz_sipush (n := 39) (g_at ck_X11_canLie 25 rfl) rfl rfl ?_
      refine tz_icmp_ge (n := 42) (tgt := 46) (g_at ck_X11_canLie 26 rfl) rfl rfl (by omega) (fun h39 => ?_) (fun h39 => ?_)
      · skip
        refine tz_iconst (n := 47) (g_at ck_X11_canLie 29 rfl) rfl ?_
        exact tz_bret (g_at ck_X11_canLie 30 rfl) rfl (by decide) (rI_mk ⟨rfl, hR, if_neg (fun h9 => absurd (t9.mpr (fc9.mp h9.2.2)) (by omega)), rfl⟩)
      · skip
        refine tz_iconst (n := 43) (g_at ck_X11_canLie 27 rfl) rfl ?_
        refine tz_goto (tgt := 47) (g_at ck_X11_canLie 28 rfl) rfl ?_
        exact tz_bret (g_at ck_X11_canLie 30 rfl) rfl (by decide) (rI_mk ⟨rfl, hR, if_pos ⟨h7, h15, fc9.mpr (t9.mp (by omega))⟩, rfl⟩)
theorem mp_lies {l : Launch} {γ : Gh} {ρ m : Mm} {p c t : Int} {s : Int → Int} {Λ : Mm} {hl tl : List Int} (hL : LY ρ) (hR : MR m) (hW : WL Λ) (hM : MLand m Λ hl tl) (hs : MRow m s) (hσ : WS Λ 0 (sig0 s)) (hr : RF (Λ 0 0) m (wyW Λ s)) (hw : W2 4608 (wyW Λ s)) (hp : 0 ≤ p ∧ p < Λ 0 1) (hc : 0 ≤ c ∧ c < Λ 0 0) (ht : 0 ≤ t ∧ t < 512) (hk : ¬ csP Λ s p t c = 0) : gE l γ μX11_lies 0 0 0 (rI KK fun x ρ9 m9 => ρ = ρ9 ∧ MR m9 ∧ wyW Λ s 1 (s (1 + p) * 9 + c) + m 113 (512 * (p + 1) + bOr t (bShl 1 c)) = x ∧ m = m9) xN KK ρ m [vR 84, vI p, vI c, vI t] := by
  refine gE.ofw cl_X11.2 ?_ rfl rfl (Nat.le_of_ble_eq_true rfl)
  show gT l γ μX11_lies 0 0 0 _ _ KK ρ m 0 [some (vR 84), some (vI p), some (vI c), some (vI t)] []
  have hn1 := hW.1
  have hn8 := hW.2.1
  have hpw := sig0_WS_n hσ hp
  have hbd := hW.2.2.1 c hc.1 hc.2
  have rcs := (hr (s (1 + p)) c (by omega) (by omega) hc.1 hc.2).2
  have b9 := (hw (s (1 + p) * 9 + c)).2
  have t9 := tr_lt b9
  have g9 := tr_rg b9 (Int.le_refl _)
  have fc9 := far_cost (s := s) hW (s (1 + p) * 9 + c)
  have ho9 := or512 ht (b := c) (by omega)
  have id9 := tr_id b9 (fc9.mp (cs_1 hk).2.2)
  refine tz_aload0 (n := 1) (g_at ck_X11_lies 0 rfl) rfl (g_ne kd_84) ?_
  refine tz_getAv (n := 4) (a := 111) fk_X11_99 kd_84 (ly_84_53 hL) (g_at ck_X11_lies 1 rfl) rfl ?_
  refine tz_bipush (n := 6) (g_at ck_X11_lies 2 rfl) rfl rfl ?_
  refine tz_aload0 (n := 7) (g_at ck_X11_lies 3 rfl) rfl (g_ne kd_84) ?_
  refine tz_getAv (n := 10) (a := 103) fk_X11_75 kd_84 (ly_84_43 hL) (g_at ck_X11_lies 4 rfl) rfl ?_
  refine tz_iconst (n := 11) (g_at ck_X11_lies 5 rfl) rfl ?_
  refine tz_iload1 (n := 12) (g_at ck_X11_lies 6 rfl) rfl ?_
  refine tz_iadd (n := 13) (g_at ck_X11_lies 7 rfl) rfl ?_
  refine tz_iald (n := 14) kd_103 (by omega) (g_at ck_X11_lies 8 rfl) rfl ?_
  rw [hs (1 + p) (by omega) (by omega)]
  refine tz_imul (n := 15) (g_at ck_X11_lies 9 rfl) rfl ?_
  refine tz_iload2 (n := 16) (g_at ck_X11_lies 10 rfl) rfl ?_
  refine tz_iadd (n := 17) (g_at ck_X11_lies 11 rfl) rfl ?_
  refine tz_iald (n := 18) kd_111 (by omega) (g_at ck_X11_lies 12 rfl) rfl ?_
  rw [rcs, id9]
  refine tz_aload0 (n := 19) (g_at ck_X11_lies 13 rfl) rfl (g_ne kd_84) ?_
  refine tz_getAv (n := 22) (a := 113) fk_X11_105 kd_84 (ly_84_55 hL) (g_at ck_X11_lies 14 rfl) rfl ?_
  refine tz_sipush (n := 25) (g_at ck_X11_lies 15 rfl) rfl rfl ?_
  refine tz_iload1 (n := 26) (g_at ck_X11_lies 16 rfl) rfl ?_
  refine tz_iconst (n := 27) (g_at ck_X11_lies 17 rfl) rfl ?_
  refine tz_iadd (n := 28) (g_at ck_X11_lies 18 rfl) rfl ?_
  refine tz_imul (n := 29) (g_at ck_X11_lies 19 rfl) rfl ?_
  refine tz_iload3 (n := 30) (g_at ck_X11_lies 20 rfl) rfl ?_
  refine tz_iconst (n := 31) (g_at ck_X11_lies 21 rfl) rfl ?_
  refine tz_iload2 (n := 32) (g_at ck_X11_lies 22 rfl) rfl ?_
  refine tz_ishl (n := 33) (g_at ck_X11_lies 23 rfl) rfl ?_
  refine tz_ior (n := 34) (g_at ck_X11_lies 24 rfl) rfl ?_
  refine tz_iadd (n := 35) (g_at ck_X11_lies 25 rfl) rfl ?_
  refine tz_iald (n := 36) kd_113 (by omega) (g_at ck_X11_lies 26 rfl) rfl ?_
  refine tz_iadd (n := 37) (g_at ck_X11_lies 27 rfl) rfl ?_
  exact tz_iret (g_at ck_X11_lies 28 rfl) rfl (rI_mk ⟨rfl, hR, rfl, rfl⟩)
