/-! The tour. -/
def coP (Λ : Mm) (s : Int → Int) (T : Int → Int) (t a z : Int) : Int := mn2 10000 (wyW Λ s 1 (a * 9 + z) + T (bOr t (bShl 1 z) * 9 + z))
def nxS (Λ : Mm) (s : Int → Int) (T : Int → Int) (t a z : Int) (q : Int × Int) : Int × Int := if bAnd (bShr t z) 1 = 0 ∧ coP Λ s T t a z < q.2 then (z, coP Λ s T t a z) else q
def nxN (Λ : Mm) (s : Int → Int) (T : Int → Int) (t a : Int) (n : Nat) : Int × Int := fd (fun z q => nxS Λ s T t a (z : Int) q) (-1, 10000) n
def whl (Λ : Mm) : Int := ((2 ^ (Λ 0 0).toNat : Nat) : Int) - 1
theorem bor_up {t z n : Nat} (ht : t < 2 ^ n) (hz : z < n) (hn : n ≤ 9) (hb : bAnd (bShr (t : Int) (z : Int)) 1 = 0) (ho : t % 2 = 1) : (t : Int) < bOr (t : Int) (bShl 1 (z : Int)) ∧ bOr (t : Int) (bShl 1 (z : Int)) < ((2 ^ n : Nat) : Int) ∧ bOr (t : Int) (bShl 1 (z : Int)) % 2 = 1 ∧ bAnd (bShr (bOr (t : Int) (bShl 1 (z : Int))) (z : Int)) 1 = 1 := by
  have h2 : 2 ^ n ≤ 2 ^ 9 := Nat.pow_le_pow_right (by decide) hn
  have h3 : 2 ^ z < 2 ^ n := Nat.pow_lt_pow_right (by decide) hz
  have h4 := Nat.or_lt_two_pow ht h3
  rw [bBit (by omega) (by omega)] at hb
  rw [bShl_1 z (by omega), bOr_nn (by omega) (by omega), bBit (by omega) (by omega)]
  have hl : t ≤ t ||| 2 ^ z := Nat.left_le_or
  have hz0 : t.testBit z = false := by
    cases h : t.testBit z
    · rfl
    · rw [h] at hb; exact absurd hb (by decide)
  have h1 : (t ||| 2 ^ z).testBit z = true := by rw [Nat.testBit_or, Nat.testBit_two_pow_self, Bool.or_true]
  have hne : t ||| 2 ^ z ≠ t := fun e => by rw [e, hz0] at h1; exact absurd h1 (by decide)
  have hm : (t ||| 2 ^ z) % 2 = 1 := by
    have e0 : (t ||| 2 ^ z).testBit 0 = true := by
      rw [Nat.testBit_or, Nat.testBit_zero, ho]
      rfl
    rw [Nat.testBit_zero] at e0
    exact of_decide_eq_true e0
  refine ⟨by omega, by omega, by omega, by rw [h1]; rfl⟩
/-- what stands behind set t lies within bounds -/
def rwT (Λ : Mm) (T : Int → Int) (t : Int) : Prop := ∀ z, 0 ≤ z → z < Λ 0 0 → bAnd (bShr t z) 1 = 0 → 0 ≤ T (bOr t (bShl 1 z) * 9 + z) ∧ T (bOr t (bShl 1 z) * 9 + z) ≤ 10000
section
variable {Λ : Mm} {s : Int → Int} {T T' : Int → Int} {t a z : Int}
theorem coP_rg (hW : WL Λ) (hr : rwT Λ T t) (hz : 0 ≤ z ∧ z < Λ 0 0) (hb : bAnd (bShr t z) 1 = 0) : 0 ≤ coP Λ s T t a z ∧ coP Λ s T t a z ≤ 10000 := by
  have h1 := hr z hz.1 hz.2 hb
  have h2 := (wyW_B hW s).1 (a * 9 + z)
  unfold coP mn2
  split <;> omega
theorem nxN_rg (hW : WL Λ) (hr : rwT Λ T t) : ∀ n : Nat, (n : Int) ≤ Λ 0 0 → (0 ≤ (nxN Λ s T t a n).2 ∧ (nxN Λ s T t a n).2 ≤ 10000) ∧ ((nxN Λ s T t a n).1 = -1 ∧ (nxN Λ s T t a n).2 = 10000 ∨ (0 ≤ (nxN Λ s T t a n).1 ∧ (nxN Λ s T t a n).1 < Λ 0 0) ∧ bAnd (bShr t (nxN Λ s T t a n).1) 1 = 0 ∧ (nxN Λ s T t a n).2 = coP Λ s T t a (nxN Λ s T t a n).1)
  | 0, _ => ⟨by show (0 : Int) ≤ 10000 ∧ (10000 : Int) ≤ 10000; decide, Or.inl ⟨rfl, rfl⟩⟩
  | n + 1, hn => by
    have ih := nxN_rg hW hr n (by omega)
    have e : nxN Λ s T t a (n + 1) = nxS Λ s T t a (n : Int) (nxN Λ s T t a n) := rfl
    rw [e]
    unfold nxS
    split
    · rename_i hc
      have hg := coP_rg (s := s) (a := a) hW hr (show 0 ≤ (n : Int) ∧ (n : Int) < Λ 0 0 by omega) hc.1
      exact ⟨hg, Or.inr ⟨⟨by simp only []; omega, by simp only []; omega⟩, hc.1, rfl⟩⟩
    · exact ih
theorem nxN_congr (hn9 : Λ 0 0 ≤ 9) (ht : 0 ≤ t ∧ t < ((2 ^ (Λ 0 0).toNat : Nat) : Int)) (ho : t % 2 = 1) (h : ∀ k z, t < k → 0 ≤ z → z < 9 → T (k * 9 + z) = T' (k * 9 + z)) : ∀ n : Nat, (n : Int) ≤ Λ 0 0 → nxN Λ s T t a n = nxN Λ s T' t a n
  | 0, _ => rfl
  | n + 1, hn => by
    have ih := nxN_congr hn9 ht ho h n (by omega)
    show nxS Λ s T t a (n : Int) (nxN Λ s T t a n) = nxS Λ s T' t a (n : Int) (nxN Λ s T' t a n)
    rw [ih]
    unfold nxS
    by_cases hb : bAnd (bShr t (n : Int)) 1 = 0
    · have hu := bor_up (t := t.toNat) (z := n) (n := (Λ 0 0).toNat) (by omega) (by omega) (by omega) (by rw [show ((t.toNat : Nat) : Int) = t by omega]; exact hb) (by omega)
      rw [show ((t.toNat : Nat) : Int) = t by omega] at hu
      have e : coP Λ s T t a (n : Int) = coP Λ s T' t a (n : Int) := by
        unfold coP
        rw [h _ (n : Int) hu.1 (by omega) (by omega)]
      rw [e]
    · rw [if_neg (fun h9 => hb h9.1), if_neg (fun h9 => hb h9.1)]
end
def TE (Λ : Mm) (s : Int → Int) (T : Int → Int) (t a : Int) : Prop := T (t * 9 + a) = (if t = whl Λ then wyW Λ s 1 (a * 9 + 0) else (nxN Λ s T t a (Λ 0 0).toNat).2) ∧ 0 ≤ T (t * 9 + a) ∧ T (t * 9 + a) ≤ 10000
theorem TE.keep {Λ : Mm} {s : Int → Int} {T T' : Int → Int} {t a : Int} (hn9 : 0 ≤ Λ 0 0 ∧ Λ 0 0 ≤ 9) (ht : 0 ≤ t ∧ t < ((2 ^ (Λ 0 0).toNat : Nat) : Int)) (ho : t % 2 = 1) (h : TE Λ s T t a) (h1 : T' (t * 9 + a) = T (t * 9 + a)) (h2 : ∀ k z, t < k → 0 ≤ z → z < 9 → T' (k * 9 + z) = T (k * 9 + z)) : TE Λ s T' t a := by
  unfold TE at h ⊢
  rw [h1, nxN_congr hn9.2 ht ho h2 _ (by omega)]
  exact h
def TourOK (Λ : Mm) (s : Int → Int) (T : Int → Int) (lo : Int) : Prop := ∀ t, lo < t → t ≤ whl Λ → t % 2 = 1 → ∀ a, 0 ≤ a → a < Λ 0 0 → bAnd (bShr t a) 1 = 1 → TE Λ s T t a
theorem TourOK.rw {Λ : Mm} {s : Int → Int} {T : Int → Int} {t lo : Int} (hn9 : 0 ≤ Λ 0 0 ∧ Λ 0 0 ≤ 9) (h : TourOK Λ s T lo) (ht : 0 ≤ t ∧ t < ((2 ^ (Λ 0 0).toNat : Nat) : Int)) (ho : t % 2 = 1) (hl : lo ≤ t) : rwT Λ T t := fun z h1 h2 hb => by
  have hu := bor_up (t := t.toNat) (z := z.toNat) (n := (Λ 0 0).toNat) (by omega) (by omega) (by omega) (by rw [show ((t.toNat : Nat) : Int) = t by omega, show ((z.toNat : Nat) : Int) = z by omega]; exact hb) (by omega)
  rw [show ((t.toNat : Nat) : Int) = t by omega, show ((z.toNat : Nat) : Int) = z by omega] at hu
  exact (h _ (by omega) (by unfold whl; omega) hu.2.2.1 z h1 h2 hu.2.2.2).2
def tsS (Λ : Mm) (s : Int → Int) (T : Int → Int) (q : Int × Int) : Int × Int := if q.2 = -1 then q else if (nxN Λ s T q.1 q.2 (Λ 0 0).toNat).1 = -1 then (q.1, -1) else (bOr q.1 (bShl 1 (nxN Λ s T q.1 q.2 (Λ 0 0).toNat).1), (nxN Λ s T q.1 q.2 (Λ 0 0).toNat).1)
def tsN (Λ : Mm) (s : Int → Int) (T : Int → Int) (n : Nat) : Int × Int := fd (fun _ q => tsS Λ s T q) (1, 0) n
theorem tsN_stay {Λ : Mm} {s : Int → Int} {T : Int → Int} {k : Nat} (h : (tsN Λ s T k).2 = -1) : ∀ n : Nat, k ≤ n → (tsN Λ s T n).2 = -1
  | 0, hn => by
    have : k = 0 := by omega
    subst this
    exact h
  | n + 1, hn => by
    by_cases e : k = n + 1
    · subst e; exact h
    · have ih := tsN_stay h n (by omega)
      show (tsS Λ s T (tsN Λ s T n)).2 = -1
      unfold tsS
      rw [if_pos ih]
      exact ih
theorem tsN_rg {Λ : Mm} (hW : WL Λ) {s : Int → Int} {T : Int → Int} (hO : TourOK Λ s T 0) (h1 : 0 < Λ 0 0) : ∀ n : Nat, (1 ≤ (tsN Λ s T n).1 ∧ (tsN Λ s T n).1 < ((2 ^ (Λ 0 0).toNat : Nat) : Int)) ∧ (tsN Λ s T n).1 % 2 = 1 ∧ (-1 ≤ (tsN Λ s T n).2 ∧ (tsN Λ s T n).2 < Λ 0 0)
  | 0 => by
    have : 2 ^ 1 ≤ 2 ^ (Λ 0 0).toNat := Nat.pow_le_pow_right (by decide) (by omega)
    show (1 ≤ (1 : Int) ∧ (1 : Int) < ((2 ^ (Λ 0 0).toNat : Nat) : Int)) ∧ (1 : Int) % 2 = 1 ∧ (-1 ≤ (0 : Int) ∧ (0 : Int) < Λ 0 0)
    omega
  | n + 1 => by
    have hn := hW.1
    have ih := tsN_rg hW hO h1 n
    have e : tsN Λ s T (n + 1) = tsS Λ s T (tsN Λ s T n) := rfl
    rw [e]
    unfold tsS
    split
    · exact ih
    · split
      · exact ⟨ih.1, ih.2.1, by simp only []; omega⟩
      · rename_i hne
        have hx := (nxN_rg (s := s) (a := (tsN Λ s T n).2) hW (hO.rw hn (by omega) ih.2.1 (by omega)) (Λ 0 0).toNat (by omega)).2
        rcases hx with hx | hx
        · exact absurd hx.1 hne
        · generalize (nxN Λ s T (tsN Λ s T n).1 (tsN Λ s T n).2 (Λ 0 0).toNat).1 = b at hx ⊢
          have hu := bor_up (t := (tsN Λ s T n).1.toNat) (z := b.toNat) (n := (Λ 0 0).toNat) (by omega) (by omega) (by omega) (by rw [show (((tsN Λ s T n).1.toNat : Nat) : Int) = (tsN Λ s T n).1 by omega, show ((b.toNat : Nat) : Int) = b by omega]; exact hx.2.1) (by omega)
          rw [show (((tsN Λ s T n).1.toNat : Nat) : Int) = (tsN Λ s T n).1 by omega, show ((b.toNat : Nat) : Int) = b by omega] at hu
          exact ⟨⟨by simp only []; omega, hu.2.1⟩, hu.2.2.1, by simp only []; omega⟩
theorem co_val {x : Int} {n : Int} {c : Prop} {q : Int × Int} {g : Int → Int} (h : q.1 = -1 ∧ q.2 = x ∨ (0 ≤ q.1 ∧ q.1 < n) ∧ c ∧ q.2 = g q.1) : (if q.1 = -1 then x else g q.1) = q.2 := by
  rcases h with h | h
  · rw [if_pos h.1, h.2]
  · rw [if_neg (by omega), h.2.2]
theorem sp_stage {l : Launch} {γ : Gh} {ρ m : Mm} {a z : Int} (hR : MR m) : gE l γ μX9_stage 0 0 0 (rI KK fun x ρ9 m9 => ρ = ρ9 ∧ MR m9 ∧ a * 9 + z = x ∧ m = m9) xN KK ρ m [vI a, vI z] := by
  refine gE.ofw cl_X9.2 ?_ rfl rfl (Nat.le_of_ble_eq_true rfl)
  show gT l γ μX9_stage 0 0 0 _ _ KK ρ m 0 [some (vI a), some (vI z)] []
  refine tz_iload0 (n := 1) (g_at ck_X9_stage 0 rfl) rfl ?_
  refine tz_bipush (n := 3) (g_at ck_X9_stage 1 rfl) rfl rfl ?_
  refine tz_imul (n := 4) (g_at ck_X9_stage 2 rfl) rfl ?_
  refine tz_iload1 (n := 5) (g_at ck_X9_stage 3 rfl) rfl ?_
  refine tz_iadd (n := 6) (g_at ck_X9_stage 4 rfl) rfl ?_
  exact tz_iret (g_at ck_X9_stage 5 rfl) rfl (rI_mk ⟨rfl, hR, rfl, rfl⟩)
theorem sp_costOn {l : Launch} {γ : Gh} {ρ m : Mm} {t a z : Int} {ld : Int} {Λ : Mm} {hl tl : List Int} (hL : LY ρ) (hLw : ρ 71 0 = ld) (hS : isS ρ ld) (hR : MR m) (hW : WL Λ) (hG : LandC m ld Λ hl tl) {s : Int → Int} (hV : SvC m Λ s) (ht : 0 ≤ t ∧ t < ((2 ^ (Λ 0 0).toNat : Nat) : Int)) (ha : 0 ≤ a ∧ a < Λ 0 0) (hz : z = -1 ∨ ((0 ≤ z ∧ z < Λ 0 0) ∧ 0 ≤ m 79 (bOr t (bShl 1 z) * 9 + z) ∧ m 79 (bOr t (bShl 1 z) * 9 + z) ≤ 10000)) : gE l γ μX9_costOn 2 0 0 (rI KK fun x ρ9 m9 => ρ = ρ9 ∧ MR m9 ∧ (if z = -1 then 10000 else coP Λ s (m 79) t a z) = x ∧ m = m9) xN KK ρ m [vR 71, vI t, vI a, vI z] := by
  refine gE.ofw cl_X9.2 ?_ rfl rfl (Nat.le_of_ble_eq_true rfl)
  show gT l γ μX9_costOn 2 0 0 _ _ KK ρ m 0 [some (vR 71), some (vI t), some (vI a), some (vI z)] []
  have hn := hW.1
  have hn8 := hW.2.1
  have hld := hG.ld9
  have hsh := shN hn
  refine tz_iload3 (n := 1) (g_at ck_X9_costOn 0 rfl) rfl ?_
  refine tz_iconst (n := 2) (g_at ck_X9_costOn 1 rfl) rfl ?_
  refine tz_icmp_ne (n := 5) (tgt := 9) (g_at ck_X9_costOn 2 rfl) rfl rfl ⟨(by omega), (by omega), (by decide), (by decide)⟩ (fun h2 => ?_) (fun h2 => ?_)
  · skip
    refine tz_sipush (n := 12) (g_at ck_X9_costOn 5 rfl) rfl rfl ?_
    refine tz_aload0 (n := 13) (g_at ck_X9_costOn 6 rfl) rfl (g_ne kd_71) ?_
    refine tz_iload2 (n := 14) (g_at ck_X9_costOn 7 rfl) rfl ?_
    refine tz_iload3 (n := 15) (g_at ck_X9_costOn 8 rfl) rfl ?_
    refine tz_cvI2 (n := 18) (μ' := μX9_costFrom) (cb' := 0) (sb' := 0) ml_X9_98 mo_X9_costFrom mv_X9_costFrom np_X9_costFrom kd_71 (g_at ck_X9_costOn 9 rfl) (sp_costFrom hL hR (by omega) (hV.c _ (by omega))) rfl rfl rfl ⟨by decide, by decide⟩ (Nat.le_of_ble_eq_true rfl) (by decide) (by decide) (fun x15 ρ9 m15 hq => ?_)
    obtain ⟨rfl, hR1, rfl, rfl⟩ := hq
    have hbo := bor_lt (t := t.toNat) (z := z.toNat) (n := (Λ 0 0).toNat) (by omega) (by omega) (by omega)
    rw [show ((t.toNat : Nat) : Int) = t by omega, show ((z.toNat : Nat) : Int) = z by omega] at hbo
    have hw9 := (wyW_B hW s).1 (a * 9 + z)
    refine tz_aload0 (n := 19) (g_at ck_X9_costOn 10 rfl) rfl (g_ne kd_71) ?_
    refine tz_getAv (n := 22) (a := 79) fk_X9_33 kd_71 (ly_71_10 hL) (g_at ck_X9_costOn 11 rfl) rfl ?_
    refine tz_iload1 (n := 23) (g_at ck_X9_costOn 12 rfl) rfl ?_
    refine tz_iconst (n := 24) (g_at ck_X9_costOn 13 rfl) rfl ?_
    refine tz_iload3 (n := 25) (g_at ck_X9_costOn 14 rfl) rfl ?_
    refine tz_ishl (n := 26) (g_at ck_X9_costOn 15 rfl) rfl ?_
    refine tz_ior (n := 27) (g_at ck_X9_costOn 16 rfl) rfl ?_
    refine tz_iload3 (n := 28) (g_at ck_X9_costOn 17 rfl) rfl ?_
    refine tz_csI2 (n := 31) (μ' := μX9_stage) (cb' := 0) (sb' := 0) ml_X9_153 mo_X9_stage ms_X9_stage np_X9_stage (g_at ck_X9_costOn 18 rfl) (sp_stage hR1) rfl rfl ⟨by decide, by decide⟩ (Nat.le_of_ble_eq_true rfl) (by decide) (by decide) (fun x28 ρ9 m28 hq => ?_)
    obtain ⟨rfl, hR2, rfl, rfl⟩ := hq
    refine tz_iald (n := 32) kd_79 (by omega) (g_at ck_X9_costOn 19 rfl) rfl ?_
    refine tz_iadd (n := 33) (g_at ck_X9_costOn 20 rfl) rfl ?_
    refine tz_mmin (n := 36) mm_X9_93 mmin_1 mm_i mmin_2 ⟨by decide, by decide, by omega, by omega⟩ (g_at ck_X9_costOn 21 rfl) rfl (by decide) (Nat.le_of_ble_eq_true rfl) ?_
    exact tz_iret (g_at ck_X9_costOn 22 rfl) rfl (rI_mk ⟨rfl, hR2, if_neg h2, rfl⟩)
  · skip
    refine tz_sipush (n := 8) (g_at ck_X9_costOn 3 rfl) rfl rfl ?_
    exact tz_iret (g_at ck_X9_costOn 4 rfl) rfl (rI_mk ⟨rfl, hR, if_pos h2, rfl⟩)
theorem sp_nextStop {l : Launch} {γ : Gh} {ρ m : Mm} {t a : Int} {ld : Int} {Λ : Mm} {hl tl : List Int} (hL : LY ρ) (hLw : ρ 71 0 = ld) (hS : isS ρ ld) (hR : MR m) (hW : WL Λ) (hG : LandC m ld Λ hl tl) {s : Int → Int} (hV : SvC m Λ s) (ht : 0 ≤ t ∧ t < ((2 ^ (Λ 0 0).toNat : Nat) : Int)) (ha : 0 ≤ a ∧ a < Λ 0 0) (hr : rwT Λ (m 79) t) : gE l γ μX9_nextStop 3 0 0 (rI KK fun x ρ9 m9 => ρ = ρ9 ∧ MR m9 ∧ (nxN Λ s (m 79) t a (Λ 0 0).toNat).1 = x ∧ m = m9) xN KK ρ m [vR 71, vI t, vI a] := by
  refine gE.ofw cl_X9.2 ?_ rfl rfl (Nat.le_of_ble_eq_true rfl)
  show gT l γ μX9_nextStop 3 0 0 _ _ KK ρ m 0 [some (vR 71), some (vI t), some (vI a), none, none, none, none] []
  have hn := hW.1
  have hn8 := hW.2.1
  have hld := hG.ld9
  have hsh := shN hn
  refine tz_iconst (n := 1) (g_at ck_X9_nextStop 0 rfl) rfl ?_
  refine tz_istore3 (n := 2) (g_at ck_X9_nextStop 1 rfl) rfl (by decide) g_hpI ?_
  refine tz_sipush (n := 5) (g_at ck_X9_nextStop 2 rfl) rfl rfl ?_
  refine tz_istore4 (n := 7) (g_at ck_X9_nextStop 3 rfl) rfl (by decide) g_hpI ?_
  refine tz_iconst (n := 8) (g_at ck_X9_nextStop 4 rfl) rfl ?_
  refine tz_istore5 (n := 10) (g_at ck_X9_nextStop 5 rfl) rfl (by decide) g_hpI ?_
  refine g_for (fun i : Nat => gT l γ μX9_nextStop 3 0 0 _ _ KK ρ m 10 [some (vR 71), some (vI t), some (vI a), some (vI (nxN Λ s (m 79) t a i).1), some (vI (nxN Λ s (m 79) t a i).2), some (vI (i : Int)), none] []) (Λ 0 0).toNat ?_ (fun i hi ihi => ?_) 0 (Nat.zero_le _)
  · skip
    refine tz_iload5 (n := 12) (g_at ck_X9_nextStop 6 rfl) rfl ?_
    refine tz_aload0 (n := 13) (g_at ck_X9_nextStop 7 rfl) rfl (g_ne kd_71) ?_
    refine tz_getOv (n := 16) (a := ld) fk_X9_36 kd_71 hLw (g_at ck_X9_nextStop 8 rfl) rfl ?_
    refine tz_getIw (n := 19) (kz := 0) fk_X9_53 hS.k0 (g_at ck_X9_nextStop 9 rfl) rfl rfl ?_
    rw [hG.n0]
    refine tz_icmp_ge (n := 22) (tgt := 67) (g_at ck_X9_nextStop 10 rfl) rfl rfl ⟨by omega, by omega, by omega, by omega⟩ (fun h19 => ?_) (fun h19 => absurd h19 (by omega))
    refine tz_iload3 (n := 68) (g_at ck_X9_nextStop 34 rfl) rfl ?_
    exact tz_iret (g_at ck_X9_nextStop 35 rfl) rfl (rI_mk ⟨rfl, hR, rfl, rfl⟩)
  · skip
    have hq9 := (nxN_rg (s := s) (a := a) hW hr i (by omega)).1
    refine tz_iload5 (n := 12) (g_at ck_X9_nextStop 6 rfl) rfl ?_
    refine tz_aload0 (n := 13) (g_at ck_X9_nextStop 7 rfl) rfl (g_ne kd_71) ?_
    refine tz_getOv (n := 16) (a := ld) fk_X9_36 kd_71 hLw (g_at ck_X9_nextStop 8 rfl) rfl ?_
    refine tz_getIw (n := 19) (kz := 0) fk_X9_53 hS.k0 (g_at ck_X9_nextStop 9 rfl) rfl rfl ?_
    rw [hG.n0]
    refine tz_icmp_ge (n := 22) (tgt := 67) (g_at ck_X9_nextStop 10 rfl) rfl rfl ⟨by omega, by omega, by omega, by omega⟩ (fun h19 => absurd h19 (by omega)) (fun h19 => ?_)
    refine tz_iload1 (n := 23) (g_at ck_X9_nextStop 11 rfl) rfl ?_
    refine tz_iload5 (n := 25) (g_at ck_X9_nextStop 12 rfl) rfl ?_
    refine tz_ishr (n := 26) (g_at ck_X9_nextStop 13 rfl) rfl ?_
    refine tz_iconst (n := 27) (g_at ck_X9_nextStop 14 rfl) rfl ?_
    refine tz_iand (n := 28) (g_at ck_X9_nextStop 15 rfl) rfl ?_
    refine tz_if_ne (n := 31) (tgt := 42) (g_at ck_X9_nextStop 16 rfl) rfl rfl (bAnd_rg _ _) (fun h28 => ?_) (fun h28 => ?_)
    · skip
      refine tz_sipush (n := 45) (g_at ck_X9_nextStop 23 rfl) rfl rfl ?_
      refine tz_istore6 (n := 47) (g_at ck_X9_nextStop 24 rfl) rfl (by decide) g_hpI ?_
      refine tz_iload6 (n := 49) (g_at ck_X9_nextStop 25 rfl) rfl ?_
      refine tz_iload4 (n := 51) (g_at ck_X9_nextStop 26 rfl) rfl ?_
      refine tz_icmp_ge (n := 54) (tgt := 61) (g_at ck_X9_nextStop 27 rfl) rfl rfl ⟨by omega, by omega, by omega, by omega⟩ (fun h51 => ?_) (fun h51 => absurd h51 (by omega))
      refine tz_iinc5 (n := 64) (g_at ck_X9_nextStop 32 rfl) rfl (by decide) g_hpI ?_
      refine tz_goto (tgt := 10) (g_at ck_X9_nextStop 33 rfl) rfl ?_
      refine tz_drop6 ?_
      have e9 : nxN Λ s (m 79) t a (i + 1) = (nxN Λ s (m 79) t a i) := if_neg (fun h9 => h28 h9.1)
      exact gT_eq ihi rfl (by rw [e9]; rfl)
    · skip
      refine tz_aload0 (n := 32) (g_at ck_X9_nextStop 17 rfl) rfl (g_ne kd_71) ?_
      refine tz_iload1 (n := 33) (g_at ck_X9_nextStop 18 rfl) rfl ?_
      refine tz_iload2 (n := 34) (g_at ck_X9_nextStop 19 rfl) rfl ?_
      refine tz_iload5 (n := 36) (g_at ck_X9_nextStop 20 rfl) rfl ?_
      refine tz_cvI3 (n := 39) (μ' := μX9_costOn) (cb' := 0) (sb' := 0) ml_X9_159 mo_X9_costOn mv_X9_costOn np_X9_costOn kd_71 (g_at ck_X9_nextStop 21 rfl) (sp_costOn hL hLw hS hR hW hG hV (by omega) (by omega) (Or.inr ⟨by omega, hr (i : Int) (by omega) (by omega) h28⟩)) rfl rfl rfl ⟨by decide, by decide⟩ (Nat.le_of_ble_eq_true rfl) (by decide) (by decide) (fun x36 ρ9 m36 hq => ?_)
      obtain ⟨rfl, hR1, rfl, rfl⟩ := hq
      rw [if_neg (by omega)]
      have hg9 := coP_rg (s := s) (a := a) hW hr (show 0 ≤ (i : Int) ∧ (i : Int) < Λ 0 0 by omega) h28
      refine tz_goto (tgt := 45) (g_at ck_X9_nextStop 22 rfl) rfl ?_
      refine tz_istore6 (n := 47) (g_at ck_X9_nextStop 24 rfl) rfl (by decide) g_hpI ?_
      refine tz_iload6 (n := 49) (g_at ck_X9_nextStop 25 rfl) rfl ?_
      refine tz_iload4 (n := 51) (g_at ck_X9_nextStop 26 rfl) rfl ?_
      refine tz_icmp_ge (n := 54) (tgt := 61) (g_at ck_X9_nextStop 27 rfl) rfl rfl ⟨by omega, by omega, by omega, by omega⟩ (fun h51 => ?_) (fun h51 => ?_)
      · skip
        refine tz_iinc5 (n := 64) (g_at ck_X9_nextStop 32 rfl) rfl (by decide) g_hpI ?_
        refine tz_goto (tgt := 10) (g_at ck_X9_nextStop 33 rfl) rfl ?_
        refine tz_drop6 ?_
        have e9 : nxN Λ s (m 79) t a (i + 1) = (nxN Λ s (m 79) t a i) := if_neg (fun h9 => absurd h9.2 (Int.not_lt.mpr h51))
        exact gT_eq ihi rfl (by rw [e9]; rfl)
      · skip
        refine tz_iload6 (n := 56) (g_at ck_X9_nextStop 28 rfl) rfl ?_
        refine tz_istore4 (n := 58) (g_at ck_X9_nextStop 29 rfl) rfl (by decide) g_hpI ?_
        refine tz_iload5 (n := 60) (g_at ck_X9_nextStop 30 rfl) rfl ?_
        refine tz_istore3 (n := 61) (g_at ck_X9_nextStop 31 rfl) rfl (by decide) g_hpI ?_
        refine tz_iinc5 (n := 64) (g_at ck_X9_nextStop 32 rfl) rfl (by decide) g_hpI ?_
        refine tz_goto (tgt := 10) (g_at ck_X9_nextStop 33 rfl) rfl ?_
        refine tz_drop6 ?_
        have e9 : nxN Λ s (m 79) t a (i + 1) = ((i : Int), coP Λ s (m 79) t a (i : Int)) := if_pos ⟨h28, Int.not_le.mp h51⟩
        exact gT_eq ihi rfl (by rw [e9]; rfl)
theorem sp_tourStop {l : Launch} {γ : Gh} {ρ m : Mm} {k : Int} {ld : Int} {Λ : Mm} {hl tl : List Int} (hL : LY ρ) (hLw : ρ 71 0 = ld) (hS : isS ρ ld) (hR : MR m) (hW : WL Λ) (hG : LandC m ld Λ hl tl) {s : Int → Int} (hV : SvC m Λ s) (hk : 0 ≤ k ∧ k ≤ 100) (h0 : 0 < Λ 0 0) (hO : TourOK Λ s (m 79) 0) : gE l γ μX9_tourStop 4 0 0 (rI KK fun x ρ9 m9 => ρ = ρ9 ∧ MR m9 ∧ (tsN Λ s (m 79) k.toNat).2 = x ∧ m = m9) xN KK ρ m [vR 71, vI k] := by
  refine gE.ofw cl_X9.2 ?_ rfl rfl (Nat.le_of_ble_eq_true rfl)
  show gT l γ μX9_tourStop 4 0 0 _ _ KK ρ m 0 [some (vR 71), some (vI k), none, none, none] []
  have hn := hW.1
  have hn8 := hW.2.1
  have hld := hG.ld9
  have hsh := shN hn
  refine tz_iconst (n := 1) (g_at ck_X9_tourStop 0 rfl) rfl ?_
  refine tz_istore2 (n := 2) (g_at ck_X9_tourStop 1 rfl) rfl (by decide) g_hpI ?_
  refine tz_iconst (n := 3) (g_at ck_X9_tourStop 2 rfl) rfl ?_
  refine tz_istore3 (n := 4) (g_at ck_X9_tourStop 3 rfl) rfl (by decide) g_hpI ?_
  refine tz_iconst (n := 5) (g_at ck_X9_tourStop 4 rfl) rfl ?_
  refine tz_istore4 (n := 7) (g_at ck_X9_tourStop 5 rfl) rfl (by decide) g_hpI ?_
  refine g_for (fun i : Nat => gT l γ μX9_tourStop 4 0 0 _ _ KK ρ m 7 [some (vR 71), some (vI k), some (vI (tsN Λ s (m 79) i).1), some (vI (tsN Λ s (m 79) i).2), some (vI (i : Int))] []) k.toNat ?_ (fun i hi ihi => ?_) 0 (Nat.zero_le _)
  · skip
    refine tz_iload4 (n := 9) (g_at ck_X9_tourStop 6 rfl) rfl ?_
    refine tz_iload1 (n := 10) (g_at ck_X9_tourStop 7 rfl) rfl ?_
    refine tz_icmp_ge (n := 13) (tgt := 42) (g_at ck_X9_tourStop 8 rfl) rfl rfl ⟨(by omega), (by omega), (by omega), (by omega)⟩ (fun h10 => ?_) (fun h10 => absurd h10 (by omega))
    refine tz_iload3 (n := 43) (g_at ck_X9_tourStop 28 rfl) rfl ?_
    exact tz_iret (g_at ck_X9_tourStop 29 rfl) rfl (rI_mk ⟨rfl, hR, rfl, rfl⟩)
  · skip
    have hts := tsN_rg hW hO h0 i
    refine tz_iload4 (n := 9) (g_at ck_X9_tourStop 6 rfl) rfl ?_
    refine tz_iload1 (n := 10) (g_at ck_X9_tourStop 7 rfl) rfl ?_
    refine tz_icmp_ge (n := 13) (tgt := 42) (g_at ck_X9_tourStop 8 rfl) rfl rfl ⟨(by omega), (by omega), (by omega), (by omega)⟩ (fun h10 => absurd h10 (by omega)) (fun h10 => ?_)
    refine tz_iload3 (n := 14) (g_at ck_X9_tourStop 9 rfl) rfl ?_
    refine tz_iconst (n := 15) (g_at ck_X9_tourStop 10 rfl) rfl ?_
    refine tz_icmp_eq (n := 18) (tgt := 42) (g_at ck_X9_tourStop 11 rfl) rfl rfl ⟨by omega, by omega, by decide, by decide⟩ (fun h15 => ?_) (fun h15 => ?_)
    · skip
      refine tz_iload3 (n := 43) (g_at ck_X9_tourStop 28 rfl) rfl ?_
      exact tz_iret (g_at ck_X9_tourStop 29 rfl) rfl (rI_mk ⟨rfl, hR, (tsN_stay h15 k.toNat (by omega)).trans h15.symm, rfl⟩)
    · skip
      refine tz_aload0 (n := 19) (g_at ck_X9_tourStop 12 rfl) rfl (g_ne kd_71) ?_
      refine tz_iload2 (n := 20) (g_at ck_X9_tourStop 13 rfl) rfl ?_
      refine tz_iload3 (n := 21) (g_at ck_X9_tourStop 14 rfl) rfl ?_
      refine tz_cvI2 (n := 24) (μ' := μX9_nextStop) (cb' := 0) (sb' := 0) ml_X9_156 mo_X9_nextStop mv_X9_nextStop np_X9_nextStop kd_71 (g_at ck_X9_tourStop 15 rfl) (sp_nextStop hL hLw hS hR hW hG hV (by omega) (by omega) (hO.rw hn (by omega) hts.2.1 (by omega))) rfl rfl rfl ⟨by decide, by decide⟩ (Nat.le_of_ble_eq_true rfl) (by decide) (by decide) (fun x21 ρ9 m21 hq => ?_)
      obtain ⟨rfl, hR1, rfl, rfl⟩ := hq
      have hx9 := (nxN_rg (s := s) (a := (tsN Λ s (m 79) i).2) hW (hO.rw hn (by omega) hts.2.1 (by omega)) (Λ 0 0).toNat (by omega)).2
      refine tz_istore3 (n := 25) (g_at ck_X9_tourStop 16 rfl) rfl (by decide) g_hpI ?_
      refine tz_iload3 (n := 26) (g_at ck_X9_tourStop 17 rfl) rfl ?_
      refine tz_iconst (n := 27) (g_at ck_X9_tourStop 18 rfl) rfl ?_
      refine tz_icmp_eq (n := 30) (tgt := 36) (g_at ck_X9_tourStop 19 rfl) rfl rfl ⟨by omega, by omega, by decide, by decide⟩ (fun h27 => ?_) (fun h27 => ?_)
      · skip
        refine tz_iinc4 (n := 39) (g_at ck_X9_tourStop 26 rfl) rfl (by decide) g_hpI ?_
        refine tz_goto (tgt := 7) (g_at ck_X9_tourStop 27 rfl) rfl ?_
        have e9 : tsN Λ s (m 79) (i + 1) = ((tsN Λ s (m 79) i).1, (nxN Λ s (m 79) (tsN Λ s (m 79) i).1 (tsN Λ s (m 79) i).2 (Λ 0 0).toNat).1) := (if_neg h15).trans ((if_pos h27).trans (by rw [h27]; rfl))
        exact gT_eq ihi rfl (by rw [e9]; rfl)
      · skip
        refine tz_iload2 (n := 31) (g_at ck_X9_tourStop 20 rfl) rfl ?_
        refine tz_iconst (n := 32) (g_at ck_X9_tourStop 21 rfl) rfl ?_
        refine tz_iload3 (n := 33) (g_at ck_X9_tourStop 22 rfl) rfl ?_
        refine tz_ishl (n := 34) (g_at ck_X9_tourStop 23 rfl) rfl ?_
        refine tz_ior (n := 35) (g_at ck_X9_tourStop 24 rfl) rfl ?_
        refine tz_istore2 (n := 36) (g_at ck_X9_tourStop 25 rfl) rfl (by decide) g_hpI ?_
        refine tz_iinc4 (n := 39) (g_at ck_X9_tourStop 26 rfl) rfl (by decide) g_hpI ?_
        refine tz_goto (tgt := 7) (g_at ck_X9_tourStop 27 rfl) rfl ?_
        have e9 : tsN Λ s (m 79) (i + 1) = (bOr (tsN Λ s (m 79) i).1 (bShl 1 (nxN Λ s (m 79) (tsN Λ s (m 79) i).1 (tsN Λ s (m 79) i).2 (Λ 0 0).toNat).1), (nxN Λ s (m 79) (tsN Λ s (m 79) i).1 (tsN Λ s (m 79) i).2 (Λ 0 0).toNat).1) := (if_neg h15).trans (if_neg h27)
        exact gT_eq ihi rfl (by rw [e9]; rfl)
theorem sp_planTour {l : Launch} {γ : Gh} {ρ m : Mm} {ld : Int} {Λ : Mm} {hl tl : List Int} (hL : LY ρ) (hLw : ρ 71 0 = ld) (hS : isS ρ ld) (hR : MR m) (hW : WL Λ) (hG : LandC m ld Λ hl tl) {s : Int → Int} (hV : SvC m Λ s) (h0 : 0 < Λ 0 0) : gE l γ μX9_planTour 4 0 0 (rI KK fun x ρ9 m9 => ρ = ρ9 ∧ MR m9 ∧ Fr [79] m m9 ∧ TourOK Λ s (m9 79) 0 ∧ m9 79 9 = x) xN KK ρ m [vR 71] := by
  refine gE.ofw cl_X9.2 ?_ rfl rfl (Nat.le_of_ble_eq_true rfl)
  show gT l γ μX9_planTour 4 0 0 _ _ KK ρ m 0 [some (vR 71), none, none, none] []
  have hn := hW.1
  have hn8 := hW.2.1
  have hld := hG.ld9
  have hsh := shN hn
  have hpw : 2 ^ (Λ 0 0).toNat = 2 * 2 ^ ((Λ 0 0).toNat - 1) := by rw [← Nat.pow_succ', Nat.succ_eq_add_one, show (Λ 0 0).toNat - 1 + 1 = (Λ 0 0).toNat by omega]
  have hwd : whl Λ = ((2 ^ (Λ 0 0).toNat : Nat) : Int) - 1 := rfl
  have h1p : 0 < 2 ^ ((Λ 0 0).toNat - 1) := Nat.pow_pos (by decide)
  refine tz_iconst (n := 1) (g_at ck_X9_planTour 0 rfl) rfl ?_
  refine tz_aload0 (n := 2) (g_at ck_X9_planTour 1 rfl) rfl (g_ne kd_71) ?_
  refine tz_getOv (n := 5) (a := ld) fk_X9_36 kd_71 hLw (g_at ck_X9_planTour 2 rfl) rfl ?_
  refine tz_getIw (n := 8) (kz := 0) fk_X9_53 hS.k0 (g_at ck_X9_planTour 3 rfl) rfl rfl ?_
  rw [hG.n0]
  refine tz_ishl (n := 9) (g_at ck_X9_planTour 4 rfl) rfl ?_
  rw [hsh.1]
  refine tz_iconst (n := 10) (g_at ck_X9_planTour 5 rfl) rfl ?_
  refine tz_isub (n := 11) (g_at ck_X9_planTour 6 rfl) rfl ?_
  refine tz_istore1 (n := 12) (g_at ck_X9_planTour 7 rfl) rfl (by decide) g_hpR ?_
  refine tz_iload1 (n := 13) (g_at ck_X9_planTour 8 rfl) rfl ?_
  refine tz_istore2 (n := 14) (g_at ck_X9_planTour 9 rfl) rfl (by decide) g_hpI ?_
  suffices hlp : ∀ i : Nat, i ≤ (2 ^ ((Λ 0 0).toNat - 1)) → ∀ m1 : Mm, (MR m1 ∧ Fr [79] m m1 ∧ TourOK Λ s (m1 79) (whl Λ - 2 * (i : Int))) → gT l γ μX9_planTour 4 0 0 _ _ KK ρ m1 14 [some (vR 71), some (vI (whl Λ)), some (vI (whl Λ - 2 * (i : Int))), none] [] by
    have h0 := hlp 0 (Nat.zero_le _)
    rw [show whl Λ - 2 * ((0 : Nat) : Int) = whl Λ by omega] at h0
    exact h0 _ ⟨hR, Fr.rf, fun t h1 h2 => absurd h2 (by omega)⟩
  refine g_for (fun i : Nat => ∀ m1 : Mm, (MR m1 ∧ Fr [79] m m1 ∧ TourOK Λ s (m1 79) (whl Λ - 2 * (i : Int))) → gT l γ μX9_planTour 4 0 0 _ _ KK ρ m1 14 [some (vR 71), some (vI (whl Λ)), some (vI (whl Λ - 2 * (i : Int))), none] []) (2 ^ ((Λ 0 0).toNat - 1)) ?_ (fun i hi ihi => ?_)
  · intro m1 hinv
    obtain ⟨hR1, hF1, hI1⟩ := hinv
    refine tz_iload2 (n := 15) (g_at ck_X9_planTour 10 rfl) rfl ?_
    refine tz_if_le (n := 18) (tgt := 88) (g_at ck_X9_planTour 11 rfl) rfl rfl (by omega) (fun h15 => ?_) (fun h15 => absurd h15 (by omega))
    refine tz_aload0 (n := 89) (g_at ck_X9_planTour 52 rfl) rfl (g_ne kd_71) ?_
    refine tz_getAv (n := 92) (a := 79) fk_X9_33 kd_71 (ly_71_10 hL) (g_at ck_X9_planTour 53 rfl) rfl ?_
    refine tz_iconst (n := 93) (g_at ck_X9_planTour 54 rfl) rfl ?_
    refine tz_iconst (n := 94) (g_at ck_X9_planTour 55 rfl) rfl ?_
    refine tz_csI2 (n := 97) (μ' := μX9_stage) (cb' := 0) (sb' := 0) ml_X9_153 mo_X9_stage ms_X9_stage np_X9_stage (g_at ck_X9_planTour 56 rfl) (sp_stage hR1) rfl rfl ⟨by decide, by decide⟩ (Nat.le_of_ble_eq_true rfl) (by decide) (by decide) (fun x94 ρ9 m94 hq => ?_)
    obtain ⟨rfl, hR1, rfl, rfl⟩ := hq
    refine tz_iald (n := 98) kd_79 (by omega) (g_at ck_X9_planTour 57 rfl) rfl ?_
    exact tz_iret (g_at ck_X9_planTour 58 rfl) rfl (rI_mk ⟨rfl, hR1, hF1, fun t h1 h2 h3 => hI1 t (by omega) h2 h3, rfl⟩)
  · intro m1 hinv
    obtain ⟨hR1, hF1, hI1⟩ := hinv
    refine tz_iload2 (n := 15) (g_at ck_X9_planTour 10 rfl) rfl ?_
    refine tz_if_le (n := 18) (tgt := 88) (g_at ck_X9_planTour 11 rfl) rfl rfl (by omega) (fun h15 => absurd h15 (by omega)) (fun h15 => ?_)
    refine tz_iconst (n := 19) (g_at ck_X9_planTour 12 rfl) rfl ?_
    refine tz_istore3 (n := 20) (g_at ck_X9_planTour 13 rfl) rfl (by decide) g_hpI ?_
    refine g_for (fun j : Nat => ∀ m2 : Mm, (MR m2 ∧ Fr [79] m m2 ∧ TourOK Λ s (m2 79) (whl Λ - 2 * (i : Int)) ∧ ∀ a, 0 ≤ a → a < (j : Int) → bAnd (bShr (whl Λ - 2 * (i : Int)) a) 1 = 1 → TE Λ s (m2 79) (whl Λ - 2 * (i : Int)) a) → gT l γ μX9_planTour 4 0 0 _ _ KK ρ m2 20 [some (vR 71), some (vI (whl Λ)), some (vI (whl Λ - 2 * (i : Int))), some (vI (j : Int))] []) (Λ 0 0).toNat ?_ (fun j hj ihj => ?_) 0 (Nat.zero_le _) _ ⟨hR1, hF1, hI1, fun t h1 h2 => absurd h2 (by omega)⟩
    · intro m2 hinv
      obtain ⟨hR2, hF2, hI2, hJ2⟩ := hinv
      have hG2 := hG.q (qM_wy (hF2.sub (by decide)))
      refine tz_iload3 (n := 21) (g_at ck_X9_planTour 14 rfl) rfl ?_
      refine tz_aload0 (n := 22) (g_at ck_X9_planTour 15 rfl) rfl (g_ne kd_71) ?_
      refine tz_getOv (n := 25) (a := ld) fk_X9_36 kd_71 hLw (g_at ck_X9_planTour 16 rfl) rfl ?_
      refine tz_getIw (n := 28) (kz := 0) fk_X9_53 hS.k0 (g_at ck_X9_planTour 17 rfl) rfl rfl ?_
      rw [hG2.n0]
      refine tz_icmp_ge (n := 31) (tgt := 82) (g_at ck_X9_planTour 18 rfl) rfl rfl ⟨by omega, by omega, by omega, by omega⟩ (fun h28 => ?_) (fun h28 => absurd h28 (by omega))
      refine tz_iinc2 (n := 85) (g_at ck_X9_planTour 50 rfl) rfl (by decide) g_hpI ?_
      refine tz_goto (tgt := 14) (g_at ck_X9_planTour 51 rfl) rfl ?_
      refine tz_drop3 ?_
      refine gT_eq (ihi _ ⟨hR2, hF2, fun t h1 h2 h3 a q1 q2 q3 => by
        by_cases ep : t = (whl Λ - 2 * (i : Int))
        · rw [ep] at q3 ⊢; exact hJ2 a q1 (by omega) q3
        · exact hI2 t (by omega) h2 h3 a q1 q2 q3⟩) rfl ?_
      rw [show whl Λ - 2 * ((i + 1 : Nat) : Int) = whl Λ - 2 * (i : Int) + -2 by omega]
    · intro m2 hinv
      obtain ⟨hR2, hF2, hI2, hJ2⟩ := hinv
      have hG2 := hG.q (qM_wy (hF2.sub (by decide)))
      have hV2 := hV.sam (m9 := m2) (fun a h1 h2 => hF2 a (by simp; omega))
      have hrw : rwT Λ (m2 79) (whl Λ - 2 * (i : Int)) := hI2.rw hn (by omega) (by omega) (by omega)
      refine tz_iload3 (n := 21) (g_at ck_X9_planTour 14 rfl) rfl ?_
      refine tz_aload0 (n := 22) (g_at ck_X9_planTour 15 rfl) rfl (g_ne kd_71) ?_
      refine tz_getOv (n := 25) (a := ld) fk_X9_36 kd_71 hLw (g_at ck_X9_planTour 16 rfl) rfl ?_
      refine tz_getIw (n := 28) (kz := 0) fk_X9_53 hS.k0 (g_at ck_X9_planTour 17 rfl) rfl rfl ?_
      rw [hG2.n0]
      refine tz_icmp_ge (n := 31) (tgt := 82) (g_at ck_X9_planTour 18 rfl) rfl rfl ⟨by omega, by omega, by omega, by omega⟩ (fun h28 => absurd h28 (by omega)) (fun h28 => ?_)
      refine tz_iload2 (n := 32) (g_at ck_X9_planTour 19 rfl) rfl ?_
      refine tz_iload3 (n := 33) (g_at ck_X9_planTour 20 rfl) rfl ?_
      refine tz_ishr (n := 34) (g_at ck_X9_planTour 21 rfl) rfl ?_
      refine tz_iconst (n := 35) (g_at ck_X9_planTour 22 rfl) rfl ?_
      refine tz_iand (n := 36) (g_at ck_X9_planTour 23 rfl) rfl ?_
      refine tz_iconst (n := 37) (g_at ck_X9_planTour 24 rfl) rfl ?_
      refine tz_icmp_ne (n := 40) (tgt := 76) (g_at ck_X9_planTour 25 rfl) rfl rfl ⟨(bAnd_rg _ _).1, (bAnd_rg _ _).2, by decide, by decide⟩ (fun h37 => ?_) (fun h37 => ?_)
      · skip
        refine tz_iinc3 (n := 79) (g_at ck_X9_planTour 48 rfl) rfl (by decide) g_hpI ?_
        refine tz_goto (tgt := 20) (g_at ck_X9_planTour 49 rfl) rfl ?_
        exact ihj _ ⟨hR2, hF2, hI2, fun a h1 h2 h3 => by
          by_cases ea : a = (j : Int)
          · subst ea
            exact absurd h3 h37
          · exact hJ2 a h1 (by omega) h3⟩
      · skip
        refine tz_aload0 (n := 41) (g_at ck_X9_planTour 26 rfl) rfl (g_ne kd_71) ?_
        refine tz_getAv (n := 44) (a := 79) fk_X9_33 kd_71 (ly_71_10 hL) (g_at ck_X9_planTour 27 rfl) rfl ?_
        refine tz_iload2 (n := 45) (g_at ck_X9_planTour 28 rfl) rfl ?_
        refine tz_iload3 (n := 46) (g_at ck_X9_planTour 29 rfl) rfl ?_
        refine tz_csI2 (n := 49) (μ' := μX9_stage) (cb' := 0) (sb' := 0) ml_X9_153 mo_X9_stage ms_X9_stage np_X9_stage (g_at ck_X9_planTour 30 rfl) (sp_stage hR2) rfl rfl ⟨by decide, by decide⟩ (Nat.le_of_ble_eq_true rfl) (by decide) (by decide) (fun x46 ρ9 m46 hq => ?_)
        obtain ⟨rfl, hR2, rfl, rfl⟩ := hq
        refine tz_iload2 (n := 50) (g_at ck_X9_planTour 31 rfl) rfl ?_
        refine tz_iload1 (n := 51) (g_at ck_X9_planTour 32 rfl) rfl ?_
        refine tz_icmp_ne (n := 54) (tgt := 63) (g_at ck_X9_planTour 33 rfl) rfl rfl ⟨by omega, by omega, by omega, by omega⟩ (fun h51 => ?_) (fun h51 => ?_)
        · skip
          refine tz_aload0 (n := 64) (g_at ck_X9_planTour 39 rfl) rfl (g_ne kd_71) ?_
          refine tz_iload2 (n := 65) (g_at ck_X9_planTour 40 rfl) rfl ?_
          refine tz_iload3 (n := 66) (g_at ck_X9_planTour 41 rfl) rfl ?_
          refine tz_aload0 (n := 67) (g_at ck_X9_planTour 42 rfl) rfl (g_ne kd_71) ?_
          refine tz_iload2 (n := 68) (g_at ck_X9_planTour 43 rfl) rfl ?_
          refine tz_iload3 (n := 69) (g_at ck_X9_planTour 44 rfl) rfl ?_
          refine tz_cvI2 (n := 72) (μ' := μX9_nextStop) (cb' := 0) (sb' := 0) ml_X9_156 mo_X9_nextStop mv_X9_nextStop np_X9_nextStop kd_71 (g_at ck_X9_planTour 45 rfl) (sp_nextStop hL hLw hS hR2 hW hG2 hV2 (by omega) (by omega) hrw) rfl rfl rfl ⟨by decide, by decide⟩ (Nat.le_of_ble_eq_true rfl) (by decide) (by decide) (fun x69 ρ9 m69 hq => ?_)
          obtain ⟨rfl, hR3, rfl, rfl⟩ := hq
          have hbb := nxN_rg (s := s) (a := (j : Int)) hW hrw (Λ 0 0).toNat (by omega)
          refine tz_cvI3 (n := 75) (μ' := μX9_costOn) (cb' := 0) (sb' := 0) ml_X9_159 mo_X9_costOn mv_X9_costOn np_X9_costOn kd_71 (g_at ck_X9_planTour 46 rfl) (sp_costOn hL hLw hS hR3 hW hG2 hV2 (by omega) (by omega) (hbb.2.imp (fun h9 => h9.1) (fun h9 => ⟨h9.1, hrw _ h9.1.1 h9.1.2 h9.2.1⟩))) rfl rfl rfl ⟨by decide, by decide⟩ (Nat.le_of_ble_eq_true rfl) (by decide) (by decide) (fun x72 ρ9 m72 hq => ?_)
          obtain ⟨rfl, hR4, rfl, rfl⟩ := hq
          have hval : (if (nxN Λ s (m2 79) (whl Λ - 2 * (i : Int)) (j : Int) (Λ 0 0).toNat).1 = -1 then 10000 else coP Λ s (m2 79) (whl Λ - 2 * (i : Int)) (j : Int) (nxN Λ s (m2 79) (whl Λ - 2 * (i : Int)) (j : Int) (Λ 0 0).toNat).1) = (nxN Λ s (m2 79) (whl Λ - 2 * (i : Int)) (j : Int) (Λ 0 0).toNat).2 := co_val (g := fun b => coP Λ s (m2 79) (whl Λ - 2 * (i : Int)) (j : Int) b) hbb.2
          rw [hval]
          refine tz_iastr (n := 76) kd_79 (by omega) (g_at ck_X9_planTour 47 rfl) rfl hR4 (by omega) (fun hR5 => ?_)
          refine tz_iinc3 (n := 79) (g_at ck_X9_planTour 48 rfl) rfl (by decide) g_hpI ?_
          refine tz_goto (tgt := 20) (g_at ck_X9_planTour 49 rfl) rfl ?_
          exact ihj _ ⟨hR5, hF2.wr (by decide), fun t h1 h2 h3 a q1 q2 q3 => by
            have h := hI2 t h1 h2 h3 a q1 q2 q3
            exact (h.keep hn (by omega) (by omega) (by rw [wr_at, if_neg (by omega)]) (fun k z q1 q2 q3 => by rw [wr_at, if_neg (by omega)])), fun a h1 h2 h3 => by
            by_cases ea : a = (j : Int)
            · subst ea
              refine ⟨?_, ?_, ?_⟩
              · rw [wr_same, if_neg h51, nxN_congr (s := s) (a := (j : Int)) (t := (whl Λ - 2 * (i : Int))) (T := wr m2 79 ((whl Λ - 2 * (i : Int)) * 9 + (j : Int)) (nxN Λ s (m2 79) (whl Λ - 2 * (i : Int)) (j : Int) (Λ 0 0).toNat).2 79) (T' := m2 79) hn.2 (by omega) (by omega) (fun k z q1 q2 q3 => by rw [wr_at, if_neg (by omega)]) (Λ 0 0).toNat (by omega)]
              · rw [wr_same]; exact hbb.1.1
              · rw [wr_same]; exact hbb.1.2
            · have h := hJ2 a h1 (by omega) h3
              exact (h.keep hn (by omega) (by omega) (by rw [wr_at, if_neg (by omega)]) (fun k z q1 q2 q3 => by rw [wr_at, if_neg (by omega)]))⟩
        · skip
          refine tz_aload0 (n := 55) (g_at ck_X9_planTour 34 rfl) rfl (g_ne kd_71) ?_
          refine tz_iload3 (n := 56) (g_at ck_X9_planTour 35 rfl) rfl ?_
          refine tz_iconst (n := 57) (g_at ck_X9_planTour 36 rfl) rfl ?_
          refine tz_cvI2 (n := 60) (μ' := μX9_costFrom) (cb' := 0) (sb' := 0) ml_X9_98 mo_X9_costFrom mv_X9_costFrom np_X9_costFrom kd_71 (g_at ck_X9_planTour 37 rfl) (sp_costFrom hL hR2 (by omega) (hV2.c _ (by omega))) rfl rfl rfl ⟨by decide, by decide⟩ (Nat.le_of_ble_eq_true rfl) (by decide) (by decide) (fun x57 ρ9 m57 hq => ?_)
          obtain ⟨rfl, hR6, rfl, rfl⟩ := hq
          have hw9 := (wyW_B hW s).1 ((j : Int) * 9 + 0)
          refine tz_goto (tgt := 75) (g_at ck_X9_planTour 38 rfl) rfl ?_
          refine tz_iastr (n := 76) kd_79 (by omega) (g_at ck_X9_planTour 47 rfl) rfl hR6 (by omega) (fun hR7 => ?_)
          refine tz_iinc3 (n := 79) (g_at ck_X9_planTour 48 rfl) rfl (by decide) g_hpI ?_
          refine tz_goto (tgt := 20) (g_at ck_X9_planTour 49 rfl) rfl ?_
          exact ihj _ ⟨hR7, hF2.wr (by decide), fun t h1 h2 h3 a q1 q2 q3 => by
            have h := hI2 t h1 h2 h3 a q1 q2 q3
            exact (h.keep hn (by omega) (by omega) (by rw [wr_at, if_neg (by omega)]) (fun k z q1 q2 q3 => by rw [wr_at, if_neg (by omega)])), fun a h1 h2 h3 => by
            by_cases ea : a = (j : Int)
            · subst ea
              refine ⟨?_, ?_, ?_⟩
              · rw [wr_same, if_pos h51]
              · rw [wr_same]; exact hw9.2.1
              · rw [wr_same]; exact hw9.2.2
            · have h := hJ2 a h1 (by omega) h3
              exact (h.keep hn (by omega) (by omega) (by rw [wr_at, if_neg (by omega)]) (fun k z q1 q2 q3 => by rw [wr_at, if_neg (by omega)]))⟩
