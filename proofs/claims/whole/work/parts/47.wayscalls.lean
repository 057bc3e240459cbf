/-! Calls about ways. -/
def orN (v : Int) : Int := if v < 10000 then v else -1
def cvN (Λ : Mm) (hl tl : List Int) (s : Int → Int) (p : Int) (n : Nat) : Int := fd (fun j v => bAnd v (bXor (bShl 1 (daysP Λ hl tl (sig0 s) j 0 (1 + p))) (-1))) (rcP Λ s (s (1 + p))) n
def gaS (Λ : Mm) (s : Int → Int) (c : Int) (q : Int × Int × Int) : Int × Int × Int := if q.1 = -1 ∨ q.2.1 < cmN Λ s c (Λ 0 1).toNat ∨ (cmN Λ s c (Λ 0 1).toNat = q.2.1 ∧ ccN Λ s c (Λ 0 1).toNat < q.2.2) then (c, cmN Λ s c (Λ 0 1).toNat, ccN Λ s c (Λ 0 1).toNat) else q
def gaN (Λ : Mm) (s : Int → Int) (n : Nat) : Int × Int × Int := fd (fun c q => gaS Λ s (c : Int) q) (-1, 0, 0) n
theorem gaN_rg {Λ : Mm} (hW : WL Λ) {s : Int → Int} : ∀ n : Nat, (-1 ≤ (gaN Λ s n).1 ∧ (gaN Λ s n).1 < n) ∧ (0 ≤ (gaN Λ s n).2.1 ∧ (gaN Λ s n).2.1 ≤ 8) ∧ 0 ≤ (gaN Λ s n).2.2 ∧ (gaN Λ s n).2.2 ≤ 80000
  | 0 => by show (-1 ≤ (-1 : Int) ∧ (-1 : Int) < ((0 : Nat) : Int)) ∧ (0 ≤ (0 : Int) ∧ (0 : Int) ≤ 8) ∧ 0 ≤ (0 : Int) ∧ (0 : Int) ≤ 80000; decide
  | n + 1 => by
    have hn8 := hW.2.1
    have ih := gaN_rg hW (s := s) n
    have h1 := cmN_rg (Λ := Λ) (s := s) (c := (n : Int)) (Λ 0 1).toNat
    have h2 := ccN_rg hW (s := s) (c := (n : Int)) (Λ 0 1).toNat
    have e : gaN Λ s (n + 1) = gaS Λ s (n : Int) (gaN Λ s n) := rfl
    rw [e]
    unfold gaS
    split
    · simp only []; omega
    · omega
def crS (Λ : Mm) (s : Int → Int) (c : Int) (q : Int × Int) : Int × Int := if q.1 = 0 then q else if wyW Λ s 3 c = 0 then (if wyW Λ s 2 c = 0 then q else if q.2 ≠ 0 ∧ ptP Λ s c (Λ 0 0).toNat ≠ q.2 then (0, q.2) else (1, ptP Λ s c (Λ 0 0).toNat)) else (0, q.2)
def crN (Λ : Mm) (s : Int → Int) (n : Nat) : Int × Int := fd (fun c q => crS Λ s (c : Int) q) (1, 0) n
theorem crN_stay {Λ : Mm} {s : Int → Int} {k : Nat} (h : (crN Λ s k).1 = 0) : ∀ n : Nat, k ≤ n → (crN Λ s n).1 = 0
  | 0, hn => by
    have : k = 0 := by omega
    subst this
    exact h
  | n + 1, hn => by
    by_cases e : k = n + 1
    · subst e; exact h
    · have ih := crN_stay h n (by omega)
      show (crS Λ s (n : Int) (crN Λ s n)).1 = 0
      unfold crS
      rw [if_pos ih]
      exact ih
theorem crN_rg {Λ : Mm} (hW : WL Λ) {s : Int → Int} : ∀ n : Nat, 0 ≤ (crN Λ s n).2 ∧ (crN Λ s n).2 < 512
  | 0 => by show (0 : Int) ≤ 0 ∧ (0 : Int) < 512; decide
  | n + 1 => by
    have hn := hW.1
    have ih := crN_rg hW (s := s) n
    have hp := ptP_rg (Λ := Λ) (s := s) (c := (n : Int)) (n := (Λ 0 0).toNat) (by omega)
    have e : crN Λ s (n + 1) = crS Λ s (n : Int) (crN Λ s n) := rfl
    rw [e]
    unfold crS
    repeat' split
    all_goals first | exact ih | exact hp
section
variable {Λ : Mm} {s : Int → Int} {c : Int} {q : Int × Int}
theorem crS_a (h1 : q.1 = 1) (h : ¬ wyW Λ s 3 c = 0) : crS Λ s c q = (0, q.2) := by unfold crS; rw [if_neg (by omega), if_neg h]
theorem crS_b (h1 : q.1 = 1) (h : wyW Λ s 3 c = 0) (h2 : wyW Λ s 2 c = 0) : crS Λ s c q = q := by unfold crS; rw [if_neg (by omega), if_pos h, if_pos h2]
theorem crS_c (h1 : q.1 = 1) (h : wyW Λ s 3 c = 0) (h2 : ¬ wyW Λ s 2 c = 0) (h3 : ¬ q.2 = 0) (h4 : ¬ ptP Λ s c (Λ 0 0).toNat = q.2) : crS Λ s c q = (0, q.2) := by unfold crS; rw [if_neg (by omega), if_pos h, if_neg h2, if_pos ⟨h3, h4⟩]
theorem crS_d (h1 : q.1 = 1) (h : wyW Λ s 3 c = 0) (h2 : ¬ wyW Λ s 2 c = 0) (h3 : ¬ (q.2 ≠ 0 ∧ ptP Λ s c (Λ 0 0).toNat ≠ q.2)) : crS Λ s c q = (1, ptP Λ s c (Λ 0 0).toNat) := by unfold crS; rw [if_neg (by omega), if_pos h, if_neg h2, if_neg h3]
end
def cdI (Λ : Mm) (i : Int) : Int := if i < 0 ∨ (0 < i ∧ Λ 0 0 ≤ i) then 1 else 0
theorem sp_surveyed {l : Launch} {γ : Gh} {ρ m : Mm} {ld : Int} {Λ : Mm} {hl tl : List Int} (hL : LY ρ) (hLn : ρ 1 3 = ld) (hS : isS ρ ld) (hR : MR m) (hW : WL Λ) (hG : LandC m ld Λ hl tl) {s : Int → Int} (hN : MomC m 39 s) : gE l γ μX10_surveyed 4 0 0 (rR KK fun x ρ9 m9 => 71 = x ∧ wr ρ 71 0 ld = ρ9 ∧ MR m9 ∧ SvC m9 Λ s ∧ Fr wyL m m9) xN KK ρ m [vR 1] := by
  refine gE.ofw cl_X10.2 ?_ rfl rfl (Nat.le_of_ble_eq_true rfl)
  show gT l γ μX10_surveyed 4 0 0 _ _ KK ρ m 0 [some (vR 1)] []
  have hld := hG.ld9
  refine tz_aload0 (n := 1) (g_at ck_X10_surveyed 0 rfl) rfl (g_ne kd_1) ?_
  refine tz_getOv (n := 4) (a := 71) fk_X10_81 kd_1 (ly_1_15 hL) (g_at ck_X10_surveyed 1 rfl) rfl ?_
  refine tz_aload0 (n := 5) (g_at ck_X10_surveyed 2 rfl) rfl (g_ne kd_1) ?_
  refine tz_getOv (n := 8) (a := ld) fk_X10_20 kd_1 hLn (g_at ck_X10_surveyed 3 rfl) rfl ?_
  refine tz_aload0 (n := 9) (g_at ck_X10_surveyed 4 rfl) rfl (g_ne kd_1) ?_
  refine tz_getOv (n := 12) (a := 39) fk_X10_39 kd_1 (ly_1_6 hL) (g_at ck_X10_surveyed 5 rfl) rfl ?_
  refine tz_cvV2 (n := 15) (μ' := μX9_survey) (cb' := 0) (sb' := 0) ml_X10_419 mo_X9_survey mv_X9_survey np_X9_survey kd_71 (g_at ck_X10_surveyed 6 rfl) (sp_survey hL hS hR hW hG hN) rfl rfl rfl ⟨by decide, by decide⟩ (Nat.le_of_ble_eq_true rfl) (by decide) (by decide) (fun ρ9 m12 hq => ?_)
  obtain ⟨rfl, hR1, hV12, hF12⟩ := hq
  have hL := LY_wr (r := 71) (k := 0) (x := ld) hL (by decide)
  refine tz_aload0 (n := 16) (g_at ck_X10_surveyed 7 rfl) rfl (g_ne kd_1) ?_
  refine tz_getOv (n := 19) (a := 71) fk_X10_81 kd_1 (ly_1_15 hL) (g_at ck_X10_surveyed 8 rfl) rfl ?_
  exact tz_aret (g_at ck_X10_surveyed 9 rfl) rfl (rR_mk ⟨rfl, rfl, hR1, hV12, hF12⟩)
theorem sp_orNone {l : Launch} {γ : Gh} {ρ m : Mm} {v : Int} (hR : MR m) (hv : 0 ≤ v ∧ v ≤ 10000) : gE l γ μX10_orNone 0 0 0 (rI KK fun x ρ9 m9 => ρ = ρ9 ∧ MR m9 ∧ orN v = x ∧ m = m9) xN KK ρ m [vI v] := by
  refine gE.ofw cl_X10.2 ?_ rfl rfl (Nat.le_of_ble_eq_true rfl)
  show gT l γ μX10_orNone 0 0 0 _ _ KK ρ m 0 [some (vI v)] []
  refine tz_iload0 (n := 1) (g_at ck_X10_orNone 0 rfl) rfl ?_
  refine tz_sipush (n := 4) (g_at ck_X10_orNone 1 rfl) rfl rfl ?_
  refine tz_icmp_lt (n := 7) (tgt := 11) (g_at ck_X10_orNone 2 rfl) rfl rfl ⟨(by omega), (by omega), (by decide), (by decide)⟩ (fun h4 => ?_) (fun h4 => ?_)
  · skip
    refine tz_iload0 (n := 12) (g_at ck_X10_orNone 5 rfl) rfl ?_
    exact tz_iret (g_at ck_X10_orNone 6 rfl) rfl (rI_mk ⟨rfl, hR, if_pos h4, rfl⟩)
  · skip
    refine tz_iconst (n := 8) (g_at ck_X10_orNone 3 rfl) rfl ?_
    refine tz_goto (tgt := 12) (g_at ck_X10_orNone 4 rfl) rfl ?_
    exact tz_iret (g_at ck_X10_orNone 6 rfl) rfl (rI_mk ⟨rfl, hR, if_neg h4, rfl⟩)
theorem sp_way {l : Launch} {γ : Gh} {ρ m : Mm} {a z w : Int} (ha : -2147483648 ≤ a ∧ a < 2147483648) (hz : -2147483648 ≤ z ∧ z < 2147483648) (hw : -2147483648 ≤ w ∧ w < 2147483648) {ld : Int} {Λ : Mm} {hl tl : List Int} (hL : LY ρ) (hLn : ρ 1 3 = ld) (hS : isS ρ ld) (hR : MR m) (hW : WL Λ) (hG : LandC m ld Λ hl tl) {s : Int → Int} (hN : MomC m 39 s) (hσ : WS Λ 0 (sig0 s)) : gE l γ μX10_way 7 3 18 (rI KK fun x ρ9 m9 => qR ρ ρ9 ∧ MR m9 ∧ qM ld m m9 ∧ sq (cdC Λ a) (sq (cdC Λ z) (cdW w 1)) = 0 ∧ orN (if w = 0 then wyW Λ s 0 (a * 9 + z) else wyW Λ s 1 (a * 9 + z)) = x) (xC ρ m (sq (cdC Λ a) (sq (cdC Λ z) (cdW w 1)))) KK ρ m [vR 1, vI a, vI z, vI w] := by
  refine gE.ofw cl_X10.2 ?_ rfl rfl (Nat.le_of_ble_eq_true rfl)
  show gT l γ μX10_way 7 3 18 _ _ KK ρ m 0 [some (vR 1), some (vI a), some (vI z), some (vI w)] []
  have hn1 := hW.1
  have hn8 := hW.2.1
  have hld := hG.ld9
  refine tz_aload0 (n := 1) (g_at ck_X10_way 0 rfl) rfl (g_ne kd_1) ?_
  refine tz_iload1 (n := 2) (g_at ck_X10_way 1 rfl) rfl ?_
  refine tz_cvxV1 (n := 5) (μ' := μX10_needCrossing) (cb' := 2) (sb' := 12) ml_X10_185 mo_X10_needCrossing mv_X10_needCrossing np_X10_needCrossing kd_1 (g_at ck_X10_way 2 rfl) (sp_needC ⟨ha.1, ha.2⟩ hL hLn hS hR hW hG) rfl rfl rfl ⟨by decide, by decide⟩ (Nat.le_of_ble_eq_true rfl) (by decide) (by decide) (g_in (g_m5 (List.mem_of_getElem? (i := 41) rfl)) rfl) (fun E9 ρ9 m9 h9 => g_gX_out rfl h9.1 h9.2.1 (sq_1 h9.2.2)) (fun ρ9 m2 hq => ?_)
  obtain ⟨rfl, hR1, rfl, hz2⟩ := hq
  have ha2 := cdC_0 hz2
  refine tz_aload0 (n := 6) (g_at ck_X10_way 3 rfl) rfl (g_ne kd_1) ?_
  refine tz_iload2 (n := 7) (g_at ck_X10_way 4 rfl) rfl ?_
  refine tz_cvxV1 (n := 10) (μ' := μX10_needCrossing) (cb' := 1) (sb' := 6) ml_X10_185 mo_X10_needCrossing mv_X10_needCrossing np_X10_needCrossing kd_1 (g_at ck_X10_way 5 rfl) (sp_needC ⟨hz.1, hz.2⟩ hL hLn hS hR1 hW hG) rfl rfl rfl ⟨by decide, by decide⟩ (Nat.le_of_ble_eq_true rfl) (by decide) (by decide) (g_in (g_m5 (List.mem_of_getElem? (i := 41) rfl)) rfl) (fun E9 ρ9 m9 h9 => g_gX_out rfl h9.1 h9.2.1 (sq_2 hz2 (sq_1 h9.2.2))) (fun ρ9 m7 hq => ?_)
  obtain ⟨rfl, hR2, rfl, hz7⟩ := hq
  have hz3 := cdC_0 hz7
  refine tz_iload3 (n := 11) (g_at ck_X10_way 6 rfl) rfl ?_
  refine tz_iconst (n := 12) (g_at ck_X10_way 7 rfl) rfl ?_
  refine tz_csxV2 (n := 15) (μ' := μX10_needWhat) (cb' := 0) (sb' := 0) ml_X10_135 mo_X10_needWhat ms_X10_needWhat np_X10_needWhat (g_at ck_X10_way 8 rfl) (sp_needW ⟨hw.1, hw.2⟩ ⟨(by decide), (by decide)⟩ hR2) rfl rfl ⟨by decide, by decide⟩ (Nat.le_of_ble_eq_true rfl) (by decide) (by decide) (g_in (g_m4 (List.mem_of_getElem? (i := 228) rfl)) rfl) (fun E9 ρ9 m9 h9 => g_gX_out rfl h9.1 h9.2.1 (sq_2 hz2 (sq_2 hz7 h9.2.2))) (fun ρ9 m12 hq => ?_)
  obtain ⟨rfl, hR3, rfl, hz12⟩ := hq
  have hw2 := cdW_0 hz12
  refine tz_aload0 (n := 16) (g_at ck_X10_way 9 rfl) rfl (g_ne kd_1) ?_
  refine tz_cvR0 (n := 19) (μ' := μX10_surveyed) (cb' := 0) (sb' := 0) ml_X10_159 mo_X10_surveyed mv_X10_surveyed np_X10_surveyed kd_1 (g_at ck_X10_way 10 rfl) (sp_surveyed hL hLn hS hR3 hW hG hN) rfl rfl rfl ⟨by decide, by decide⟩ (Nat.le_of_ble_eq_true rfl) (by decide) (by decide) (fun x16 ρ9 m16 hq => ?_)
  obtain ⟨rfl, rfl, hR4, hV16, hF16⟩ := hq
  have hQ16 := qM_wy (ld := ld) hF16
  have hG16 := hG.q hQ16
  have hqr16 := qR_71 (ρ := ρ) (x := ld)
  have hL := hL.q hqr16
  have hLw : wr ρ 71 0 ld 71 0 = ld := wr_same
  have hLn := hqr16.ln hLn
  have hS := isS_q hL qR.rf hld
  have hN16 := hN.q hld hQ16
  refine tz_popR (n := 20) (g_at ck_X10_way 11 rfl) rfl ?_
  refine tz_iload3 (n := 21) (g_at ck_X10_way 12 rfl) rfl ?_
  refine tz_if_ne (n := 24) (tgt := 36) (g_at ck_X10_way 13 rfl) rfl rfl ⟨hw.1, hw.2⟩ (fun h21 => ?_) (fun h21 => ?_)
  · skip
    refine tz_aload0 (n := 37) (g_at ck_X10_way 20 rfl) rfl (g_ne kd_1) ?_
    refine tz_getOv (n := 40) (a := 71) fk_X10_81 kd_1 (ly_1_15 hL) (g_at ck_X10_way 21 rfl) rfl ?_
    refine tz_iload1 (n := 41) (g_at ck_X10_way 22 rfl) rfl ?_
    refine tz_iload2 (n := 42) (g_at ck_X10_way 23 rfl) rfl ?_
    refine tz_cvI2 (n := 45) (μ' := μX9_costFrom) (cb' := 0) (sb' := 0) ml_X10_379 mo_X9_costFrom mv_X9_costFrom np_X9_costFrom kd_71 (g_at ck_X10_way 24 rfl) (sp_costFrom hL hR4 (by omega) (hV16.c _ (by omega))) rfl rfl rfl ⟨by decide, by decide⟩ (Nat.le_of_ble_eq_true rfl) (by decide) (by decide) (fun x42 ρ9 m42 hq => ?_)
    obtain ⟨rfl, hR5, rfl, rfl⟩ := hq
    refine tz_csI1 (n := 48) (μ' := μX10_orNone) (cb' := 0) (sb' := 0) ml_X10_382 mo_X10_orNone ms_X10_orNone np_X10_orNone (g_at ck_X10_way 25 rfl) (sp_orNone hR5 (by have := (wyW_B hW s).1 (a * 9 + z); omega)) rfl rfl ⟨by decide, by decide⟩ (Nat.le_of_ble_eq_true rfl) (by decide) (by decide) (fun x45 ρ9 m45 hq => ?_)
    obtain ⟨rfl, hR6, rfl, rfl⟩ := hq
    exact tz_iret (g_at ck_X10_way 26 rfl) rfl (rI_mk ⟨hqr16, hR6, hQ16, sq_0 hz2 (sq_0 hz7 hz12), by rw [if_neg h21]⟩)
  · skip
    refine tz_aload0 (n := 25) (g_at ck_X10_way 14 rfl) rfl (g_ne kd_1) ?_
    refine tz_getOv (n := 28) (a := 71) fk_X10_81 kd_1 (ly_1_15 hL) (g_at ck_X10_way 15 rfl) rfl ?_
    refine tz_iload1 (n := 29) (g_at ck_X10_way 16 rfl) rfl ?_
    refine tz_iload2 (n := 30) (g_at ck_X10_way 17 rfl) rfl ?_
    refine tz_cvI2 (n := 33) (μ' := μX9_farFrom) (cb' := 0) (sb' := 0) ml_X10_376 mo_X9_farFrom mv_X9_farFrom np_X9_farFrom kd_71 (g_at ck_X10_way 18 rfl) (sp_farFrom hL hR4 (by omega) (hV16.f _ (by omega))) rfl rfl rfl ⟨by decide, by decide⟩ (Nat.le_of_ble_eq_true rfl) (by decide) (by decide) (fun x30 ρ9 m30 hq => ?_)
    obtain ⟨rfl, hR7, rfl, rfl⟩ := hq
    refine tz_goto (tgt := 45) (g_at ck_X10_way 19 rfl) rfl ?_
    refine tz_csI1 (n := 48) (μ' := μX10_orNone) (cb' := 0) (sb' := 0) ml_X10_382 mo_X10_orNone ms_X10_orNone np_X10_orNone (g_at ck_X10_way 25 rfl) (sp_orNone hR7 (by have := (wyW_B hW s).1 (a * 9 + z); omega)) rfl rfl ⟨by decide, by decide⟩ (Nat.le_of_ble_eq_true rfl) (by decide) (by decide) (fun x45 ρ9 m45 hq => ?_)
    obtain ⟨rfl, hR8, rfl, rfl⟩ := hq
    exact tz_iret (g_at ck_X10_way 26 rfl) rfl (rI_mk ⟨hqr16, hR8, hQ16, sq_0 hz2 (sq_0 hz7 hz12), by rw [if_pos h21]⟩)
theorem sp_lodged {l : Launch} {γ : Gh} {ρ m : Mm} {w : Int} (hw : -2147483648 ≤ w ∧ w < 2147483648) {ld : Int} {Λ : Mm} {hl tl : List Int} (hL : LY ρ) (hLn : ρ 1 3 = ld) (hS : isS ρ ld) (hR : MR m) (hW : WL Λ) (hG : LandC m ld Λ hl tl) {s : Int → Int} (hN : MomC m 39 s) (hσ : WS Λ 0 (sig0 s)) : gE l γ μX10_lodged 7 1 6 (rI KK fun x ρ9 m9 => qR ρ ρ9 ∧ MR m9 ∧ qM ld m m9 ∧ cdW w 1 = 0 ∧ ∃ T : Int → Int, LodgeOK Λ s T ∧ (if w = 0 then (tbN Λ s T (Λ 0 1).toNat).2.1 else (tbN Λ s T (Λ 0 1).toNat).2.2) = x) (xC ρ m (cdW w 1)) KK ρ m [vR 1, vI w] := by
  refine gE.ofw cl_X10.2 ?_ rfl rfl (Nat.le_of_ble_eq_true rfl)
  show gT l γ μX10_lodged 7 1 6 _ _ KK ρ m 0 [some (vR 1), some (vI w)] []
  have hn1 := hW.1
  have hn8 := hW.2.1
  have hld := hG.ld9
  refine tz_iload1 (n := 1) (g_at ck_X10_lodged 0 rfl) rfl ?_
  refine tz_iconst (n := 2) (g_at ck_X10_lodged 1 rfl) rfl ?_
  refine tz_csxV2 (n := 5) (μ' := μX10_needWhat) (cb' := 0) (sb' := 0) ml_X10_135 mo_X10_needWhat ms_X10_needWhat np_X10_needWhat (g_at ck_X10_lodged 2 rfl) (sp_needW ⟨hw.1, hw.2⟩ ⟨(by decide), (by decide)⟩ hR) rfl rfl ⟨by decide, by decide⟩ (Nat.le_of_ble_eq_true rfl) (by decide) (by decide) (g_in (g_m4 (List.mem_of_getElem? (i := 228) rfl)) rfl) (fun E9 ρ9 m9 h9 => g_gX_out rfl h9.1 h9.2.1 h9.2.2) (fun ρ9 m2 hq => ?_)
  obtain ⟨rfl, hR1, rfl, hz2⟩ := hq
  have hw2 := cdW_0 hz2
  refine tz_aload0 (n := 6) (g_at ck_X10_lodged 3 rfl) rfl (g_ne kd_1) ?_
  refine tz_cvR0 (n := 9) (μ' := μX10_surveyed) (cb' := 0) (sb' := 0) ml_X10_159 mo_X10_surveyed mv_X10_surveyed np_X10_surveyed kd_1 (g_at ck_X10_lodged 4 rfl) (sp_surveyed hL hLn hS hR1 hW hG hN) rfl rfl rfl ⟨by decide, by decide⟩ (Nat.le_of_ble_eq_true rfl) (by decide) (by decide) (fun x6 ρ9 m6 hq => ?_)
  obtain ⟨rfl, rfl, hR2, hV6, hF6⟩ := hq
  have hQ6 := qM_wy (ld := ld) hF6
  have hG6 := hG.q hQ6
  have hqr6 := qR_71 (ρ := ρ) (x := ld)
  have hL := hL.q hqr6
  have hLw : wr ρ 71 0 ld 71 0 = ld := wr_same
  have hLn := hqr6.ln hLn
  have hS := isS_q hL qR.rf hld
  have hN6 := hN.q hld hQ6
  refine tz_cvV0 (n := 12) (μ' := μX9_lodge) (cb' := 0) (sb' := 0) ml_X10_239 mo_X9_lodge mv_X9_lodge np_X9_lodge kd_71 (g_at ck_X10_lodged 5 rfl) (sp_lodge hL hLw hS hR2 hW hG6 hV6 hσ) rfl rfl rfl ⟨by decide, by decide⟩ (Nat.le_of_ble_eq_true rfl) (by decide) (by decide) (fun ρ9 m9 hq => ?_)
  obtain ⟨rfl, hR3, hF9, T9, hT9, h89, h99, hK9⟩ := hq
  refine tz_iload1 (n := 13) (g_at ck_X10_lodged 6 rfl) rfl ?_
  refine tz_if_ne (n := 16) (tgt := 26) (g_at ck_X10_lodged 7 rfl) rfl rfl ⟨hw.1, hw.2⟩ (fun h13 => ?_) (fun h13 => ?_)
  · skip
    refine tz_aload0 (n := 27) (g_at ck_X10_lodged 12 rfl) rfl (g_ne kd_1) ?_
    refine tz_getOv (n := 30) (a := 71) fk_X10_81 kd_1 (ly_1_15 hL) (g_at ck_X10_lodged 13 rfl) rfl ?_
    refine tz_getIw (n := 33) (kz := 9) fk_X10_388 kd_71 (g_at ck_X10_lodged 14 rfl) rfl rfl ?_
    rw [h99]
    exact tz_iret (g_at ck_X10_lodged 15 rfl) rfl (rI_mk ⟨hqr6, hR3, hQ6.tr (qM_wy (hF9.sub (by decide))), hz2, T9, hT9, by rw [if_neg h13]⟩)
  · skip
    refine tz_aload0 (n := 17) (g_at ck_X10_lodged 8 rfl) rfl (g_ne kd_1) ?_
    refine tz_getOv (n := 20) (a := 71) fk_X10_81 kd_1 (ly_1_15 hL) (g_at ck_X10_lodged 9 rfl) rfl ?_
    refine tz_getIw (n := 23) (kz := 8) fk_X10_385 kd_71 (g_at ck_X10_lodged 10 rfl) rfl rfl ?_
    rw [h89]
    refine tz_goto (tgt := 33) (g_at ck_X10_lodged 11 rfl) rfl ?_
    exact tz_iret (g_at ck_X10_lodged 15 rfl) rfl (rI_mk ⟨hqr6, hR3, hQ6.tr (qM_wy (hF9.sub (by decide))), hz2, T9, hT9, by rw [if_pos h13]⟩)
theorem sp_bedOf {l : Launch} {γ : Gh} {ρ m : Mm} {p : Int} {ld : Int} {Λ : Mm} {hl tl : List Int} (hL : LY ρ) (hLn : ρ 1 3 = ld) (hS : isS ρ ld) (hR : MR m) (hW : WL Λ) (hG : LandC m ld Λ hl tl) {s : Int → Int} (hN : MomC m 39 s) (hσ : WS Λ 0 (sig0 s)) (hp : 0 ≤ p ∧ p < Λ 0 1) : gE l γ μX10_bedOf 6 0 0 (rI KK fun x ρ9 m9 => qR ρ ρ9 ∧ MR m9 ∧ qM ld m m9 ∧ ∃ T : Int → Int, LodgeOK Λ s T ∧ bdP Λ s T p = x) xN KK ρ m [vR 1, vI p] := by
  refine gE.ofw cl_X10.2 ?_ rfl rfl (Nat.le_of_ble_eq_true rfl)
  show gT l γ μX10_bedOf 6 0 0 _ _ KK ρ m 0 [some (vR 1), some (vI p)] []
  have hn1 := hW.1
  have hn8 := hW.2.1
  have hld := hG.ld9
  refine tz_aload0 (n := 1) (g_at ck_X10_bedOf 0 rfl) rfl (g_ne kd_1) ?_
  refine tz_cvR0 (n := 4) (μ' := μX10_surveyed) (cb' := 0) (sb' := 0) ml_X10_159 mo_X10_surveyed mv_X10_surveyed np_X10_surveyed kd_1 (g_at ck_X10_bedOf 1 rfl) (sp_surveyed hL hLn hS hR hW hG hN) rfl rfl rfl ⟨by decide, by decide⟩ (Nat.le_of_ble_eq_true rfl) (by decide) (by decide) (fun x1 ρ9 m1 hq => ?_)
  obtain ⟨rfl, rfl, hR1, hV1, hF1⟩ := hq
  have hQ1 := qM_wy (ld := ld) hF1
  have hG1 := hG.q hQ1
  have hqr1 := qR_71 (ρ := ρ) (x := ld)
  have hL := hL.q hqr1
  have hLw : wr ρ 71 0 ld 71 0 = ld := wr_same
  have hLn := hqr1.ln hLn
  have hS := isS_q hL qR.rf hld
  have hN1 := hN.q hld hQ1
  refine tz_cvV0 (n := 7) (μ' := μX9_lodge) (cb' := 0) (sb' := 0) ml_X10_239 mo_X9_lodge mv_X9_lodge np_X9_lodge kd_71 (g_at ck_X10_bedOf 2 rfl) (sp_lodge hL hLw hS hR1 hW hG1 hV1 hσ) rfl rfl rfl ⟨by decide, by decide⟩ (Nat.le_of_ble_eq_true rfl) (by decide) (by decide) (fun ρ9 m4 hq => ?_)
  obtain ⟨rfl, hR2, hF4, T4, hT4, h84, h94, hK4⟩ := hq
  refine tz_aload0 (n := 8) (g_at ck_X10_bedOf 3 rfl) rfl (g_ne kd_1) ?_
  refine tz_getOv (n := 11) (a := 71) fk_X10_81 kd_1 (ly_1_15 hL) (g_at ck_X10_bedOf 4 rfl) rfl ?_
  refine tz_getAv (n := 14) (a := 78) fk_X10_242 kd_71 (ly_71_7 hL) (g_at ck_X10_bedOf 5 rfl) rfl ?_
  refine tz_iload1 (n := 15) (g_at ck_X10_bedOf 6 rfl) rfl ?_
  refine tz_iald (n := 16) kd_78 (by omega) (g_at ck_X10_bedOf 7 rfl) rfl ?_
  rw [hK4 p hp.1 hp.2]
  exact tz_iret (g_at ck_X10_bedOf 8 rfl) rfl (rI_mk ⟨hqr1, hR2, hQ1.tr (qM_wy (hF4.sub (by decide))), T4, hT4, rfl⟩)
theorem sp_gather {l : Launch} {γ : Gh} {ρ m : Mm} {w : Int} (hw : -2147483648 ≤ w ∧ w < 2147483648) {ld : Int} {Λ : Mm} {hl tl : List Int} (hL : LY ρ) (hLn : ρ 1 3 = ld) (hS : isS ρ ld) (hR : MR m) (hW : WL Λ) (hG : LandC m ld Λ hl tl) {s : Int → Int} (hN : MomC m 39 s) (hσ : WS Λ 0 (sig0 s)) : gE l γ μX10_gather 7 1 6 (rI KK fun x ρ9 m9 => qR ρ ρ9 ∧ MR m9 ∧ qM ld m m9 ∧ cdW w 2 = 0 ∧ (if w = 0 then (gaN Λ s (Λ 0 0).toNat).1 else if w = 1 then (gaN Λ s (Λ 0 0).toNat).2.1 else (gaN Λ s (Λ 0 0).toNat).2.2) = x) (xC ρ m (cdW w 2)) KK ρ m [vR 1, vI w] := by
  refine gE.ofw cl_X10.2 ?_ rfl rfl (Nat.le_of_ble_eq_true rfl)
  show gT l γ μX10_gather 7 1 6 _ _ KK ρ m 0 [some (vR 1), some (vI w), none, none, none, none, none, none] []
  have hn1 := hW.1
  have hn8 := hW.2.1
  have hld := hG.ld9
  refine tz_iload1 (n := 1) (g_at ck_X10_gather 0 rfl) rfl ?_
  refine tz_iconst (n := 2) (g_at ck_X10_gather 1 rfl) rfl ?_
  refine tz_csxV2 (n := 5) (μ' := μX10_needWhat) (cb' := 0) (sb' := 0) ml_X10_135 mo_X10_needWhat ms_X10_needWhat np_X10_needWhat (g_at ck_X10_gather 2 rfl) (sp_needW ⟨hw.1, hw.2⟩ ⟨(by decide), (by decide)⟩ hR) rfl rfl ⟨by decide, by decide⟩ (Nat.le_of_ble_eq_true rfl) (by decide) (by decide) (g_in (g_m4 (List.mem_of_getElem? (i := 228) rfl)) rfl) (fun E9 ρ9 m9 h9 => g_gX_out rfl h9.1 h9.2.1 h9.2.2) (fun ρ9 m2 hq => ?_)
  obtain ⟨rfl, hR1, rfl, hz2⟩ := hq
  have hw2 := cdW_0 hz2
  refine tz_aload0 (n := 6) (g_at ck_X10_gather 3 rfl) rfl (g_ne kd_1) ?_
  refine tz_cvR0 (n := 9) (μ' := μX10_surveyed) (cb' := 0) (sb' := 0) ml_X10_159 mo_X10_surveyed mv_X10_surveyed np_X10_surveyed kd_1 (g_at ck_X10_gather 4 rfl) (sp_surveyed hL hLn hS hR1 hW hG hN) rfl rfl rfl ⟨by decide, by decide⟩ (Nat.le_of_ble_eq_true rfl) (by decide) (by decide) (fun x6 ρ9 m6 hq => ?_)
  obtain ⟨rfl, rfl, hR2, hV6, hF6⟩ := hq
  have hQ6 := qM_wy (ld := ld) hF6
  have hG6 := hG.q hQ6
  have hqr6 := qR_71 (ρ := ρ) (x := ld)
  have hL := hL.q hqr6
  have hLw : wr ρ 71 0 ld 71 0 = ld := wr_same
  have hLn := hqr6.ln hLn
  have hS := isS_q hL qR.rf hld
  have hN6 := hN.q hld hQ6
  refine tz_popR (n := 10) (g_at ck_X10_gather 5 rfl) rfl ?_
  refine tz_iconst (n := 11) (g_at ck_X10_gather 6 rfl) rfl ?_
  refine tz_istore2 (n := 12) (g_at ck_X10_gather 7 rfl) rfl (by decide) g_hpI ?_
  refine tz_iconst (n := 13) (g_at ck_X10_gather 8 rfl) rfl ?_
  refine tz_istore3 (n := 14) (g_at ck_X10_gather 9 rfl) rfl (by decide) g_hpI ?_
  refine tz_iconst (n := 15) (g_at ck_X10_gather 10 rfl) rfl ?_
  refine tz_istore4 (n := 17) (g_at ck_X10_gather 11 rfl) rfl (by decide) g_hpI ?_
  refine tz_iconst (n := 18) (g_at ck_X10_gather 12 rfl) rfl ?_
  refine tz_istore5 (n := 20) (g_at ck_X10_gather 13 rfl) rfl (by decide) g_hpI ?_
  refine g_for (fun i : Nat => gT l γ μX10_gather 7 0 0 _ _ KK (wr ρ 71 0 ld) m6 20 [some (vR 1), some (vI w), some (vI (gaN Λ s i).1), some (vI (gaN Λ s i).2.1), some (vI (gaN Λ s i).2.2), some (vI (i : Int)), none, none] []) (Λ 0 0).toNat ?_ (fun i hi ihi => ?_) 0 (Nat.zero_le _)
  · skip
    refine tz_iload5 (n := 22) (g_at ck_X10_gather 14 rfl) rfl ?_
    refine tz_aload0 (n := 23) (g_at ck_X10_gather 15 rfl) rfl (g_ne kd_1) ?_
    refine tz_getOv (n := 26) (a := ld) fk_X10_20 kd_1 hLn (g_at ck_X10_gather 16 rfl) rfl ?_
    refine tz_getIw (n := 29) (kz := 0) fk_X10_139 hS.k0 (g_at ck_X10_gather 17 rfl) rfl rfl ?_
    rw [hG6.n0]
    refine tz_icmp_ge (n := 32) (tgt := 94) (g_at ck_X10_gather 18 rfl) rfl rfl ⟨by omega, by omega, by omega, by omega⟩ (fun h29 => ?_) (fun h29 => absurd h29 (by omega))
    refine tz_iload1 (n := 95) (g_at ck_X10_gather 49 rfl) rfl ?_
    refine tz_if_ne (n := 98) (tgt := 100) (g_at ck_X10_gather 50 rfl) rfl rfl ⟨hw.1, hw.2⟩ (fun h95 => ?_) (fun h95 => ?_)
    · skip
      refine tz_iload1 (n := 101) (g_at ck_X10_gather 53 rfl) rfl ?_
      refine tz_iconst (n := 102) (g_at ck_X10_gather 54 rfl) rfl ?_
      refine tz_icmp_ne (n := 105) (tgt := 109) (g_at ck_X10_gather 55 rfl) rfl rfl ⟨hw.1, hw.2, (by decide), (by decide)⟩ (fun h102 => ?_) (fun h102 => ?_)
      · skip
        refine tz_iload4 (n := 111) (g_at ck_X10_gather 58 rfl) rfl ?_
        exact tz_iret (g_at ck_X10_gather 59 rfl) rfl (rI_mk ⟨hqr6, hR2, hQ6, hz2, by simp (disch := omega) only [if_pos, if_neg]⟩)
      · skip
        refine tz_iload3 (n := 106) (g_at ck_X10_gather 56 rfl) rfl ?_
        refine tz_goto (tgt := 111) (g_at ck_X10_gather 57 rfl) rfl ?_
        exact tz_iret (g_at ck_X10_gather 59 rfl) rfl (rI_mk ⟨hqr6, hR2, hQ6, hz2, by simp (disch := omega) only [if_pos, if_neg]⟩)
    · skip
      refine tz_iload2 (n := 99) (g_at ck_X10_gather 51 rfl) rfl ?_
      exact tz_iret (g_at ck_X10_gather 52 rfl) rfl (rI_mk ⟨hqr6, hR2, hQ6, hz2, by simp (disch := omega) only [if_pos, if_neg]⟩)
  · skip
    have hga := gaN_rg hW (s := s) i
    have hcm := cmN_rg (Λ := Λ) (s := s) (c := (i : Int)) (Λ 0 1).toNat
    have hcc := ccN_rg hW (s := s) (c := (i : Int)) (Λ 0 1).toNat
    refine tz_iload5 (n := 22) (g_at ck_X10_gather 14 rfl) rfl ?_
    refine tz_aload0 (n := 23) (g_at ck_X10_gather 15 rfl) rfl (g_ne kd_1) ?_
    refine tz_getOv (n := 26) (a := ld) fk_X10_20 kd_1 hLn (g_at ck_X10_gather 16 rfl) rfl ?_
    refine tz_getIw (n := 29) (kz := 0) fk_X10_139 hS.k0 (g_at ck_X10_gather 17 rfl) rfl rfl ?_
    rw [hG6.n0]
    refine tz_icmp_ge (n := 32) (tgt := 94) (g_at ck_X10_gather 18 rfl) rfl rfl ⟨by omega, by omega, by omega, by omega⟩ (fun h29 => absurd h29 (by omega)) (fun h29 => ?_)
    refine tz_aload0 (n := 33) (g_at ck_X10_gather 19 rfl) rfl (g_ne kd_1) ?_
    refine tz_getOv (n := 36) (a := 71) fk_X10_81 kd_1 (ly_1_15 hL) (g_at ck_X10_gather 20 rfl) rfl ?_
    refine tz_iload5 (n := 38) (g_at ck_X10_gather 21 rfl) rfl ?_
    refine tz_cvI1 (n := 41) (μ' := μX9_comers) (cb' := 0) (sb' := 0) ml_X10_391 mo_X9_comers mv_X9_comers np_X9_comers kd_71 (g_at ck_X10_gather 22 rfl) (sp_comers hL hLw hS hR2 hW hG6 hV6 hσ (by omega)) rfl rfl rfl ⟨by decide, by decide⟩ (Nat.le_of_ble_eq_true rfl) (by decide) (by decide) (fun x38 ρ9 m38 hq => ?_)
    obtain ⟨rfl, hR3, rfl, rfl⟩ := hq
    refine tz_istore6 (n := 43) (g_at ck_X10_gather 23 rfl) rfl (by decide) g_hpI ?_
    refine tz_aload0 (n := 44) (g_at ck_X10_gather 24 rfl) rfl (g_ne kd_1) ?_
    refine tz_getOv (n := 47) (a := 71) fk_X10_81 kd_1 (ly_1_15 hL) (g_at ck_X10_gather 25 rfl) rfl ?_
    refine tz_iload5 (n := 49) (g_at ck_X10_gather 26 rfl) rfl ?_
    refine tz_cvI1 (n := 52) (μ' := μX9_comersCost) (cb' := 0) (sb' := 0) ml_X10_394 mo_X9_comersCost mv_X9_comersCost np_X9_comersCost kd_71 (g_at ck_X10_gather 27 rfl) (sp_comersCost hL hLw hS hR3 hW hG6 hV6 hσ (by omega)) rfl rfl rfl ⟨by decide, by decide⟩ (Nat.le_of_ble_eq_true rfl) (by decide) (by decide) (fun x49 ρ9 m49 hq => ?_)
    obtain ⟨rfl, hR4, rfl, rfl⟩ := hq
    refine tz_istore7 (n := 54) (g_at ck_X10_gather 28 rfl) rfl (by decide) g_hpI ?_
    refine tz_iload2 (n := 55) (g_at ck_X10_gather 29 rfl) rfl ?_
    refine tz_iconst (n := 56) (g_at ck_X10_gather 30 rfl) rfl ?_
    refine tz_icmp_eq (n := 59) (tgt := 78) (g_at ck_X10_gather 31 rfl) rfl rfl ⟨by omega, by omega, by decide, by decide⟩ (fun h56 => ?_) (fun h56 => ?_)
    · skip
      refine tz_iload5 (n := 80) (g_at ck_X10_gather 41 rfl) rfl ?_
      refine tz_istore2 (n := 81) (g_at ck_X10_gather 42 rfl) rfl (by decide) g_hpI ?_
      refine tz_iload6 (n := 83) (g_at ck_X10_gather 43 rfl) rfl ?_
      refine tz_istore3 (n := 84) (g_at ck_X10_gather 44 rfl) rfl (by decide) g_hpI ?_
      refine tz_iload7 (n := 86) (g_at ck_X10_gather 45 rfl) rfl ?_
      refine tz_istore4 (n := 88) (g_at ck_X10_gather 46 rfl) rfl (by decide) g_hpI ?_
      refine tz_iinc5 (n := 91) (g_at ck_X10_gather 47 rfl) rfl (by decide) g_hpI ?_
      refine tz_goto (tgt := 20) (g_at ck_X10_gather 48 rfl) rfl ?_
      refine tz_drop6 ?_
      refine tz_drop7 ?_
      have e9 : gaN Λ s (i + 1) = (((i : Int)), cmN Λ s (i : Int) (Λ 0 1).toNat, ccN Λ s (i : Int) (Λ 0 1).toNat) := if_pos (Or.inl h56)
      exact gT_eq ihi rfl (by rw [e9]; rfl)
    · skip
      refine tz_iload6 (n := 61) (g_at ck_X10_gather 32 rfl) rfl ?_
      refine tz_iload3 (n := 62) (g_at ck_X10_gather 33 rfl) rfl ?_
      refine tz_icmp_gt (n := 65) (tgt := 78) (g_at ck_X10_gather 34 rfl) rfl rfl ⟨by omega, by omega, by omega, by omega⟩ (fun h62 => ?_) (fun h62 => ?_)
      · skip
        refine tz_iload5 (n := 80) (g_at ck_X10_gather 41 rfl) rfl ?_
        refine tz_istore2 (n := 81) (g_at ck_X10_gather 42 rfl) rfl (by decide) g_hpI ?_
        refine tz_iload6 (n := 83) (g_at ck_X10_gather 43 rfl) rfl ?_
        refine tz_istore3 (n := 84) (g_at ck_X10_gather 44 rfl) rfl (by decide) g_hpI ?_
        refine tz_iload7 (n := 86) (g_at ck_X10_gather 45 rfl) rfl ?_
        refine tz_istore4 (n := 88) (g_at ck_X10_gather 46 rfl) rfl (by decide) g_hpI ?_
        refine tz_iinc5 (n := 91) (g_at ck_X10_gather 47 rfl) rfl (by decide) g_hpI ?_
        refine tz_goto (tgt := 20) (g_at ck_X10_gather 48 rfl) rfl ?_
        refine tz_drop6 ?_
        refine tz_drop7 ?_
        have e9 : gaN Λ s (i + 1) = (((i : Int)), cmN Λ s (i : Int) (Λ 0 1).toNat, ccN Λ s (i : Int) (Λ 0 1).toNat) := if_pos (Or.inr (Or.inl h62))
        exact gT_eq ihi rfl (by rw [e9]; rfl)
      · skip
        refine tz_iload6 (n := 67) (g_at ck_X10_gather 35 rfl) rfl ?_
        refine tz_iload3 (n := 68) (g_at ck_X10_gather 36 rfl) rfl ?_
        refine tz_icmp_ne (n := 71) (tgt := 88) (g_at ck_X10_gather 37 rfl) rfl rfl ⟨by omega, by omega, by omega, by omega⟩ (fun h68 => ?_) (fun h68 => ?_)
        · skip
          refine tz_iinc5 (n := 91) (g_at ck_X10_gather 47 rfl) rfl (by decide) g_hpI ?_
          refine tz_goto (tgt := 20) (g_at ck_X10_gather 48 rfl) rfl ?_
          refine tz_drop6 ?_
          refine tz_drop7 ?_
          have e9 : gaN Λ s (i + 1) = (gaN Λ s i) := if_neg (fun h9 => h9.elim h56 (fun h8 => h8.elim h62 (fun h7 => h68 h7.1)))
          exact gT_eq ihi rfl (by rw [e9]; rfl)
        · skip
          refine tz_iload7 (n := 73) (g_at ck_X10_gather 38 rfl) rfl ?_
          refine tz_iload4 (n := 75) (g_at ck_X10_gather 39 rfl) rfl ?_
          refine tz_icmp_ge (n := 78) (tgt := 88) (g_at ck_X10_gather 40 rfl) rfl rfl ⟨by omega, by omega, by omega, by omega⟩ (fun h75 => ?_) (fun h75 => ?_)
          · skip
            refine tz_iinc5 (n := 91) (g_at ck_X10_gather 47 rfl) rfl (by decide) g_hpI ?_
            refine tz_goto (tgt := 20) (g_at ck_X10_gather 48 rfl) rfl ?_
            refine tz_drop6 ?_
            refine tz_drop7 ?_
            have e9 : gaN Λ s (i + 1) = (gaN Λ s i) := if_neg (fun h9 => h9.elim h56 (fun h8 => h8.elim h62 (fun h7 => absurd h7.2 (Int.not_lt.mpr h75))))
            exact gT_eq ihi rfl (by rw [e9]; rfl)
          · skip
            refine tz_iload5 (n := 80) (g_at ck_X10_gather 41 rfl) rfl ?_
            refine tz_istore2 (n := 81) (g_at ck_X10_gather 42 rfl) rfl (by decide) g_hpI ?_
            refine tz_iload6 (n := 83) (g_at ck_X10_gather 43 rfl) rfl ?_
            refine tz_istore3 (n := 84) (g_at ck_X10_gather 44 rfl) rfl (by decide) g_hpI ?_
            refine tz_iload7 (n := 86) (g_at ck_X10_gather 45 rfl) rfl ?_
            refine tz_istore4 (n := 88) (g_at ck_X10_gather 46 rfl) rfl (by decide) g_hpI ?_
            refine tz_iinc5 (n := 91) (g_at ck_X10_gather 47 rfl) rfl (by decide) g_hpI ?_
            refine tz_goto (tgt := 20) (g_at ck_X10_gather 48 rfl) rfl ?_
            refine tz_drop6 ?_
            refine tz_drop7 ?_
            have e9 : gaN Λ s (i + 1) = (((i : Int)), cmN Λ s (i : Int) (Λ 0 1).toNat, ccN Λ s (i : Int) (Λ 0 1).toNat) := if_pos (Or.inr (Or.inr ⟨h68, Int.not_le.mp h75⟩))
            exact gT_eq ihi rfl (by rw [e9]; rfl)
theorem sp_walk {l : Launch} {γ : Gh} {ρ m : Mm} {c w : Int} (hc : -2147483648 ≤ c ∧ c < 2147483648) (hw : -2147483648 ≤ w ∧ w < 2147483648) {ld : Int} {Λ : Mm} {hl tl : List Int} (hL : LY ρ) (hLn : ρ 1 3 = ld) (hS : isS ρ ld) (hR : MR m) (hW : WL Λ) (hG : LandC m ld Λ hl tl) {s : Int → Int} (hN : MomC m 39 s) (hσ : WS Λ 0 (sig0 s)) : gE l γ μX10_walk 7 2 12 (rI KK fun x ρ9 m9 => qR ρ ρ9 ∧ MR m9 ∧ qM ld m m9 ∧ sq (cdC Λ c) (cdW w 2) = 0 ∧ (if w = 0 then orN (lpN Λ s c (Λ 0 0).toNat) else if w = 1 then (lgN Λ s c (2 ^ (Λ 0 0).toNat)).1 else wyW Λ s 3 c) = x) (xC ρ m (sq (cdC Λ c) (cdW w 2))) KK ρ m [vR 1, vI c, vI w] := by
  refine gE.ofw cl_X10.2 ?_ rfl rfl (Nat.le_of_ble_eq_true rfl)
  show gT l γ μX10_walk 7 2 12 _ _ KK ρ m 0 [some (vR 1), some (vI c), some (vI w)] []
  have hn1 := hW.1
  have hn8 := hW.2.1
  have hld := hG.ld9
  refine tz_aload0 (n := 1) (g_at ck_X10_walk 0 rfl) rfl (g_ne kd_1) ?_
  refine tz_iload1 (n := 2) (g_at ck_X10_walk 1 rfl) rfl ?_
  refine tz_cvxV1 (n := 5) (μ' := μX10_needCrossing) (cb' := 1) (sb' := 6) ml_X10_185 mo_X10_needCrossing mv_X10_needCrossing np_X10_needCrossing kd_1 (g_at ck_X10_walk 2 rfl) (sp_needC ⟨hc.1, hc.2⟩ hL hLn hS hR hW hG) rfl rfl rfl ⟨by decide, by decide⟩ (Nat.le_of_ble_eq_true rfl) (by decide) (by decide) (g_in (g_m5 (List.mem_of_getElem? (i := 41) rfl)) rfl) (fun E9 ρ9 m9 h9 => g_gX_out rfl h9.1 h9.2.1 (sq_1 h9.2.2)) (fun ρ9 m2 hq => ?_)
  obtain ⟨rfl, hR1, rfl, hz2⟩ := hq
  have hc2 := cdC_0 hz2
  refine tz_iload2 (n := 6) (g_at ck_X10_walk 3 rfl) rfl ?_
  refine tz_iconst (n := 7) (g_at ck_X10_walk 4 rfl) rfl ?_
  refine tz_csxV2 (n := 10) (μ' := μX10_needWhat) (cb' := 0) (sb' := 0) ml_X10_135 mo_X10_needWhat ms_X10_needWhat np_X10_needWhat (g_at ck_X10_walk 5 rfl) (sp_needW ⟨hw.1, hw.2⟩ ⟨(by decide), (by decide)⟩ hR1) rfl rfl ⟨by decide, by decide⟩ (Nat.le_of_ble_eq_true rfl) (by decide) (by decide) (g_in (g_m4 (List.mem_of_getElem? (i := 228) rfl)) rfl) (fun E9 ρ9 m9 h9 => g_gX_out rfl h9.1 h9.2.1 (sq_2 hz2 h9.2.2)) (fun ρ9 m7 hq => ?_)
  obtain ⟨rfl, hR2, rfl, hz7⟩ := hq
  have hw2 := cdW_0 hz7
  refine tz_aload0 (n := 11) (g_at ck_X10_walk 6 rfl) rfl (g_ne kd_1) ?_
  refine tz_cvR0 (n := 14) (μ' := μX10_surveyed) (cb' := 0) (sb' := 0) ml_X10_159 mo_X10_surveyed mv_X10_surveyed np_X10_surveyed kd_1 (g_at ck_X10_walk 7 rfl) (sp_surveyed hL hLn hS hR2 hW hG hN) rfl rfl rfl ⟨by decide, by decide⟩ (Nat.le_of_ble_eq_true rfl) (by decide) (by decide) (fun x11 ρ9 m11 hq => ?_)
  obtain ⟨rfl, rfl, hR3, hV11, hF11⟩ := hq
  have hQ11 := qM_wy (ld := ld) hF11
  have hG11 := hG.q hQ11
  have hqr11 := qR_71 (ρ := ρ) (x := ld)
  have hL := hL.q hqr11
  have hLw : wr ρ 71 0 ld 71 0 = ld := wr_same
  have hLn := hqr11.ln hLn
  have hS := isS_q hL qR.rf hld
  have hN11 := hN.q hld hQ11
  refine tz_popR (n := 15) (g_at ck_X10_walk 8 rfl) rfl ?_
  refine tz_iload2 (n := 16) (g_at ck_X10_walk 9 rfl) rfl ?_
  by_cases hk16_0 : w = 0
  · skip
    refine tz_lookup (tgt := 44) (g_at ck_X10_walk 10 rfl) rfl ⟨hw.1, hw.2⟩ (by rw [hk16_0]) rfl ?_
    refine tz_aload0 (n := 45) (g_at ck_X10_walk 11 rfl) rfl (g_ne kd_1) ?_
    refine tz_getOv (n := 48) (a := 71) fk_X10_81 kd_1 (ly_1_15 hL) (g_at ck_X10_walk 12 rfl) rfl ?_
    refine tz_iload1 (n := 49) (g_at ck_X10_walk 13 rfl) rfl ?_
    refine tz_cvI1 (n := 52) (μ' := μX9_loop) (cb' := 0) (sb' := 0) ml_X10_397 mo_X9_loop mv_X9_loop np_X9_loop kd_71 (g_at ck_X10_walk 14 rfl) (sp_loop hL hLw hS hR3 hW hG11 hV11 (by omega)) rfl rfl rfl ⟨by decide, by decide⟩ (Nat.le_of_ble_eq_true rfl) (by decide) (by decide) (fun x49 ρ9 m49 hq => ?_)
    obtain ⟨rfl, hR4, rfl, rfl⟩ := hq
    refine tz_csI1 (n := 55) (μ' := μX10_orNone) (cb' := 0) (sb' := 0) ml_X10_382 mo_X10_orNone ms_X10_orNone np_X10_orNone (g_at ck_X10_walk 15 rfl) (sp_orNone hR4 (lpN_rg hW _)) rfl rfl ⟨by decide, by decide⟩ (Nat.le_of_ble_eq_true rfl) (by decide) (by decide) (fun x52 ρ9 m52 hq => ?_)
    obtain ⟨rfl, hR5, rfl, rfl⟩ := hq
    exact tz_iret (g_at ck_X10_walk 16 rfl) rfl (rI_mk ⟨hqr11, hR5, hQ11, sq_0 hz2 hz7, by simp (disch := omega) only [if_pos, if_neg]⟩)
  by_cases hk16_1 : w = 1
  · skip
    refine tz_lookup (tgt := 56) (g_at ck_X10_walk 10 rfl) rfl ⟨hw.1, hw.2⟩ (by rw [hk16_1]) rfl ?_
    refine tz_aload0 (n := 57) (g_at ck_X10_walk 17 rfl) rfl (g_ne kd_1) ?_
    refine tz_getOv (n := 60) (a := 71) fk_X10_81 kd_1 (ly_1_15 hL) (g_at ck_X10_walk 18 rfl) rfl ?_
    refine tz_iload1 (n := 61) (g_at ck_X10_walk 19 rfl) rfl ?_
    refine tz_cvI1 (n := 64) (μ' := μX9_longest) (cb' := 0) (sb' := 0) ml_X10_400 mo_X9_longest mv_X9_longest np_X9_longest kd_71 (g_at ck_X10_walk 20 rfl) (sp_longest hL hLw hS hR3 hW hG11 hV11 (by omega)) rfl rfl rfl ⟨by decide, by decide⟩ (Nat.le_of_ble_eq_true rfl) (by decide) (by decide) (fun x61 ρ9 m61 hq => ?_)
    obtain ⟨rfl, hR6, hF61, hx61⟩ := hq
    exact tz_iret (g_at ck_X10_walk 21 rfl) rfl (rI_mk ⟨hqr11, hR6, hQ11.tr (qM_wy (hF61.sub (by decide))), sq_0 hz2 hz7, by rw [← hx61]; simp (disch := omega) only [if_pos, if_neg]⟩)
  refine tz_lookup (tgt := 65) (g_at ck_X10_walk 10 rfl) rfl ⟨hw.1, hw.2⟩ (by show (if (0 : Int) = w then _ else (if (1 : Int) = w then _ else _)) = _; rw [if_neg (by omega), if_neg (by omega)]) rfl ?_
  refine tz_aload0 (n := 66) (g_at ck_X10_walk 22 rfl) rfl (g_ne kd_1) ?_
  refine tz_getOv (n := 69) (a := 71) fk_X10_81 kd_1 (ly_1_15 hL) (g_at ck_X10_walk 23 rfl) rfl ?_
  refine tz_iload1 (n := 70) (g_at ck_X10_walk 24 rfl) rfl ?_
  refine tz_cvI1 (n := 73) (μ' := μX9_balance) (cb' := 0) (sb' := 0) ml_X10_403 mo_X9_balance mv_X9_balance np_X9_balance kd_71 (g_at ck_X10_walk 25 rfl) (sp_balance hL hLw hS hR3 hW hG11 hV11 (by omega)) rfl rfl rfl ⟨by decide, by decide⟩ (Nat.le_of_ble_eq_true rfl) (by decide) (by decide) (fun x70 ρ9 m70 hq => ?_)
  obtain ⟨rfl, hR7, rfl, rfl⟩ := hq
  exact tz_iret (g_at ck_X10_walk 26 rfl) rfl (rI_mk ⟨hqr11, hR7, hQ11, sq_0 hz2 hz7, by simp (disch := omega) only [if_pos, if_neg]⟩)
theorem sp_tour {l : Launch} {γ : Gh} {ρ m : Mm} {i : Int} (hi : -2147483648 ≤ i ∧ i < 2147483648) {ld : Int} {Λ : Mm} {hl tl : List Int} (hL : LY ρ) (hLn : ρ 1 3 = ld) (hS : isS ρ ld) (hR : MR m) (hW : WL Λ) (hG : LandC m ld Λ hl tl) {s : Int → Int} (hN : MomC m 39 s) (hσ : WS Λ 0 (sig0 s)) : gE l γ μX10_tour 7 1 6 (rI KK fun x ρ9 m9 => qR ρ ρ9 ∧ MR m9 ∧ qM ld m m9 ∧ cdI Λ i = 0 ∧ (Λ 0 0 = 0 → x = -1) ∧ (Λ 0 0 ≠ 0 → ∃ T : Int → Int, TourOK Λ s T 0 ∧ (if i = 0 ∨ 10000 ≤ T 9 then orN (T 9) else (tsN Λ s T i.toNat).2) = x)) (xC ρ m (cdI Λ i)) KK ρ m [vR 1, vI i] := by
  refine gE.ofw cl_X10.2 ?_ rfl rfl (Nat.le_of_ble_eq_true rfl)
  show gT l γ μX10_tour 7 1 6 _ _ KK ρ m 0 [some (vR 1), some (vI i), none] []
  have hn1 := hW.1
  have hn8 := hW.2.1
  have hld := hG.ld9
  refine tz_iload1 (n := 1) (g_at ck_X10_tour 0 rfl) rfl ?_
  refine tz_if_lt (n := 4) (tgt := 19) (g_at ck_X10_tour 1 rfl) rfl rfl ⟨hi.1, hi.2⟩ (fun h1 => ?_) (fun h1 => ?_)
  · skip
    exact tz_throw tw_N (i9 := 22) st_22 (g_at ck_X10_tour 9 rfl) (g_at ck_X10_tour 10 rfl) (Or.inr ⟨(g_at ck_X10_tour 11 rfl), rfl⟩) (g_at ck_X10_tour 12 rfl) (g_at ck_X10_tour 13 rfl) rfl ⟨by decide, by decide, by decide⟩ (Nat.le_of_ble_eq_true rfl) ⟨rfl, rfl, rfl, exN_1 (by unfold cdI; rw [if_pos (by omega)])⟩
  · skip
    refine tz_iload1 (n := 5) (g_at ck_X10_tour 2 rfl) rfl ?_
    refine tz_if_le (n := 8) (tgt := 30) (g_at ck_X10_tour 3 rfl) rfl rfl ⟨hi.1, hi.2⟩ (fun h5 => ?_) (fun h5 => ?_)
    · skip
      refine tz_aload0 (n := 31) (g_at ck_X10_tour 14 rfl) rfl (g_ne kd_1) ?_
      refine tz_getOv (n := 34) (a := ld) fk_X10_20 kd_1 hLn (g_at ck_X10_tour 15 rfl) rfl ?_
      refine tz_getIw (n := 37) (kz := 0) fk_X10_139 hS.k0 (g_at ck_X10_tour 16 rfl) rfl rfl ?_
      rw [hG.n0]
      refine tz_if_ne (n := 40) (tgt := 42) (g_at ck_X10_tour 17 rfl) rfl rfl (by omega) (fun h37 => ?_) (fun h37 => ?_)
      · skip
        refine tz_aload0 (n := 43) (g_at ck_X10_tour 20 rfl) rfl (g_ne kd_1) ?_
        refine tz_cvR0 (n := 46) (μ' := μX10_surveyed) (cb' := 1) (sb' := 6) ml_X10_159 mo_X10_surveyed mv_X10_surveyed np_X10_surveyed kd_1 (g_at ck_X10_tour 21 rfl) (sp_surveyed hL hLn hS hR hW hG hN) rfl rfl rfl ⟨by decide, by decide⟩ (Nat.le_of_ble_eq_true rfl) (by decide) (by decide) (fun x43 ρ9 m43 hq => ?_)
        obtain ⟨rfl, rfl, hR1, hV43, hF43⟩ := hq
        have hQ43 := qM_wy (ld := ld) hF43
        have hG43 := hG.q hQ43
        have hqr43 := qR_71 (ρ := ρ) (x := ld)
        have hL := hL.q hqr43
        have hLw : wr ρ 71 0 ld 71 0 = ld := wr_same
        have hLn := hqr43.ln hLn
        have hS := isS_q hL qR.rf hld
        have hN43 := hN.q hld hQ43
        have h1w : 1 ≤ whl Λ := by unfold whl; have : 2 ^ 1 ≤ 2 ^ (Λ 0 0).toNat := Nat.pow_le_pow_right (by decide) (by omega); omega
        refine tz_cvI0 (n := 49) (μ' := μX9_planTour) (cb' := 1) (sb' := 6) ml_X10_411 mo_X9_planTour mv_X9_planTour np_X9_planTour kd_71 (g_at ck_X10_tour 22 rfl) (sp_planTour hL hLw hS hR1 hW hG43 hV43 (by omega)) rfl rfl rfl ⟨by decide, by decide⟩ (Nat.le_of_ble_eq_true rfl) (by decide) (by decide) (fun x46 ρ9 m46 hq => ?_)
        obtain ⟨rfl, hR2, hF46, hO46, hx46⟩ := hq
        have hT9 := (hO46 1 (by decide) h1w (by decide) 0 (Int.le_refl 0) (by omega) (by decide)).2
        refine tz_istore2 (n := 50) (g_at ck_X10_tour 23 rfl) rfl (by decide) g_hpI ?_
        refine tz_iload1 (n := 51) (g_at ck_X10_tour 24 rfl) rfl ?_
        refine tz_if_eq (n := 54) (tgt := 61) (g_at ck_X10_tour 25 rfl) rfl rfl ⟨hi.1, hi.2⟩ (fun h51 => ?_) (fun h51 => ?_)
        · skip
          refine tz_iload2 (n := 62) (g_at ck_X10_tour 29 rfl) rfl ?_
          refine tz_csI1 (n := 65) (μ' := μX10_orNone) (cb' := 1) (sb' := 6) ml_X10_382 mo_X10_orNone ms_X10_orNone np_X10_orNone (g_at ck_X10_tour 30 rfl) (sp_orNone hR2 (by rw [← hx46]; exact hT9)) rfl rfl ⟨by decide, by decide⟩ (Nat.le_of_ble_eq_true rfl) (by decide) (by decide) (fun x62 ρ9 m62 hq => ?_)
          obtain ⟨rfl, hR3, rfl, rfl⟩ := hq
          exact tz_iret (g_at ck_X10_tour 31 rfl) rfl (rI_mk ⟨hqr43, hR3, hQ43.tr (qM_wy (hF46.sub (by decide))), if_neg (by omega), fun h9 => absurd h9 h37, fun _ => ⟨m46 79, hO46, by rw [if_pos (Or.inl h51), hx46]⟩⟩)
        · skip
          refine tz_iload2 (n := 55) (g_at ck_X10_tour 26 rfl) rfl ?_
          refine tz_sipush (n := 58) (g_at ck_X10_tour 27 rfl) rfl rfl ?_
          refine tz_icmp_lt (n := 61) (tgt := 66) (g_at ck_X10_tour 28 rfl) rfl rfl ⟨by rw [← hx46]; have := hT9.1; show -2147483648 ≤ m46 79 (1 * 9 + 0); omega, by rw [← hx46]; have := hT9.2; show m46 79 (1 * 9 + 0) < 2147483648; omega, by decide, by decide⟩ (fun h58 => ?_) (fun h58 => ?_)
          · skip
            refine tz_aload0 (n := 67) (g_at ck_X10_tour 32 rfl) rfl (g_ne kd_1) ?_
            refine tz_getOv (n := 70) (a := 71) fk_X10_81 kd_1 (ly_1_15 hL) (g_at ck_X10_tour 33 rfl) rfl ?_
            refine tz_iload1 (n := 71) (g_at ck_X10_tour 34 rfl) rfl ?_
            refine tz_cvI1 (n := 74) (μ' := μX9_tourStop) (cb' := 1) (sb' := 6) ml_X10_414 mo_X9_tourStop mv_X9_tourStop np_X9_tourStop kd_71 (g_at ck_X10_tour 35 rfl) (sp_tourStop hL hLw hS hR2 hW (hG43.q (qM_wy (hF46.sub (by decide)))) (hV43.sam (fun a h1 h2 => hF46 a (by simp; omega))) (by omega) (by omega) hO46) rfl rfl rfl ⟨by decide, by decide⟩ (Nat.le_of_ble_eq_true rfl) (by decide) (by decide) (fun x71 ρ9 m71 hq => ?_)
            obtain ⟨rfl, hR4, rfl, rfl⟩ := hq
            exact tz_iret (g_at ck_X10_tour 36 rfl) rfl (rI_mk ⟨hqr43, hR4, hQ43.tr (qM_wy (hF46.sub (by decide))), if_neg (by omega), fun h9 => absurd h9 h37, fun _ => ⟨m46 79, hO46, if_neg (by rw [hx46]; omega)⟩⟩)
          · skip
            refine tz_iload2 (n := 62) (g_at ck_X10_tour 29 rfl) rfl ?_
            refine tz_csI1 (n := 65) (μ' := μX10_orNone) (cb' := 1) (sb' := 6) ml_X10_382 mo_X10_orNone ms_X10_orNone np_X10_orNone (g_at ck_X10_tour 30 rfl) (sp_orNone hR2 (by rw [← hx46]; exact hT9)) rfl rfl ⟨by decide, by decide⟩ (Nat.le_of_ble_eq_true rfl) (by decide) (by decide) (fun x62 ρ9 m62 hq => ?_)
            obtain ⟨rfl, hR5, rfl, rfl⟩ := hq
            exact tz_iret (g_at ck_X10_tour 31 rfl) rfl (rI_mk ⟨hqr43, hR5, hQ43.tr (qM_wy (hF46.sub (by decide))), if_neg (by omega), fun h9 => absurd h9 h37, fun _ => ⟨m46 79, hO46, by rw [if_pos (Or.inr (by rw [hx46]; omega)), hx46]⟩⟩)
      · skip
        refine tz_iconst (n := 41) (g_at ck_X10_tour 18 rfl) rfl ?_
        exact tz_iret (g_at ck_X10_tour 19 rfl) rfl (rI_mk ⟨qR.rf, hR, qM.rf, if_neg (by omega), fun _ => rfl, fun h9 => absurd h37 h9⟩)
    · skip
      refine tz_iload1 (n := 9) (g_at ck_X10_tour 4 rfl) rfl ?_
      refine tz_aload0 (n := 10) (g_at ck_X10_tour 5 rfl) rfl (g_ne kd_1) ?_
      refine tz_getOv (n := 13) (a := ld) fk_X10_20 kd_1 hLn (g_at ck_X10_tour 6 rfl) rfl ?_
      refine tz_getIw (n := 16) (kz := 0) fk_X10_139 hS.k0 (g_at ck_X10_tour 7 rfl) rfl rfl ?_
      rw [hG.n0]
      refine tz_icmp_lt (n := 19) (tgt := 30) (g_at ck_X10_tour 8 rfl) rfl rfl ⟨by omega, by omega, by omega, by omega⟩ (fun h16 => ?_) (fun h16 => ?_)
      · skip
        refine tz_aload0 (n := 31) (g_at ck_X10_tour 14 rfl) rfl (g_ne kd_1) ?_
        refine tz_getOv (n := 34) (a := ld) fk_X10_20 kd_1 hLn (g_at ck_X10_tour 15 rfl) rfl ?_
        refine tz_getIw (n := 37) (kz := 0) fk_X10_139 hS.k0 (g_at ck_X10_tour 16 rfl) rfl rfl ?_
        rw [hG.n0]
        refine tz_if_ne (n := 40) (tgt := 42) (g_at ck_X10_tour 17 rfl) rfl rfl (by omega) (fun h37 => ?_) (fun h37 => ?_)
        · skip
          refine tz_aload0 (n := 43) (g_at ck_X10_tour 20 rfl) rfl (g_ne kd_1) ?_
          refine tz_cvR0 (n := 46) (μ' := μX10_surveyed) (cb' := 1) (sb' := 6) ml_X10_159 mo_X10_surveyed mv_X10_surveyed np_X10_surveyed kd_1 (g_at ck_X10_tour 21 rfl) (sp_surveyed hL hLn hS hR hW hG hN) rfl rfl rfl ⟨by decide, by decide⟩ (Nat.le_of_ble_eq_true rfl) (by decide) (by decide) (fun x43 ρ9 m43 hq => ?_)
          obtain ⟨rfl, rfl, hR6, hV43, hF43⟩ := hq
          have hQ43 := qM_wy (ld := ld) hF43
          have hG43 := hG.q hQ43
          have hqr43 := qR_71 (ρ := ρ) (x := ld)
          have hL := hL.q hqr43
          have hLw : wr ρ 71 0 ld 71 0 = ld := wr_same
          have hLn := hqr43.ln hLn
          have hS := isS_q hL qR.rf hld
          have hN43 := hN.q hld hQ43
          have h1w : 1 ≤ whl Λ := by unfold whl; have : 2 ^ 1 ≤ 2 ^ (Λ 0 0).toNat := Nat.pow_le_pow_right (by decide) (by omega); omega
          refine tz_cvI0 (n := 49) (μ' := μX9_planTour) (cb' := 1) (sb' := 6) ml_X10_411 mo_X9_planTour mv_X9_planTour np_X9_planTour kd_71 (g_at ck_X10_tour 22 rfl) (sp_planTour hL hLw hS hR6 hW hG43 hV43 (by omega)) rfl rfl rfl ⟨by decide, by decide⟩ (Nat.le_of_ble_eq_true rfl) (by decide) (by decide) (fun x46 ρ9 m46 hq => ?_)
          obtain ⟨rfl, hR7, hF46, hO46, hx46⟩ := hq
          have hT9 := (hO46 1 (by decide) h1w (by decide) 0 (Int.le_refl 0) (by omega) (by decide)).2
          refine tz_istore2 (n := 50) (g_at ck_X10_tour 23 rfl) rfl (by decide) g_hpI ?_
          refine tz_iload1 (n := 51) (g_at ck_X10_tour 24 rfl) rfl ?_
          refine tz_if_eq (n := 54) (tgt := 61) (g_at ck_X10_tour 25 rfl) rfl rfl ⟨hi.1, hi.2⟩ (fun h51 => ?_) (fun h51 => ?_)
          · skip
            refine tz_iload2 (n := 62) (g_at ck_X10_tour 29 rfl) rfl ?_
            refine tz_csI1 (n := 65) (μ' := μX10_orNone) (cb' := 1) (sb' := 6) ml_X10_382 mo_X10_orNone ms_X10_orNone np_X10_orNone (g_at ck_X10_tour 30 rfl) (sp_orNone hR7 (by rw [← hx46]; exact hT9)) rfl rfl ⟨by decide, by decide⟩ (Nat.le_of_ble_eq_true rfl) (by decide) (by decide) (fun x62 ρ9 m62 hq => ?_)
            obtain ⟨rfl, hR8, rfl, rfl⟩ := hq
            exact tz_iret (g_at ck_X10_tour 31 rfl) rfl (rI_mk ⟨hqr43, hR8, hQ43.tr (qM_wy (hF46.sub (by decide))), if_neg (by omega), fun h9 => absurd h9 h37, fun _ => ⟨m46 79, hO46, by rw [if_pos (Or.inl h51), hx46]⟩⟩)
          · skip
            refine tz_iload2 (n := 55) (g_at ck_X10_tour 26 rfl) rfl ?_
            refine tz_sipush (n := 58) (g_at ck_X10_tour 27 rfl) rfl rfl ?_
            refine tz_icmp_lt (n := 61) (tgt := 66) (g_at ck_X10_tour 28 rfl) rfl rfl ⟨by rw [← hx46]; have := hT9.1; show -2147483648 ≤ m46 79 (1 * 9 + 0); omega, by rw [← hx46]; have := hT9.2; show m46 79 (1 * 9 + 0) < 2147483648; omega, by decide, by decide⟩ (fun h58 => ?_) (fun h58 => ?_)
            · skip
              refine tz_aload0 (n := 67) (g_at ck_X10_tour 32 rfl) rfl (g_ne kd_1) ?_
              refine tz_getOv (n := 70) (a := 71) fk_X10_81 kd_1 (ly_1_15 hL) (g_at ck_X10_tour 33 rfl) rfl ?_
              refine tz_iload1 (n := 71) (g_at ck_X10_tour 34 rfl) rfl ?_
              refine tz_cvI1 (n := 74) (μ' := μX9_tourStop) (cb' := 1) (sb' := 6) ml_X10_414 mo_X9_tourStop mv_X9_tourStop np_X9_tourStop kd_71 (g_at ck_X10_tour 35 rfl) (sp_tourStop hL hLw hS hR7 hW (hG43.q (qM_wy (hF46.sub (by decide)))) (hV43.sam (fun a h1 h2 => hF46 a (by simp; omega))) (by omega) (by omega) hO46) rfl rfl rfl ⟨by decide, by decide⟩ (Nat.le_of_ble_eq_true rfl) (by decide) (by decide) (fun x71 ρ9 m71 hq => ?_)
              obtain ⟨rfl, hR9, rfl, rfl⟩ := hq
              exact tz_iret (g_at ck_X10_tour 36 rfl) rfl (rI_mk ⟨hqr43, hR9, hQ43.tr (qM_wy (hF46.sub (by decide))), if_neg (by omega), fun h9 => absurd h9 h37, fun _ => ⟨m46 79, hO46, if_neg (by rw [hx46]; omega)⟩⟩)
            · skip
              refine tz_iload2 (n := 62) (g_at ck_X10_tour 29 rfl) rfl ?_
              refine tz_csI1 (n := 65) (μ' := μX10_orNone) (cb' := 1) (sb' := 6) ml_X10_382 mo_X10_orNone ms_X10_orNone np_X10_orNone (g_at ck_X10_tour 30 rfl) (sp_orNone hR7 (by rw [← hx46]; exact hT9)) rfl rfl ⟨by decide, by decide⟩ (Nat.le_of_ble_eq_true rfl) (by decide) (by decide) (fun x62 ρ9 m62 hq => ?_)
              obtain ⟨rfl, hR10, rfl, rfl⟩ := hq
              exact tz_iret (g_at ck_X10_tour 31 rfl) rfl (rI_mk ⟨hqr43, hR10, hQ43.tr (qM_wy (hF46.sub (by decide))), if_neg (by omega), fun h9 => absurd h9 h37, fun _ => ⟨m46 79, hO46, by rw [if_pos (Or.inr (by rw [hx46]; omega)), hx46]⟩⟩)
        · skip
          refine tz_iconst (n := 41) (g_at ck_X10_tour 18 rfl) rfl ?_
          exact tz_iret (g_at ck_X10_tour 19 rfl) rfl (rI_mk ⟨qR.rf, hR, qM.rf, if_neg (by omega), fun _ => rfl, fun h9 => absurd h37 h9⟩)
      · skip
        exact tz_throw tw_N (i9 := 22) st_22 (g_at ck_X10_tour 9 rfl) (g_at ck_X10_tour 10 rfl) (Or.inr ⟨(g_at ck_X10_tour 11 rfl), rfl⟩) (g_at ck_X10_tour 12 rfl) (g_at ck_X10_tour 13 rfl) rfl ⟨by decide, by decide, by decide⟩ (Nat.le_of_ble_eq_true rfl) ⟨rfl, rfl, rfl, exN_1 (by unfold cdI; rw [if_pos (by omega)])⟩
theorem sp_circuit {l : Launch} {γ : Gh} {ρ m : Mm} {ld : Int} {Λ : Mm} {hl tl : List Int} (hL : LY ρ) (hLn : ρ 1 3 = ld) (hS : isS ρ ld) (hR : MR m) (hW : WL Λ) (hG : LandC m ld Λ hl tl) {s : Int → Int} (hN : MomC m 39 s) (hσ : WS Λ 0 (sig0 s)) : gE l γ μX10_circuit 6 0 0 (rI KK fun x ρ9 m9 => qR ρ ρ9 ∧ MR m9 ∧ qM ld m m9 ∧ (crN Λ s (Λ 0 0).toNat).1 = x) xN KK ρ m [vR 1] := by
  refine gE.ofw cl_X10.2 ?_ rfl rfl (Nat.le_of_ble_eq_true rfl)
  show gT l γ μX10_circuit 6 0 0 _ _ KK ρ m 0 [some (vR 1), none, none, none] []
  have hn1 := hW.1
  have hn8 := hW.2.1
  have hld := hG.ld9
  refine tz_aload0 (n := 1) (g_at ck_X10_circuit 0 rfl) rfl (g_ne kd_1) ?_
  refine tz_cvR0 (n := 4) (μ' := μX10_surveyed) (cb' := 0) (sb' := 0) ml_X10_159 mo_X10_surveyed mv_X10_surveyed np_X10_surveyed kd_1 (g_at ck_X10_circuit 1 rfl) (sp_surveyed hL hLn hS hR hW hG hN) rfl rfl rfl ⟨by decide, by decide⟩ (Nat.le_of_ble_eq_true rfl) (by decide) (by decide) (fun x1 ρ9 m1 hq => ?_)
  obtain ⟨rfl, rfl, hR1, hV1, hF1⟩ := hq
  have hQ1 := qM_wy (ld := ld) hF1
  have hG1 := hG.q hQ1
  have hqr1 := qR_71 (ρ := ρ) (x := ld)
  have hL := hL.q hqr1
  have hLw : wr ρ 71 0 ld 71 0 = ld := wr_same
  have hLn := hqr1.ln hLn
  have hS := isS_q hL qR.rf hld
  have hN1 := hN.q hld hQ1
  refine tz_popR (n := 5) (g_at ck_X10_circuit 2 rfl) rfl ?_
  refine tz_iconst (n := 6) (g_at ck_X10_circuit 3 rfl) rfl ?_
  refine tz_istore1 (n := 7) (g_at ck_X10_circuit 4 rfl) rfl (by decide) g_hpR ?_
  refine tz_iconst (n := 8) (g_at ck_X10_circuit 5 rfl) rfl ?_
  refine tz_istore2 (n := 9) (g_at ck_X10_circuit 6 rfl) rfl (by decide) g_hpI ?_
  refine g_for (fun i : Nat => ((crN Λ s i).1 = 1) → gT l γ μX10_circuit 6 0 0 _ _ KK (wr ρ 71 0 ld) m1 9 [some (vR 1), some (vI (crN Λ s i).2), some (vI (i : Int)), none] []) (Λ 0 0).toNat ?_ (fun i hi ihi => ?_) 0 (Nat.zero_le _) rfl
  · intro hinv
    refine tz_iload2 (n := 10) (g_at ck_X10_circuit 7 rfl) rfl ?_
    refine tz_aload0 (n := 11) (g_at ck_X10_circuit 8 rfl) rfl (g_ne kd_1) ?_
    refine tz_getOv (n := 14) (a := ld) fk_X10_20 kd_1 hLn (g_at ck_X10_circuit 9 rfl) rfl ?_
    refine tz_getIw (n := 17) (kz := 0) fk_X10_139 hS.k0 (g_at ck_X10_circuit 10 rfl) rfl rfl ?_
    rw [hG1.n0]
    refine tz_icmp_ge (n := 20) (tgt := 73) (g_at ck_X10_circuit 11 rfl) rfl rfl ⟨by omega, by omega, by omega, by omega⟩ (fun h17 => ?_) (fun h17 => absurd h17 (by omega))
    refine tz_iconst (n := 74) (g_at ck_X10_circuit 41 rfl) rfl ?_
    exact tz_bret (g_at ck_X10_circuit 42 rfl) rfl (by decide) (rI_mk ⟨hqr1, hR1, hQ1, hinv⟩)
  · intro hinv
    have hok := hinv
    have hcr := crN_rg hW (s := s) i
    refine tz_iload2 (n := 10) (g_at ck_X10_circuit 7 rfl) rfl ?_
    refine tz_aload0 (n := 11) (g_at ck_X10_circuit 8 rfl) rfl (g_ne kd_1) ?_
    refine tz_getOv (n := 14) (a := ld) fk_X10_20 kd_1 hLn (g_at ck_X10_circuit 9 rfl) rfl ?_
    refine tz_getIw (n := 17) (kz := 0) fk_X10_139 hS.k0 (g_at ck_X10_circuit 10 rfl) rfl rfl ?_
    rw [hG1.n0]
    refine tz_icmp_ge (n := 20) (tgt := 73) (g_at ck_X10_circuit 11 rfl) rfl rfl ⟨by omega, by omega, by omega, by omega⟩ (fun h17 => absurd h17 (by omega)) (fun h17 => ?_)
    refine tz_aload0 (n := 21) (g_at ck_X10_circuit 12 rfl) rfl (g_ne kd_1) ?_
    refine tz_getOv (n := 24) (a := 71) fk_X10_81 kd_1 (ly_1_15 hL) (g_at ck_X10_circuit 13 rfl) rfl ?_
    refine tz_iload2 (n := 25) (g_at ck_X10_circuit 14 rfl) rfl ?_
    refine tz_cvI1 (n := 28) (μ' := μX9_balance) (cb' := 0) (sb' := 0) ml_X10_403 mo_X9_balance mv_X9_balance np_X9_balance kd_71 (g_at ck_X10_circuit 15 rfl) (sp_balance hL hLw hS hR1 hW hG1 hV1 (by omega)) rfl rfl rfl ⟨by decide, by decide⟩ (Nat.le_of_ble_eq_true rfl) (by decide) (by decide) (fun x25 ρ9 m25 hq => ?_)
    obtain ⟨rfl, hR2, rfl, rfl⟩ := hq
    have hba := (wyW_B hW s).2 (i : Int)
    refine tz_if_eq (n := 31) (tgt := 33) (g_at ck_X10_circuit 16 rfl) rfl rfl (by omega) (fun h28 => ?_) (fun h28 => ?_)
    · skip
      refine tz_aload0 (n := 34) (g_at ck_X10_circuit 19 rfl) rfl (g_ne kd_1) ?_
      refine tz_getOv (n := 37) (a := 71) fk_X10_81 kd_1 (ly_1_15 hL) (g_at ck_X10_circuit 20 rfl) rfl ?_
      refine tz_getAv (n := 40) (a := 74) fk_X10_417 kd_71 (ly_71_3 hL) (g_at ck_X10_circuit 21 rfl) rfl ?_
      refine tz_iload2 (n := 41) (g_at ck_X10_circuit 22 rfl) rfl ?_
      refine tz_iald (n := 42) kd_74 (by omega) (g_at ck_X10_circuit 23 rfl) rfl ?_
      rw [hV1.n (i : Int) (by omega)]
      refine tz_if_eq (n := 45) (tgt := 67) (g_at ck_X10_circuit 24 rfl) rfl rfl (by rw [← hV1.n (i : Int) (by omega)]; exact hR1 _ _) (fun h42 => ?_) (fun h42 => ?_)
      · skip
        refine tz_iinc2 (n := 70) (g_at ck_X10_circuit 39 rfl) rfl (by decide) g_hpI ?_
        refine tz_goto (tgt := 9) (g_at ck_X10_circuit 40 rfl) rfl ?_
        have e9 : crN Λ s (i + 1) = (crN Λ s i) := crS_b hok h28 h42
        exact gT_eq (ihi (by rw [e9]; exact hok)) rfl (by rw [e9]; rfl)
      · skip
        refine tz_aload0 (n := 46) (g_at ck_X10_circuit 25 rfl) rfl (g_ne kd_1) ?_
        refine tz_getOv (n := 49) (a := 71) fk_X10_81 kd_1 (ly_1_15 hL) (g_at ck_X10_circuit 26 rfl) rfl ?_
        refine tz_iload2 (n := 50) (g_at ck_X10_circuit 27 rfl) rfl ?_
        refine tz_cvI1 (n := 53) (μ' := μX9_partOf) (cb' := 0) (sb' := 0) ml_X10_204 mo_X9_partOf mv_X9_partOf np_X9_partOf kd_71 (g_at ck_X10_circuit 28 rfl) (sp_partOf hL hLw hS hR2 hW hG1 hV1 (by omega)) rfl rfl rfl ⟨by decide, by decide⟩ (Nat.le_of_ble_eq_true rfl) (by decide) (by decide) (fun x50 ρ9 m50 hq => ?_)
        obtain ⟨rfl, hR3, rfl, rfl⟩ := hq
        have hpt := ptP_rg (Λ := Λ) (s := s) (c := (i : Int)) (n := (Λ 0 0).toNat) (by omega)
        refine tz_istore3 (n := 54) (g_at ck_X10_circuit 29 rfl) rfl (by decide) g_hpI ?_
        refine tz_iload1 (n := 55) (g_at ck_X10_circuit 30 rfl) rfl ?_
        refine tz_if_eq (n := 58) (tgt := 65) (g_at ck_X10_circuit 31 rfl) rfl rfl (by omega) (fun h55 => ?_) (fun h55 => ?_)
        · skip
          refine tz_iload3 (n := 66) (g_at ck_X10_circuit 37 rfl) rfl ?_
          refine tz_istore1 (n := 67) (g_at ck_X10_circuit 38 rfl) rfl (by decide) g_hpR ?_
          refine tz_iinc2 (n := 70) (g_at ck_X10_circuit 39 rfl) rfl (by decide) g_hpI ?_
          refine tz_goto (tgt := 9) (g_at ck_X10_circuit 40 rfl) rfl ?_
          refine tz_drop3 ?_
          have e9 : crN Λ s (i + 1) = (1, ptP Λ s (i : Int) (Λ 0 0).toNat) := crS_d hok h28 h42 (fun h9 => h9.1 h55)
          exact gT_eq (ihi (by rw [e9])) rfl (by rw [e9]; rfl)
        · skip
          refine tz_iload3 (n := 59) (g_at ck_X10_circuit 32 rfl) rfl ?_
          refine tz_iload1 (n := 60) (g_at ck_X10_circuit 33 rfl) rfl ?_
          refine tz_icmp_eq (n := 63) (tgt := 65) (g_at ck_X10_circuit 34 rfl) rfl rfl ⟨by omega, by omega, by omega, by omega⟩ (fun h60 => ?_) (fun h60 => ?_)
          · skip
            refine tz_iload3 (n := 66) (g_at ck_X10_circuit 37 rfl) rfl ?_
            refine tz_istore1 (n := 67) (g_at ck_X10_circuit 38 rfl) rfl (by decide) g_hpR ?_
            refine tz_iinc2 (n := 70) (g_at ck_X10_circuit 39 rfl) rfl (by decide) g_hpI ?_
            refine tz_goto (tgt := 9) (g_at ck_X10_circuit 40 rfl) rfl ?_
            refine tz_drop3 ?_
            have e9 : crN Λ s (i + 1) = (1, ptP Λ s (i : Int) (Λ 0 0).toNat) := crS_d hok h28 h42 (fun h9 => h9.2 h60)
            exact gT_eq (ihi (by rw [e9])) rfl (by rw [e9]; rfl)
          · skip
            refine tz_iconst (n := 64) (g_at ck_X10_circuit 35 rfl) rfl ?_
            exact tz_bret (g_at ck_X10_circuit 36 rfl) rfl (by decide) (rI_mk ⟨hqr1, hR3, hQ1, crN_stay (k := i + 1) (by rw [show crN Λ s (i + 1) = crS Λ s (i : Int) (crN Λ s i) from rfl, crS_c hok h28 h42 h55 h60]) (Λ 0 0).toNat (by omega)⟩)
    · skip
      refine tz_iconst (n := 32) (g_at ck_X10_circuit 17 rfl) rfl ?_
      exact tz_bret (g_at ck_X10_circuit 18 rfl) rfl (by decide) (rI_mk ⟨hqr1, hR2, hQ1, crN_stay (k := i + 1) (by rw [show crN Λ s (i + 1) = crS Λ s (i : Int) (crN Λ s i) from rfl, crS_a hok h28]) (Λ 0 0).toNat (by omega)⟩)
theorem sp_covered {l : Launch} {γ : Gh} {ρ m : Mm} {p : Int} (hp : -2147483648 ≤ p ∧ p < 2147483648) {ld : Int} {Λ : Mm} {hl tl : List Int} (hL : LY ρ) (hLn : ρ 1 3 = ld) (hS : isS ρ ld) (hR : MR m) (hW : WL Λ) (hG : LandC m ld Λ hl tl) {s : Int → Int} (hN : MomC m 39 s) (hσ : WS Λ 0 (sig0 s)) : gE l γ μX10_covered 7 1 6 (rI KK fun x ρ9 m9 => qR ρ ρ9 ∧ MR m9 ∧ qM ld m m9 ∧ cdP Λ p = 0 ∧ isFN (fun j => cvN Λ hl tl s p (j + 1) = 0) 101 x) (xC ρ m (cdP Λ p)) KK ρ m [vR 1, vI p] := by
  refine gE.ofw cl_X10.2 ?_ rfl rfl (Nat.le_of_ble_eq_true rfl)
  show gT l γ μX10_covered 7 1 6 _ _ KK ρ m 0 [some (vR 1), some (vI p), none, none] []
  have hn1 := hW.1
  have hn8 := hW.2.1
  have hld := hG.ld9
  refine tz_aload0 (n := 1) (g_at ck_X10_covered 0 rfl) rfl (g_ne kd_1) ?_
  refine tz_iload1 (n := 2) (g_at ck_X10_covered 1 rfl) rfl ?_
  refine tz_cvxV1 (n := 5) (μ' := μX10_needPerson) (cb' := 0) (sb' := 0) ml_X10_221 mo_X10_needPerson mv_X10_needPerson np_X10_needPerson kd_1 (g_at ck_X10_covered 2 rfl) (sp_needP ⟨hp.1, hp.2⟩ hL hLn hS hR hW hG) rfl rfl rfl ⟨by decide, by decide⟩ (Nat.le_of_ble_eq_true rfl) (by decide) (by decide) (g_in (g_m5 (List.mem_of_getElem? (i := 68) rfl)) rfl) (fun E9 ρ9 m9 h9 => g_gX_out rfl h9.1 h9.2.1 h9.2.2) (fun ρ9 m2 hq => ?_)
  obtain ⟨rfl, hR1, rfl, hz2⟩ := hq
  have hp2 := cdP_0 hz2
  have hp3 := sig0_WS_n hσ hp2
  refine tz_aload0 (n := 6) (g_at ck_X10_covered 3 rfl) rfl (g_ne kd_1) ?_
  refine tz_cvR0 (n := 9) (μ' := μX10_surveyed) (cb' := 0) (sb' := 0) ml_X10_159 mo_X10_surveyed mv_X10_surveyed np_X10_surveyed kd_1 (g_at ck_X10_covered 4 rfl) (sp_surveyed hL hLn hS hR1 hW hG hN) rfl rfl rfl ⟨by decide, by decide⟩ (Nat.le_of_ble_eq_true rfl) (by decide) (by decide) (fun x6 ρ9 m6 hq => ?_)
  obtain ⟨rfl, rfl, hR2, hV6, hF6⟩ := hq
  have hQ6 := qM_wy (ld := ld) hF6
  have hG6 := hG.q hQ6
  have hqr6 := qR_71 (ρ := ρ) (x := ld)
  have hL := hL.q hqr6
  have hLw : wr ρ 71 0 ld 71 0 = ld := wr_same
  have hLn := hqr6.ln hLn
  have hS := isS_q hL qR.rf hld
  have hN6 := hN.q hld hQ6
  refine tz_getAv (n := 12) (a := 75) fk_X10_207 kd_71 (ly_71_4 hL) (g_at ck_X10_covered 5 rfl) rfl ?_
  refine tz_aload0 (n := 13) (g_at ck_X10_covered 6 rfl) rfl (g_ne kd_1) ?_
  refine tz_getOv (n := 16) (a := 39) fk_X10_39 kd_1 (ly_1_6 hL) (g_at ck_X10_covered 7 rfl) rfl ?_
  refine tz_getAv (n := 19) (a := 40) fk_X10_224 (isM_39 hL).k0 (isM_39 hL).r0_1 (g_at ck_X10_covered 8 rfl) rfl ?_
  refine tz_iload1 (n := 20) (g_at ck_X10_covered 9 rfl) rfl ?_
  skip
  refine tz_iald (n := 21) (isM_39 hL).k1 (by omega) (g_at ck_X10_covered 10 rfl) rfl ?_
  rw [nowW hN6 p (by omega)]
  refine tz_iald (n := 22) kd_75 (by omega) (g_at ck_X10_covered 11 rfl) rfl ?_
  rw [hV6.r (s (1 + p)) (by omega)]
  refine tz_istore2 (n := 23) (g_at ck_X10_covered 12 rfl) rfl (by decide) g_hpI ?_
  refine tz_aload0 (n := 24) (g_at ck_X10_covered 13 rfl) rfl (g_ne kd_1) ?_
  refine tz_cvR0 (n := 27) (μ' := μX10_setOut) (cb' := 0) (sb' := 0) ml_X10_251 mo_X10_setOut mv_X10_setOut np_X10_setOut kd_1 (g_at ck_X10_covered 14 rfl) (sp_setOut hL hLn hS hR2 hW hG6 hN6) rfl rfl rfl ⟨by decide, by decide⟩ (Nat.le_of_ble_eq_true rfl) (by decide) (by decide) (fun x24 ρ9 m24 hq => ?_)
  obtain ⟨rfl, rfl, hR3, hT24, hF24⟩ := hq
  have hF24t : Fr (trL ld) m6 m24 := hF24.sub trL_be
  have hQ24 := hQ6.tr (qM_trL hF24t)
  have hG24 := hG.q hQ24
  have hqr24 := hqr6.tr (qR_62 (x := ld))
  have hL := hL.q (qR_62 (x := ld))
  have hLt : wr (wr ρ 71 0 ld) 62 0 ld 62 0 = ld := wr_same
  have hLn := (qR_62 (ρ := wr ρ 71 0 ld) (x := ld)).ln hLn
  have hS := isS_q hL qR.rf hld
  refine tz_popR (n := 28) (g_at ck_X10_covered 15 rfl) rfl ?_
  refine tz_iconst (n := 29) (g_at ck_X10_covered 16 rfl) rfl ?_
  refine tz_istore3 (n := 30) (g_at ck_X10_covered 17 rfl) rfl (by decide) g_hpI ?_
  refine g_for (fun i : Nat => ∀ m1 : Mm, (MR m1 ∧ TripC m1 (daysP Λ hl tl (sig0 s) i) ∧ Fr (trL ld) m6 m1 ∧ ∀ j : Nat, j < i → ¬ cvN Λ hl tl s p (j + 1) = 0) → gT l γ μX10_covered 7 0 0 _ _ KK (wr (wr ρ 71 0 ld) 62 0 ld) m1 30 [some (vR 1), some (vI p), some (vI (cvN Λ hl tl s p i)), some (vI (i : Int))] []) 101 ?_ (fun i hi ihi => ?_) 0 (Nat.zero_le _) _ ⟨hR3, hT24, hF24t, fun j hj => absurd hj (Nat.not_lt_zero j)⟩
  · intro m1 hinv
    obtain ⟨hRi, hTi, hFi, hno⟩ := hinv
    refine tz_iload3 (n := 31) (g_at ck_X10_covered 18 rfl) rfl ?_
    refine tz_bipush (n := 33) (g_at ck_X10_covered 19 rfl) rfl rfl ?_
    refine tz_icmp_gt (n := 36) (tgt := 75) (g_at ck_X10_covered 20 rfl) rfl rfl ⟨(by omega), (by omega), (by decide), (by decide)⟩ (fun h33 => ?_) (fun h33 => absurd h33 (by omega))
    refine tz_iconst (n := 76) (g_at ck_X10_covered 44 rfl) rfl ?_
    exact tz_iret (g_at ck_X10_covered 45 rfl) rfl (rI_mk ⟨hqr24, hRi, hQ6.tr (qM_trL hFi), hz2, Or.inl ⟨rfl, hno⟩⟩)
  · intro m1 hinv
    obtain ⟨hRi, hTi, hFi, hno⟩ := hinv
    have hGi := hG6.fr hFi
    have hσi := daysP_WS (hl := hl) (tl := tl) hW hσ (Int.le_refl 0) i
    refine tz_iload3 (n := 31) (g_at ck_X10_covered 18 rfl) rfl ?_
    refine tz_bipush (n := 33) (g_at ck_X10_covered 19 rfl) rfl rfl ?_
    refine tz_icmp_gt (n := 36) (tgt := 75) (g_at ck_X10_covered 20 rfl) rfl rfl ⟨(by omega), (by omega), (by decide), (by decide)⟩ (fun h33 => absurd h33 (by omega)) (fun h33 => ?_)
    refine tz_iload2 (n := 37) (g_at ck_X10_covered 21 rfl) rfl ?_
    refine tz_iconst (n := 38) (g_at ck_X10_covered 22 rfl) rfl ?_
    refine tz_aload0 (n := 39) (g_at ck_X10_covered 23 rfl) rfl (g_ne kd_1) ?_
    refine tz_getOv (n := 42) (a := 62) fk_X10_74 kd_1 (ly_1_14 hL) (g_at ck_X10_covered 24 rfl) rfl ?_
    refine tz_getOv (n := 45) (a := 63) fk_X10_258 kd_62 (ly_62_1 hL) (g_at ck_X10_covered 25 rfl) rfl ?_
    refine tz_getAv (n := 48) (a := 64) fk_X10_224 (isM_63 hL).k0 (isM_63 hL).r0_1 (g_at ck_X10_covered 26 rfl) rfl ?_
    refine tz_iload1 (n := 49) (g_at ck_X10_covered 27 rfl) rfl ?_
    refine tz_iald (n := 50) (isM_63 hL).k1 (by omega) (g_at ck_X10_covered 28 rfl) rfl ?_
    rw [hTi.whr p (by omega)]
    refine tz_ishl (n := 51) (g_at ck_X10_covered 29 rfl) rfl ?_
    refine tz_iconst (n := 52) (g_at ck_X10_covered 30 rfl) rfl ?_
    refine tz_ixor (n := 53) (g_at ck_X10_covered 31 rfl) rfl ?_
    refine tz_iand (n := 54) (g_at ck_X10_covered 32 rfl) rfl ?_
    refine tz_istore2 (n := 55) (g_at ck_X10_covered 33 rfl) rfl (by decide) g_hpI ?_
    refine tz_iload2 (n := 56) (g_at ck_X10_covered 34 rfl) rfl ?_
    refine tz_if_ne (n := 59) (tgt := 61) (g_at ck_X10_covered 35 rfl) rfl rfl (bAnd_rg _ _) (fun h56 => ?_) (fun h56 => ?_)
    · skip
      refine tz_aload0 (n := 62) (g_at ck_X10_covered 38 rfl) rfl (g_ne kd_1) ?_
      refine tz_getOv (n := 65) (a := 62) fk_X10_74 kd_1 (ly_1_14 hL) (g_at ck_X10_covered 39 rfl) rfl ?_
      refine tz_iconst (n := 66) (g_at ck_X10_covered 40 rfl) rfl ?_
      refine tz_cvV1 (n := 69) (μ' := μX8_goDay) (cb' := 0) (sb' := 0) ml_X10_277 mo_X8_goDay mv_X8_goDay np_X8_goDay kd_62 (g_at ck_X10_covered 41 rfl) (sp_goDay hL hLt hS hRi hW hGi hTi hσi (by omega) (by omega)) rfl rfl rfl ⟨by decide, by decide⟩ (Nat.le_of_ble_eq_true rfl) (by decide) (by decide) (fun ρ9 m66 hq => ?_)
      obtain ⟨rfl, hR4, hT66, hF66⟩ := hq
      have hσ9 := daysP_WS (hl := hl) (tl := tl) hW hσ (Int.le_refl 0) (i + 1)
      refine tz_iinc3 (n := 72) (g_at ck_X10_covered 42 rfl) rfl (by decide) g_hpI ?_
      refine tz_goto (tgt := 30) (g_at ck_X10_covered 43 rfl) rfl ?_
      exact ihi _ ⟨hR4, hT66, hFi.tr hF66, no_step hno h56⟩
    · skip
      refine tz_iload3 (n := 60) (g_at ck_X10_covered 36 rfl) rfl ?_
      exact tz_iret (g_at ck_X10_covered 37 rfl) rfl (rI_mk ⟨hqr24, hRi, hQ6.tr (qM_trL hFi), hz2, Or.inr ⟨i, rfl, by omega, h56, hno⟩⟩)
