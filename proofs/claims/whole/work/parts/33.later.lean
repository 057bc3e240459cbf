/-! later, part by part. -/
theorem bitsH_congr {f g f' g' : Int → Int} {n : Nat} (h : ∀ p : Nat, p < n → f p = f' p ∧ g p = g' p) : bitsH f g n = bitsH f' g' n := by
  unfold bitsH
  exact fd_congr fun i v hi => by rw [(h i hi).1, (h i hi).2]
def homB (Λ σ : Mm) : Int := bitsH (fun p => σ 0 (1 + p)) (Λ 5) (Λ 0 1).toNat
theorem homB_C {m Λ σ : Mm} {ld : Int} {hl tl : List Int} (hW : WL Λ) (hG : LandC m ld Λ hl tl) (hT : TripC m σ) : bitsH (m (63 + 1)) (m (ld + 5)) (m ld 1).toNat = homB Λ σ := by
  have hn8 := hW.2.1
  rw [hG.n1]
  exact bitsH_congr fun p hp => ⟨hT.whr p (by omega), hG.home p (by omega)⟩
def porN (σ : Mm) (n : Nat) : Int × Int := fd (fun p q => if q.2 ≤ σ 0 (9 + (p : Int)) then q else ((p : Int), σ 0 (9 + (p : Int)))) (-1, 100) n
theorem porN_rg {Λ σ : Mm} {b : Int} (h : WS Λ b σ) : ∀ n : Nat, (n : Int) ≤ Λ 0 1 → 0 ≤ (porN σ n).2 ∧ (porN σ n).2 ≤ 100
  | 0, _ => by show (0 : Int) ≤ 100 ∧ (100 : Int) ≤ 100; decide
  | n + 1, hn => by
    have ih := porN_rg h n (by omega)
    have k := h.2.1 (n : Int) (by omega) (by omega)
    show 0 ≤ (if (porN σ n).2 ≤ σ 0 (9 + (n : Int)) then porN σ n else ((n : Int), σ 0 (9 + (n : Int)))).2 ∧ (if (porN σ n).2 ≤ σ 0 (9 + (n : Int)) then porN σ n else ((n : Int), σ 0 (9 + (n : Int)))).2 ≤ 100
    split
    · exact ih
    · exact ⟨k.2.2.1, by show σ 0 (9 + (n : Int)) ≤ 100; omega⟩
theorem sp_homeAfter {l : Launch} {γ : Gh} {ρ m : Mm} {n : Int} {ld b : Int} {Λ σ : Mm} {hl tl : List Int} (hL : LY ρ) (hLt : ρ 62 0 = ld) (hS : isS ρ ld) (hR : MR m) (hW : WL Λ) (hG : LandC m ld Λ hl tl) (hT : TripC m σ) (hσ : WS Λ b σ) (hb : 0 ≤ b ∧ b ≤ 80000) (hLn : ρ 1 3 = ld) (hn : 0 ≤ n ∧ n ≤ 100) : gE l γ μX10_homeAfter 6 0 0 (rI KK fun x ρ9 m9 => ρ = ρ9 ∧ MR m9 ∧ homB Λ (daysP Λ hl tl σ n.toNat) = x ∧ Fr (trL ld) m m9) xN KK ρ m [vR 1, vI n] := by
  refine gE.ofw cl_X10.2 ?_ rfl rfl (Nat.le_of_ble_eq_true rfl)
  show gT l γ μX10_homeAfter 6 0 0 _ _ KK ρ m 0 [some (vR 1), some (vI n)] []
  have hn := hW.1
  have hn8 := hW.2.1
  have hld := hG.ld9
  refine tz_aload0 (n := 1) (g_at ck_X10_homeAfter 0 rfl) rfl (g_ne kd_1) ?_
  refine tz_getOv (n := 4) (a := 62) fk_X10_74 kd_1 (ly_1_14 hL) (g_at ck_X10_homeAfter 1 rfl) rfl ?_
  refine tz_iload1 (n := 5) (g_at ck_X10_homeAfter 2 rfl) rfl ?_
  refine tz_cvV1 (n := 8) (μ' := μX8_go) (cb' := 0) (sb' := 0) ml_X10_255 mo_X8_go mv_X8_go np_X8_go kd_62 (g_at ck_X10_homeAfter 3 rfl) (sp_go hL hLt hS hR hW hG hT hσ (by omega) (by omega)) rfl rfl rfl ⟨by decide, by decide⟩ (Nat.le_of_ble_eq_true rfl) (by decide) (by decide) (fun ρ9 m5 hq => ?_)
  obtain ⟨rfl, hR1, hT5, hF5⟩ := hq
  have hG5 := hG.fr hF5
  have hσ5 := daysP_WS (hl := hl) (tl := tl) hW hσ hb.1 n.toNat
  refine tz_aload0 (n := 9) (g_at ck_X10_homeAfter 4 rfl) rfl (g_ne kd_1) ?_
  refine tz_getOv (n := 12) (a := ld) fk_X10_20 kd_1 hLn (g_at ck_X10_homeAfter 5 rfl) rfl ?_
  refine tz_aload0 (n := 13) (g_at ck_X10_homeAfter 6 rfl) rfl (g_ne kd_1) ?_
  refine tz_getOv (n := 16) (a := 62) fk_X10_74 kd_1 (ly_1_14 hL) (g_at ck_X10_homeAfter 7 rfl) rfl ?_
  refine tz_getOv (n := 19) (a := 63) fk_X10_258 kd_62 (ly_62_1 hL) (g_at ck_X10_homeAfter 8 rfl) rfl ?_
  refine tz_cvI1 (n := 22) (μ' := μX6_atHome) (cb' := 0) (sb' := 0) ml_X10_155 mo_X6_atHome mv_X6_atHome np_X6_atHome hS.k0 (g_at ck_X10_homeAfter 9 rfl) (sp_atHome hS (isM_63 hL) hR1 (by rw [hG5.n1]; omega)) rfl rfl rfl ⟨by decide, by decide⟩ (Nat.le_of_ble_eq_true rfl) (by decide) (by decide) (fun x19 ρ9 m19 hq => ?_)
  obtain ⟨rfl, hR2, rfl, rfl⟩ := hq
  rw [homB_C hW hG5 hT5]
  exact tz_iret (g_at ck_X10_homeAfter 10 rfl) rfl (rI_mk ⟨rfl, hR2, rfl, hF5⟩)
theorem sp_poorest {l : Launch} {γ : Gh} {ρ m : Mm} {n : Int} {ld b : Int} {Λ σ : Mm} {hl tl : List Int} (hL : LY ρ) (hLt : ρ 62 0 = ld) (hS : isS ρ ld) (hR : MR m) (hW : WL Λ) (hG : LandC m ld Λ hl tl) (hT : TripC m σ) (hσ : WS Λ b σ) (hb : 0 ≤ b ∧ b ≤ 80000) (hLn : ρ 1 3 = ld) (hn : 0 ≤ n ∧ n ≤ 100) : gE l γ μX10_poorest 6 0 0 (rI KK fun x ρ9 m9 => ρ = ρ9 ∧ MR m9 ∧ (porN (daysP Λ hl tl σ n.toNat) (Λ 0 1).toNat).1 = x ∧ Fr (trL ld) m m9) xN KK ρ m [vR 1, vI n] := by
  refine gE.ofw cl_X10.2 ?_ rfl rfl (Nat.le_of_ble_eq_true rfl)
  show gT l γ μX10_poorest 6 0 0 _ _ KK ρ m 0 [some (vR 1), some (vI n), none, none, none] []
  have hn := hW.1
  have hn8 := hW.2.1
  have hld := hG.ld9
  refine tz_aload0 (n := 1) (g_at ck_X10_poorest 0 rfl) rfl (g_ne kd_1) ?_
  refine tz_getOv (n := 4) (a := 62) fk_X10_74 kd_1 (ly_1_14 hL) (g_at ck_X10_poorest 1 rfl) rfl ?_
  refine tz_iload1 (n := 5) (g_at ck_X10_poorest 2 rfl) rfl ?_
  refine tz_cvV1 (n := 8) (μ' := μX8_go) (cb' := 0) (sb' := 0) ml_X10_255 mo_X8_go mv_X8_go np_X8_go kd_62 (g_at ck_X10_poorest 3 rfl) (sp_go hL hLt hS hR hW hG hT hσ (by omega) (by omega)) rfl rfl rfl ⟨by decide, by decide⟩ (Nat.le_of_ble_eq_true rfl) (by decide) (by decide) (fun ρ9 m5 hq => ?_)
  obtain ⟨rfl, hR1, hT5, hF5⟩ := hq
  have hG5 := hG.fr hF5
  have hσ5 := daysP_WS (hl := hl) (tl := tl) hW hσ hb.1 n.toNat
  refine tz_iconst (n := 9) (g_at ck_X10_poorest 4 rfl) rfl ?_
  refine tz_istore2 (n := 10) (g_at ck_X10_poorest 5 rfl) rfl (by decide) g_hpI ?_
  refine tz_bipush (n := 12) (g_at ck_X10_poorest 6 rfl) rfl rfl ?_
  refine tz_istore3 (n := 13) (g_at ck_X10_poorest 7 rfl) rfl (by decide) g_hpI ?_
  refine tz_iconst (n := 14) (g_at ck_X10_poorest 8 rfl) rfl ?_
  refine tz_istore4 (n := 16) (g_at ck_X10_poorest 9 rfl) rfl (by decide) g_hpI ?_
  refine g_for (fun i : Nat => gT l γ μX10_poorest 6 0 0 _ _ KK ρ m5 16 [some (vR 1), some (vI n), some (vI (porN (daysP Λ hl tl σ n.toNat) i).1), some (vI (porN (daysP Λ hl tl σ n.toNat) i).2), some (vI (i : Int))] []) (Λ 0 1).toNat ?_ (fun i hi ihi => ?_) 0 (Nat.zero_le _)
  · skip
    refine tz_iload4 (n := 18) (g_at ck_X10_poorest 10 rfl) rfl ?_
    refine tz_aload0 (n := 19) (g_at ck_X10_poorest 11 rfl) rfl (g_ne kd_1) ?_
    refine tz_getOv (n := 22) (a := ld) fk_X10_20 kd_1 hLn (g_at ck_X10_poorest 12 rfl) rfl ?_
    refine tz_getIw (n := 25) (kz := 1) fk_X10_142 hS.k0 (g_at ck_X10_poorest 13 rfl) rfl rfl ?_
    rw [hG5.n1]
    refine tz_icmp_ge (n := 28) (tgt := 68) (g_at ck_X10_poorest 14 rfl) rfl rfl ⟨by omega, by omega, by omega, by omega⟩ (fun h25 => ?_) (fun h25 => absurd h25 (by omega))
    refine tz_iload2 (n := 69) (g_at ck_X10_poorest 34 rfl) rfl ?_
    exact tz_iret (g_at ck_X10_poorest 35 rfl) rfl (rI_mk ⟨rfl, hR1, rfl, hF5⟩)
  · skip
    have hp1 := hσ5.2.1 (i : Int) (by omega) (by omega)
    have hq1 := porN_rg hσ5 i (by omega)
    refine tz_iload4 (n := 18) (g_at ck_X10_poorest 10 rfl) rfl ?_
    refine tz_aload0 (n := 19) (g_at ck_X10_poorest 11 rfl) rfl (g_ne kd_1) ?_
    refine tz_getOv (n := 22) (a := ld) fk_X10_20 kd_1 hLn (g_at ck_X10_poorest 12 rfl) rfl ?_
    refine tz_getIw (n := 25) (kz := 1) fk_X10_142 hS.k0 (g_at ck_X10_poorest 13 rfl) rfl rfl ?_
    rw [hG5.n1]
    refine tz_icmp_ge (n := 28) (tgt := 68) (g_at ck_X10_poorest 14 rfl) rfl rfl ⟨by omega, by omega, by omega, by omega⟩ (fun h25 => absurd h25 (by omega)) (fun h25 => ?_)
    refine tz_aload0 (n := 29) (g_at ck_X10_poorest 15 rfl) rfl (g_ne kd_1) ?_
    refine tz_getOv (n := 32) (a := 62) fk_X10_74 kd_1 (ly_1_14 hL) (g_at ck_X10_poorest 16 rfl) rfl ?_
    refine tz_getOv (n := 35) (a := 63) fk_X10_258 kd_62 (ly_62_1 hL) (g_at ck_X10_poorest 17 rfl) rfl ?_
    refine tz_getAv (n := 38) (a := 65) fk_X10_230 (isM_63 hL).k0 (isM_63 hL).r0_2 (g_at ck_X10_poorest 18 rfl) rfl ?_
    refine tz_iload4 (n := 40) (g_at ck_X10_poorest 19 rfl) rfl ?_
    refine tz_iald (n := 41) (isM_63 hL).k2 (by omega) (g_at ck_X10_poorest 20 rfl) rfl ?_
    rw [hT5.pur (i : Int) (by omega)]
    refine tz_iload3 (n := 42) (g_at ck_X10_poorest 21 rfl) rfl ?_
    refine tz_icmp_ge (n := 45) (tgt := 62) (g_at ck_X10_poorest 22 rfl) rfl rfl ⟨by omega, by omega, by omega, by omega⟩ (fun h42 => ?_) (fun h42 => ?_)
    · skip
      refine tz_iinc4 (n := 65) (g_at ck_X10_poorest 32 rfl) rfl (by decide) g_hpI ?_
      refine tz_goto (tgt := 16) (g_at ck_X10_poorest 33 rfl) rfl ?_
      have e9 : porN (daysP Λ hl tl σ n.toNat) (i + 1) = (porN (daysP Λ hl tl σ n.toNat) i) := if_pos h42
      exact gT_eq ihi rfl (by rw [e9]; rfl)
    · skip
      refine tz_aload0 (n := 46) (g_at ck_X10_poorest 23 rfl) rfl (g_ne kd_1) ?_
      refine tz_getOv (n := 49) (a := 62) fk_X10_74 kd_1 (ly_1_14 hL) (g_at ck_X10_poorest 24 rfl) rfl ?_
      refine tz_getOv (n := 52) (a := 63) fk_X10_258 kd_62 (ly_62_1 hL) (g_at ck_X10_poorest 25 rfl) rfl ?_
      refine tz_getAv (n := 55) (a := 65) fk_X10_230 (isM_63 hL).k0 (isM_63 hL).r0_2 (g_at ck_X10_poorest 26 rfl) rfl ?_
      refine tz_iload4 (n := 57) (g_at ck_X10_poorest 27 rfl) rfl ?_
      refine tz_iald (n := 58) (isM_63 hL).k2 (by omega) (g_at ck_X10_poorest 28 rfl) rfl ?_
      rw [hT5.pur (i : Int) (by omega)]
      refine tz_istore3 (n := 59) (g_at ck_X10_poorest 29 rfl) rfl (by decide) g_hpI ?_
      refine tz_iload4 (n := 61) (g_at ck_X10_poorest 30 rfl) rfl ?_
      refine tz_istore2 (n := 62) (g_at ck_X10_poorest 31 rfl) rfl (by decide) g_hpI ?_
      refine tz_iinc4 (n := 65) (g_at ck_X10_poorest 32 rfl) rfl (by decide) g_hpI ?_
      refine tz_goto (tgt := 16) (g_at ck_X10_poorest 33 rfl) rfl ?_
      have e9 : porN (daysP Λ hl tl σ n.toNat) (i + 1) = ((i : Int), (daysP Λ hl tl σ n.toNat) 0 (9 + (i : Int))) := if_neg h42
      exact gT_eq ihi rfl (by rw [e9]; rfl)
def tkR (Λ σ : Mm) (c a v : Int) (n : Nat) : Int := fd (fun r u => if Λ 4 (a * 5 + (r : Int)) = c then u + σ 2 (a * 5 + (r : Int)) else u) v n
def tkN (Λ σ : Mm) (c : Int) (n : Nat) : Int := fd (fun a v => tkR Λ σ c (a : Int) v (Λ 3 (a : Int)).toNat) 0 n
theorem sp_taken {l : Launch} {γ : Gh} {ρ m : Mm} {c n : Int} (hc : -2147483648 ≤ c ∧ c < 2147483648) (hn : -2147483648 ≤ n ∧ n < 2147483648) {ld : Int} {Λ : Mm} {hl tl : List Int} (hL : LY ρ) (hLn : ρ 1 3 = ld) (hS : isS ρ ld) (hR : MR m) (hW : WL Λ) (hG : LandC m ld Λ hl tl) {s : Int → Int} (hN : MomC m 39 s) (hσ : WS Λ 0 (sig0 s)) : gE l γ μX10_taken 7 2 12 (rI KK fun x ρ9 m9 => qR ρ ρ9 ∧ MR m9 ∧ qM ld m m9 ∧ sq (cdC Λ c) (cdD n 0 100) = 0 ∧ tkN Λ (daysP Λ hl tl (sig0 s) n.toNat) c (Λ 0 0).toNat * Λ 1 c = x) (xC ρ m (sq (cdC Λ c) (cdD n 0 100))) KK ρ m [vR 1, vI c, vI n] := by
  refine gE.ofw cl_X10.2 ?_ rfl rfl (Nat.le_of_ble_eq_true rfl)
  show gT l γ μX10_taken 7 2 12 _ _ KK ρ m 0 [some (vR 1), some (vI c), some (vI n), none, none, none] []
  have hn1 := hW.1
  have hn8 := hW.2.1
  have hld := hG.ld9
  refine tz_aload0 (n := 1) (g_at ck_X10_taken 0 rfl) rfl (g_ne kd_1) ?_
  refine tz_iload1 (n := 2) (g_at ck_X10_taken 1 rfl) rfl ?_
  refine tz_cvxV1 (n := 5) (μ' := μX10_needCrossing) (cb' := 1) (sb' := 6) ml_X10_185 mo_X10_needCrossing mv_X10_needCrossing np_X10_needCrossing kd_1 (g_at ck_X10_taken 2 rfl) (sp_needC ⟨hc.1, hc.2⟩ hL hLn hS hR hW hG) rfl rfl rfl ⟨by decide, by decide⟩ (Nat.le_of_ble_eq_true rfl) (by decide) (by decide) (g_in (g_m5 (List.mem_of_getElem? (i := 41) rfl)) rfl) (fun E9 ρ9 m9 h9 => g_gX_out rfl h9.1 h9.2.1 (sq_1 h9.2.2)) (fun ρ9 m2 hq => ?_)
  obtain ⟨rfl, hR1, rfl, hz2⟩ := hq
  have hc2 := cdC_0 hz2
  refine tz_iload2 (n := 6) (g_at ck_X10_taken 3 rfl) rfl ?_
  refine tz_iconst (n := 7) (g_at ck_X10_taken 4 rfl) rfl ?_
  refine tz_bipush (n := 9) (g_at ck_X10_taken 5 rfl) rfl rfl ?_
  refine tz_csxV3 (n := 12) (μ' := μX10_needDays) (cb' := 0) (sb' := 0) ml_X10_270 mo_X10_needDays ms_X10_needDays np_X10_needDays (g_at ck_X10_taken 6 rfl) (sp_needD ⟨hn.1, hn.2⟩ ⟨(by decide), (by decide)⟩ ⟨(by decide), (by decide)⟩ hR1) rfl rfl ⟨by decide, by decide⟩ (Nat.le_of_ble_eq_true rfl) (by decide) (by decide) (g_in (g_m5 (List.mem_of_getElem? (i := 145) rfl)) rfl) (fun E9 ρ9 m9 h9 => g_gX_out rfl h9.1 h9.2.1 (sq_2 hz2 h9.2.2)) (fun ρ9 m9 hq => ?_)
  obtain ⟨rfl, hR2, rfl, hz9⟩ := hq
  have hn2 := cdD_0 hz9
  refine tz_aload0 (n := 13) (g_at ck_X10_taken 7 rfl) rfl (g_ne kd_1) ?_
  refine tz_cvR0 (n := 16) (μ' := μX10_setOut) (cb' := 0) (sb' := 0) ml_X10_251 mo_X10_setOut mv_X10_setOut np_X10_setOut kd_1 (g_at ck_X10_taken 8 rfl) (sp_setOut hL hLn hS hR2 hW hG hN) rfl rfl rfl ⟨by decide, by decide⟩ (Nat.le_of_ble_eq_true rfl) (by decide) (by decide) (fun x13 ρ9 m13 hq => ?_)
  obtain ⟨rfl, rfl, hR3, hT13, hF13⟩ := hq
  have hQ13 := qM_trL (hF13.sub (trL_be (ld := ld)))
  have hG13 := hG.fr (hF13.sub trL_be)
  have hL := LY_wr (r := 62) (k := 0) (x := ld) hL (by decide)
  have hLt : wr ρ 62 0 ld 62 0 = ld := wr_same
  have hLn : wr ρ 62 0 ld 1 3 = ld := (by rw [wr_ne (by decide)]; exact hLn)
  have hS : isS (wr ρ 62 0 ld) ld := isS_of hL hld
  refine tz_iload2 (n := 17) (g_at ck_X10_taken 9 rfl) rfl ?_
  refine tz_cvV1 (n := 20) (μ' := μX8_go) (cb' := 0) (sb' := 0) ml_X10_255 mo_X8_go mv_X8_go np_X8_go kd_62 (g_at ck_X10_taken 10 rfl) (sp_go hL hLt hS hR3 hW hG13 hT13 hσ (by decide) (by omega)) rfl rfl rfl ⟨by decide, by decide⟩ (Nat.le_of_ble_eq_true rfl) (by decide) (by decide) (fun ρ9 m17 hq => ?_)
  obtain ⟨rfl, hR4, hT17, hF17⟩ := hq
  have hQ17 := hQ13.tr (qM_trL hF17)
  have hG17 := hG13.fr hF17
  refine tz_iconst (n := 21) (g_at ck_X10_taken 11 rfl) rfl ?_
  refine tz_istore3 (n := 22) (g_at ck_X10_taken 12 rfl) rfl (by decide) g_hpI ?_
  refine tz_iconst (n := 23) (g_at ck_X10_taken 13 rfl) rfl ?_
  refine tz_istore4 (n := 25) (g_at ck_X10_taken 14 rfl) rfl (by decide) g_hpI ?_
  refine g_for (fun i : Nat => gT l γ μX10_taken 7 0 0 _ _ KK (wr ρ 62 0 ld) m17 25 [some (vR 1), some (vI c), some (vI n), some (vI (tkN Λ (daysP Λ hl tl (sig0 s) n.toNat) c i)), some (vI (i : Int)), none] []) (Λ 0 0).toNat ?_ (fun i hi ihi => ?_) 0 (Nat.zero_le _)
  · skip
    refine tz_iload4 (n := 27) (g_at ck_X10_taken 15 rfl) rfl ?_
    refine tz_aload0 (n := 28) (g_at ck_X10_taken 16 rfl) rfl (g_ne kd_1) ?_
    refine tz_getOv (n := 31) (a := ld) fk_X10_20 kd_1 hLn (g_at ck_X10_taken 17 rfl) rfl ?_
    refine tz_getIw (n := 34) (kz := 0) fk_X10_139 hS.k0 (g_at ck_X10_taken 18 rfl) rfl rfl ?_
    rw [hG17.n0]
    refine tz_icmp_ge (n := 37) (tgt := 100) (g_at ck_X10_taken 19 rfl) rfl rfl ⟨by omega, by omega, by omega, by omega⟩ (fun h34 => ?_) (fun h34 => absurd h34 (by omega))
    refine tz_iload3 (n := 101) (g_at ck_X10_taken 50 rfl) rfl ?_
    refine tz_aload0 (n := 102) (g_at ck_X10_taken 51 rfl) rfl (g_ne kd_1) ?_
    refine tz_getOv (n := 105) (a := ld) fk_X10_20 kd_1 hLn (g_at ck_X10_taken 52 rfl) rfl ?_
    refine tz_getAv (n := 108) (a := (ld + 1)) fk_X10_188 hS.k0 hS.r0_2 (g_at ck_X10_taken 53 rfl) rfl ?_
    refine tz_iload1 (n := 109) (g_at ck_X10_taken 54 rfl) rfl ?_
    refine tz_iald (n := 110) hS.k1 (by omega) (g_at ck_X10_taken 55 rfl) rfl ?_
    rw [hG17.toll c (by omega)]
    refine tz_imul (n := 111) (g_at ck_X10_taken 56 rfl) rfl ?_
    exact tz_iret (g_at ck_X10_taken 57 rfl) rfl (rI_mk ⟨qR_62, hR4, hQ17, sq_0 hz2 hz9, rfl⟩)
  · skip
    have hc3 := hW.2.2.1 (i : Int) (by omega) (by omega)
    refine tz_iload4 (n := 27) (g_at ck_X10_taken 15 rfl) rfl ?_
    refine tz_aload0 (n := 28) (g_at ck_X10_taken 16 rfl) rfl (g_ne kd_1) ?_
    refine tz_getOv (n := 31) (a := ld) fk_X10_20 kd_1 hLn (g_at ck_X10_taken 17 rfl) rfl ?_
    refine tz_getIw (n := 34) (kz := 0) fk_X10_139 hS.k0 (g_at ck_X10_taken 18 rfl) rfl rfl ?_
    rw [hG17.n0]
    refine tz_icmp_ge (n := 37) (tgt := 100) (g_at ck_X10_taken 19 rfl) rfl rfl ⟨by omega, by omega, by omega, by omega⟩ (fun h34 => absurd h34 (by omega)) (fun h34 => ?_)
    refine tz_iconst (n := 38) (g_at ck_X10_taken 20 rfl) rfl ?_
    refine tz_istore5 (n := 40) (g_at ck_X10_taken 21 rfl) rfl (by decide) g_hpI ?_
    refine g_for (fun j : Nat => gT l γ μX10_taken 7 0 0 _ _ KK (wr ρ 62 0 ld) m17 40 [some (vR 1), some (vI c), some (vI n), some (vI (tkR Λ (daysP Λ hl tl (sig0 s) n.toNat) c (i : Int) (tkN Λ (daysP Λ hl tl (sig0 s) n.toNat) c i) j)), some (vI (i : Int)), some (vI (j : Int))] []) (Λ 3 (i : Int)).toNat ?_ (fun j hj ihj => ?_) 0 (Nat.zero_le _)
    · skip
      refine tz_iload5 (n := 42) (g_at ck_X10_taken 22 rfl) rfl ?_
      refine tz_aload0 (n := 43) (g_at ck_X10_taken 23 rfl) rfl (g_ne kd_1) ?_
      refine tz_getOv (n := 46) (a := ld) fk_X10_20 kd_1 hLn (g_at ck_X10_taken 24 rfl) rfl ?_
      refine tz_getAv (n := 49) (a := (ld + 3)) fk_X10_194 hS.k0 hS.r0_4 (g_at ck_X10_taken 25 rfl) rfl ?_
      refine tz_iload4 (n := 51) (g_at ck_X10_taken 26 rfl) rfl ?_
      refine tz_iald (n := 52) hS.k3 (by omega) (g_at ck_X10_taken 27 rfl) rfl ?_
      rw [hG17.roads (i : Int) (by omega)]
      refine tz_icmp_ge (n := 55) (tgt := 94) (g_at ck_X10_taken 28 rfl) rfl rfl ⟨by omega, by omega, by omega, by omega⟩ (fun h52 => ?_) (fun h52 => absurd h52 (by omega))
      refine tz_iinc4 (n := 97) (g_at ck_X10_taken 48 rfl) rfl (by decide) g_hpI ?_
      refine tz_goto (tgt := 25) (g_at ck_X10_taken 49 rfl) rfl ?_
      refine tz_drop5 ?_
      exact ihi
    · skip
      have he := hW.2.2.2.1 (i : Int) (j : Int) (by omega) (by omega) (by omega) (by omega)
      refine tz_iload5 (n := 42) (g_at ck_X10_taken 22 rfl) rfl ?_
      refine tz_aload0 (n := 43) (g_at ck_X10_taken 23 rfl) rfl (g_ne kd_1) ?_
      refine tz_getOv (n := 46) (a := ld) fk_X10_20 kd_1 hLn (g_at ck_X10_taken 24 rfl) rfl ?_
      refine tz_getAv (n := 49) (a := (ld + 3)) fk_X10_194 hS.k0 hS.r0_4 (g_at ck_X10_taken 25 rfl) rfl ?_
      refine tz_iload4 (n := 51) (g_at ck_X10_taken 26 rfl) rfl ?_
      refine tz_iald (n := 52) hS.k3 (by omega) (g_at ck_X10_taken 27 rfl) rfl ?_
      rw [hG17.roads (i : Int) (by omega)]
      refine tz_icmp_ge (n := 55) (tgt := 94) (g_at ck_X10_taken 28 rfl) rfl rfl ⟨by omega, by omega, by omega, by omega⟩ (fun h52 => absurd h52 (by omega)) (fun h52 => ?_)
      refine tz_aload0 (n := 56) (g_at ck_X10_taken 29 rfl) rfl (g_ne kd_1) ?_
      refine tz_getOv (n := 59) (a := ld) fk_X10_20 kd_1 hLn (g_at ck_X10_taken 30 rfl) rfl ?_
      refine tz_iload4 (n := 61) (g_at ck_X10_taken 31 rfl) rfl ?_
      refine tz_iload5 (n := 63) (g_at ck_X10_taken 32 rfl) rfl ?_
      refine tz_cvI2 (n := 66) (μ' := μX6_leads) (cb' := 0) (sb' := 0) ml_X10_213 mo_X6_leads mv_X6_leads np_X6_leads hS.k0 (g_at ck_X10_taken 33 rfl) (sp_leads hS hR4 (by omega)) rfl rfl rfl ⟨by decide, by decide⟩ (Nat.le_of_ble_eq_true rfl) (by decide) (by decide) (fun x63 ρ9 m63 hq => ?_)
      obtain ⟨rfl, hR5, rfl, rfl⟩ := hq
      rw [hG17.ends (i : Int) (j : Int) (by omega) (by omega)]
      refine tz_iload1 (n := 67) (g_at ck_X10_taken 34 rfl) rfl ?_
      refine tz_icmp_ne (n := 70) (tgt := 88) (g_at ck_X10_taken 35 rfl) rfl rfl ⟨by omega, by omega, by omega, by omega⟩ (fun h67 => ?_) (fun h67 => ?_)
      · skip
        refine tz_iinc5 (n := 91) (g_at ck_X10_taken 46 rfl) rfl (by decide) g_hpI ?_
        refine tz_goto (tgt := 40) (g_at ck_X10_taken 47 rfl) rfl ?_
        have e9 : tkR Λ (daysP Λ hl tl (sig0 s) n.toNat) c (i : Int) (tkN Λ (daysP Λ hl tl (sig0 s) n.toNat) c i) (j + 1) = (tkR Λ (daysP Λ hl tl (sig0 s) n.toNat) c (i : Int) (tkN Λ (daysP Λ hl tl (sig0 s) n.toNat) c i) j) := if_neg h67
        exact gT_eq ihj rfl (by rw [e9]; rfl)
      · skip
        refine tz_iload3 (n := 71) (g_at ck_X10_taken 36 rfl) rfl ?_
        refine tz_aload0 (n := 72) (g_at ck_X10_taken 37 rfl) rfl (g_ne kd_1) ?_
        refine tz_getOv (n := 75) (a := 62) fk_X10_74 kd_1 (ly_1_14 hL) (g_at ck_X10_taken 38 rfl) rfl ?_
        refine tz_getAv (n := 78) (a := 69) fk_X10_284 kd_62 (ly_62_3 hL) (g_at ck_X10_taken 39 rfl) rfl ?_
        refine tz_iload4 (n := 80) (g_at ck_X10_taken 40 rfl) rfl ?_
        refine tz_iload5 (n := 82) (g_at ck_X10_taken 41 rfl) rfl ?_
        refine tz_csI2 (n := 85) (μ' := μX6_roadIndex) (cb' := 0) (sb' := 0) ml_X10_287 mo_X6_roadIndex ms_X6_roadIndex np_X6_roadIndex (g_at ck_X10_taken 42 rfl) (sp_roadIndex hR5) rfl rfl ⟨by decide, by decide⟩ (Nat.le_of_ble_eq_true rfl) (by decide) (by decide) (fun x82 ρ9 m82 hq => ?_)
        obtain ⟨rfl, hR6, rfl, rfl⟩ := hq
        refine tz_iald (n := 86) kd_69 (by omega) (g_at ck_X10_taken 43 rfl) rfl ?_
        rw [hT17.goi _ (by omega)]
        refine tz_iadd (n := 87) (g_at ck_X10_taken 44 rfl) rfl ?_
        refine tz_istore3 (n := 88) (g_at ck_X10_taken 45 rfl) rfl (by decide) g_hpI ?_
        refine tz_iinc5 (n := 91) (g_at ck_X10_taken 46 rfl) rfl (by decide) g_hpI ?_
        refine tz_goto (tgt := 40) (g_at ck_X10_taken 47 rfl) rfl ?_
        have e9 : tkR Λ (daysP Λ hl tl (sig0 s) n.toNat) c (i : Int) (tkN Λ (daysP Λ hl tl (sig0 s) n.toNat) c i) (j + 1) = ((tkR Λ (daysP Λ hl tl (sig0 s) n.toNat) c (i : Int) (tkN Λ (daysP Λ hl tl (sig0 s) n.toNat) c i) j) + (daysP Λ hl tl (sig0 s) n.toNat) 2 ((i : Int) * 5 + (j : Int))) := if_pos h67
        exact gT_eq ihj rfl (by rw [e9]; rfl)
