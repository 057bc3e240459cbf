/-! later, part by part. -/
theorem bitsH_congr {f g f' g' : Int → Int} {n : Nat} (h : ∀ p : Nat, p < n → f p = f' p ∧ g p = g' p) : bitsH f g n = bitsH f' g' n := by
  unfold bitsH
  exact fd_congr fun i v hi => by rw [(h i hi).1, (h i hi).2]
def homB (Λ σ : Mm) : Int := bitsH (fun p => σ 0 (1 + p)) (Λ 5) (Λ 0 1).toNat
theorem homB_C {m Λ σ : Mm} {ld : Int} {hl tl : List Int} (hW : WL Λ) (hG : LandC m ld Λ hl tl) (hT : TripC m σ) : bitsH (m (63 + 1)) (m (ld + 5)) (m ld 1).toNat = homB Λ σ := by
  have hn8 := hW.2.1
  rw [hG.n1]
  exact bitsH_congr fun p hp => ⟨hT.whr p (by omega), hG.home p (by omega)⟩
def porN (σ : Mm) (n : Nat) : Int × Int := fd (fun p q => if q.2 ≤ σ 0 (9 + (p : Int)) then q else ((p : Int), σ 0 (9 + (p : Int)))) (-1, 100) n
theorem porN_rg {Λ σ : Mm} {b : Int} (h : WS Λ b σ) : ∀ n : Nat, (n : Int) ≤ Λ 0 1 → 0 ≤ (porN σ n).2 ∧ (porN σ n).2 ≤ 100
  | 0, _ => by show (0 : Int) ≤ 100 ∧ (100 : Int) ≤ 100; decide
  | n + 1, hn => by
    have ih := porN_rg h n (by omega)
    have k := h.2.1 (n : Int) (by omega) (by omega)
    show 0 ≤ (if (porN σ n).2 ≤ σ 0 (9 + (n : Int)) then porN σ n else ((n : Int), σ 0 (9 + (n : Int)))).2 ∧ (if (porN σ n).2 ≤ σ 0 (9 + (n : Int)) then porN σ n else ((n : Int), σ 0 (9 + (n : Int)))).2 ≤ 100
    split
    · exact ih
    · exact ⟨k.2.2.1, by show σ 0 (9 + (n : Int)) ≤ 100; omega⟩
theorem sp_homeAfter {l : Launch} {γ : Gh} {ρ m : Mm} {n : Int} {ld b : Int} {Λ σ : Mm} {hl tl : List Int} (hL : LY ρ) (hLt : ρ 62 0 = ld) (hS : isS ρ ld) (hR : MR m) (hW : WL Λ) (hG : LandC m ld Λ hl tl) (hT : TripC m σ) (hσ : WS Λ b σ) (hb : 0 ≤ b ∧ b ≤ 80000) (hLn : ρ 1 3 = ld) (hn : 0 ≤ n ∧ n ≤ 100) : gE l γ μX10_homeAfter 6 0 0 (rI KK fun x ρ9 m9 => ρ = ρ9 ∧ MR m9 ∧ homB Λ (daysP Λ hl tl σ n.toNat) = x ∧ Fr (trL ld) m m9) xN KK ρ m [vR 1, vI n] := by
  refine gE.ofw cl_X10.2 ?_ rfl rfl (Nat.le_of_ble_eq_true rfl)
  show gT l γ μX10_homeAfter 6 0 0 _ _ KK ρ m 0 [some (vR 1), some (vI n)] []
  have hn := hW.1
  have hn8 := hW.2.1
  have hld := hG.ld9
  refine tz_aload0 (n := 1) (g_at ck_X10_homeAfter 0 rfl) rfl (g_ne kd_1) ?_
  refine tz_getOv (n := 4) (a := 62) fk_X10_74 kd_1 (ly_1_14 hL) (g_at ck_X10_homeAfter 1 rfl) rfl ?_
  refine tz_iload1 (n := 5) (g_at ck_X10_homeAfter 2 rfl) rfl ?_
  refine tz_cvV1 (n := 8) (μ' := μX8_go) (cb' := 0) (sb' := 0) ml_X10_255 mo_X8_go mv_X8_go np_X8_go kd_62 (g_at ck_X10_homeAfter 3 rfl) (sp_go hL hLt hS hR hW hG hT hσ (by omega) (by omega)) rfl rfl rfl ⟨by decide, by decide⟩ (Nat.le_of_ble_eq_true rfl) (by decide) (by decide) (fun ρ9 m5 hq => ?_)
  obtain ⟨rfl, hR1, hT5, hF5⟩ := hq
  have hG5 := hG.fr hF5
  have hσ5 := daysP_WS (hl := hl) (tl := tl) hW hσ hb.1 n.toNat
  refine tz_aload0 (n := 9) (g_at ck_X10_homeAfter 4 rfl) rfl (g_ne kd_1) ?_
  refine tz_getOv (n := 12) (a := ld) fk_X10_20 kd_1 hLn (g_at ck_X10_homeAfter 5 rfl) rfl ?_
  refine tz_aload0 (n := 13) (g_at ck_X10_homeAfter 6 rfl) rfl (g_ne kd_1) ?_
  refine tz_getOv (n := 16) (a := 62) fk_X10_74 kd_1 (ly_1_14 hL) (g_at ck_X10_homeAfter 7 rfl) rfl ?_
  refine tz_getOv (n := 19) (a := 63) fk_X10_258 kd_62 (ly_62_1 hL) (g_at ck_X10_homeAfter 8 rfl) rfl ?_
  refine tz_cvI1 (n := 22) (μ' := μX6_atHome) (cb' := 0) (sb' := 0) ml_X10_155 mo_X6_atHome mv_X6_atHome np_X6_atHome hS.k0 (g_at ck_X10_homeAfter 9 rfl) (sp_atHome hS (isM_63 hL) hR1 (by rw [hG5.n1]; omega)) rfl rfl rfl ⟨by decide, by decide⟩ (Nat.le_of_ble_eq_true rfl) (by decide) (by decide) (fun x19 ρ9 m19 hq => ?_)
  obtain ⟨rfl, hR2, rfl, rfl⟩ := hq
  rw [homB_C hW hG5 hT5]
  exact tz_iret (g_at ck_X10_homeAfter 10 rfl) rfl (rI_mk ⟨rfl, hR2, rfl, hF5⟩)
theorem sp_poorest {l : Launch} {γ : Gh} {ρ m : Mm} {n : Int} {ld b : Int} {Λ σ : Mm} {hl tl : List Int} (hL : LY ρ) (hLt : ρ 62 0 = ld) (hS : isS ρ ld) (hR : MR m) (hW : WL Λ) (hG : LandC m ld Λ hl tl) (hT : TripC m σ) (hσ : WS Λ b σ) (hb : 0 ≤ b ∧ b ≤ 80000) (hLn : ρ 1 3 = ld) (hn : 0 ≤ n ∧ n ≤ 100) : gE l γ μX10_poorest 6 0 0 (rI KK fun x ρ9 m9 => ρ = ρ9 ∧ MR m9 ∧ (porN (daysP Λ hl tl σ n.toNat) (Λ 0 1).toNat).1 = x ∧ Fr (trL ld) m m9) xN KK ρ m [vR 1, vI n] := by
  refine gE.ofw cl_X10.2 ?_ rfl rfl (Nat.le_of_ble_eq_true rfl)
  show gT l γ μX10_poorest 6 0 0 _ _ KK ρ m 0 [some (vR 1), some (vI n), none, none, none] []
  have hn := hW.1
  have hn8 := hW.2.1
  have hld := hG.ld9
  refine tz_aload0 (n := 1) (g_at ck_X10_poorest 0 rfl) rfl (g_ne kd_1) ?_
  refine tz_getOv (n := 4) (a := 62) fk_X10_74 kd_1 (ly_1_14 hL) (g_at ck_X10_poorest 1 rfl) rfl ?_
  refine tz_iload1 (n := 5) (g_at ck_X10_poorest 2 rfl) rfl ?_
  refine tz_cvV1 (n := 8) (μ' := μX8_go) (cb' := 0) (sb' := 0) ml_X10_255 mo_X8_go mv_X8_go np_X8_go kd_62 (g_at ck_X10_poorest 3 rfl) (sp_go hL hLt hS hR hW hG hT hσ (by omega) (by omega)) rfl rfl rfl ⟨by decide, by decide⟩ (Nat.le_of_ble_eq_true rfl) (by decide) (by decide) (fun ρ9 m5 hq => ?_)
  obtain ⟨rfl, hR1, hT5, hF5⟩ := hq
  have hG5 := hG.fr hF5
  have hσ5 := daysP_WS (hl := hl) (tl := tl) hW hσ hb.1 n.toNat
  refine tz_iconst (n := 9) (g_at ck_X10_poorest 4 rfl) rfl ?_
  refine tz_istore2 (n := 10) (g_at ck_X10_poorest 5 rfl) rfl (by decide) g_hpI ?_
  refine tz_bipush (n := 12) (g_at ck_X10_poorest 6 rfl) rfl rfl ?_
  refine tz_istore3 (n := 13) (g_at ck_X10_poorest 7 rfl) rfl (by decide) g_hpI ?_
  refine tz_iconst (n := 14) (g_at ck_X10_poorest 8 rfl) rfl ?_
  refine tz_istore4 (n := 16) (g_at ck_X10_poorest 9 rfl) rfl (by decide) g_hpI ?_
  refine g_for (fun i : Nat => gT l γ μX10_poorest 6 0 0 _ _ KK ρ m5 16 [some (vR 1), some (vI n), some (vI (porN (daysP Λ hl tl σ n.toNat) i).1), some (vI (porN (daysP Λ hl tl σ n.toNat) i).2), some (vI (i : Int))] []) (Λ 0 1).toNat ?_ (fun i hi ihi => ?_) 0 (Nat.zero_le _)
  · skip
    refine tz_iload4 (n := 18) (g_at ck_X10_poorest 10 rfl) rfl ?_
    refine tz_aload0 (n := 19) (g_at ck_X10_poorest 11 rfl) rfl (g_ne kd_1) ?_
    refine tz_getOv (n := 22) (a := ld) fk_X10_20 kd_1 hLn (g_at ck_X10_poorest 12 rfl) rfl ?_
    refine tz_getIw (n := 25) (kz := 1) fk_X10_142 hS.k0 (g_at ck_X10_poorest 13 rfl) rfl rfl ?_
    rw [hG5.n1]
    refine tz_icmp_ge (n := 28) (tgt := 68) (g_at ck_X10_poorest 14 rfl) rfl rfl ⟨by omega, by omega, by omega, by omega⟩ (fun h25 => ?_) (fun h25 => absurd h25 (by omega))
    refine tz_iload2 (n := 69) (g_at ck_X10_poorest 34 rfl) rfl ?_
    exact tz_iret (g_at ck_X10_poorest 35 rfl) rfl (rI_mk ⟨rfl, hR1, rfl, hF5⟩)
  · skip
    have hp1 := hσ5.2.1 (i : Int) (by omega) (by omega)
    have hq1 := porN_rg hσ5 i (by omega)
    refine tz_iload4 (n := 18) (g_at ck_X10_poorest 10 rfl) rfl ?_
    refine tz_aload0 (n := 19) (g_at ck_X10_poorest 11 rfl) rfl (g_ne kd_1) ?_
    refine tz_getOv (n := 22) (a := ld) fk_X10_20 kd_1 hLn (g_at ck_X10_poorest 12 rfl) rfl ?_
    refine tz_getIw (n := 25) (kz := 1) fk_X10_142 hS.k0 (g_at ck_X10_poorest 13 rfl) rfl rfl ?_
    rw [hG5.n1]
    refine tz_icmp_ge (n := 28) (tgt := 68) (g_at ck_X10_poorest 14 rfl) rfl rfl ⟨by omega, by omega, by omega, by omega⟩ (fun h25 => absurd h25 (by omega)) (fun h25 => ?_)
    refine tz_aload0 (n := 29) (g_at ck_X10_poorest 15 rfl) rfl (g_ne kd_1) ?_
    refine tz_getOv (n := 32) (a := 62) fk_X10_74 kd_1 (ly_1_14 hL) (g_at ck_X10_poorest 16 rfl) rfl ?_
    refine tz_getOv (n := 35) (a := 63) fk_X10_258 kd_62 (ly_62_1 hL) (g_at ck_X10_poorest 17 rfl) rfl ?_
    refine tz_getAv (n := 38) (a := 65) fk_X10_230 (isM_63 hL).k0 (isM_63 hL).r0_2 (g_at ck_X10_poorest 18 rfl) rfl ?_
    refine tz_iload4 (n := 40) (g_at ck_X10_poorest 19 rfl) rfl ?_
    refine tz_iald (n := 41) (isM_63 hL).k2 (by omega) (g_at ck_X10_poorest 20 rfl) rfl ?_
    rw [hT5.pur (i : Int) (by omega)]
    refine tz_iload3 (n := 42) (g_at ck_X10_poorest 21 rfl) rfl ?_
    refine tz_icmp_ge (n := 45) (tgt := 62) (g_at ck_X10_poorest 22 rfl) rfl rfl ⟨by omega, by omega, by omega, by omega⟩ (fun h42 => ?_) (fun h42 => ?_)
    · skip
      refine tz_iinc4 (n := 65) (g_at ck_X10_poorest 32 rfl) rfl (by decide) g_hpI ?_
      refine tz_goto (tgt := 16) (g_at ck_X10_poorest 33 rfl) rfl ?_
      have e9 : porN (daysP Λ hl tl σ n.toNat) (i + 1) = (porN (daysP Λ hl tl σ n.toNat) i) := if_pos h42
      exact gT_eq ihi rfl (by rw [e9]; rfl)
    · skip
      refine tz_aload0 (n := 46) (g_at ck_X10_poorest 23 rfl) rfl (g_ne kd_1) ?_
      refine tz_getOv (n := 49) (a := 62) fk_X10_74 kd_1 (ly_1_14 hL) (g_at ck_X10_poorest 24 rfl) rfl ?_
      refine tz_getOv (n := 52) (a := 63) fk_X10_258 kd_62 (ly_62_1 hL) (g_at ck_X10_poorest 25 rfl) rfl ?_
      refine tz_getAv (n := 55) (a := 65) fk_X10_230 (isM_63 hL).k0 (isM_63 hL).r0_2 (g_at ck_X10_poorest 26 rfl) rfl ?_
      refine tz_iload4 (n := 57) (g_at ck_X10_poorest 27 rfl) rfl ?_
      refine tz_iald (n := 58) (isM_63 hL).k2 (by omega) (g_at ck_X10_poorest 28 rfl) rfl ?_
      rw [hT5.pur (i : Int) (by omega)]
      refine tz_istore3 (n := 59) (g_at ck_X10_poorest 29 rfl) rfl (by decide) g_hpI ?_
      refine tz_iload4 (n := 61) (g_at ck_X10_poorest 30 rfl) rfl ?_
      refine tz_istore2 (n := 62) (g_at ck_X10_poorest 31 rfl) rfl (by decide) g_hpI ?_
      refine tz_iinc4 (n := 65) (g_at ck_X10_poorest 32 rfl) rfl (by decide) g_hpI ?_
      refine tz_goto (tgt := 16) (g_at ck_X10_poorest 33 rfl) rfl ?_
      have e9 : porN (daysP Λ hl tl σ n.toNat) (i + 1) = ((i : Int), (daysP Λ hl tl σ n.toNat) 0 (9 + (i : Int))) := if_neg h42
      exact gT_eq ihi rfl (by rw [e9]; rfl)
