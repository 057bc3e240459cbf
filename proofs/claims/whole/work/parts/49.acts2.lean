/-! Acts. -/
theorem sp_turn {l : Launch} {γ : Gh} {ρ m : Mm} {c r : Int} (hc : -2147483648 ≤ c ∧ c < 2147483648) (hr : -2147483648 ≤ r ∧ r < 2147483648) {ld : Int} {Λ : Mm} {hl tl : List Int} (hL : LY ρ) (hLn : ρ 1 3 = ld) (hS : isS ρ ld) (hR : MR m) (hW : WL Λ) (hG : LandC m ld Λ hl tl) {s : Int → Int} (hN : MomC m 39 s) (hσ : WS Λ 0 (sig0 s)) (hA1 : 0 ≤ m 44 1 ∧ m 44 1 < 40) (hA2 : 0 ≤ m 44 2 ∧ m 44 2 ≤ 40) (hf : ∀ k, 0 ≤ k → k < 3 → m 61 k < 2000000000) : gE l γ μX10_turn 8 2 12 (rI KK fun x ρ9 m9 => ρ = ρ9 ∧ MR m9 ∧ cdR Λ c r = 0 ∧ (s (17 + c) = r → x = -1 ∧ rfM m 1 = m9) ∧ (¬ (s (17 + c) = r) → s (17 + c) = x ∧ wr (actKeep m 44 39) 42 c r = m9)) (xC ρ m (cdR Λ c r)) KK ρ m [vR 1, vI c, vI r] := by
  refine gE.ofw cl_X10.2 ?_ rfl rfl (Nat.le_of_ble_eq_true rfl)
  show gT l γ μX10_turn 8 2 12 _ _ KK ρ m 0 [some (vR 1), some (vI c), some (vI r), none] []
  have hn1 := hW.1
  have hn8 := hW.2.1
  have hld := hG.ld9
  refine tz_aload0 (n := 1) (g_at ck_X10_turn 0 rfl) rfl (g_ne kd_1) ?_
  refine tz_iload1 (n := 2) (g_at ck_X10_turn 1 rfl) rfl ?_
  refine tz_iload2 (n := 3) (g_at ck_X10_turn 2 rfl) rfl ?_
  refine tz_cvxV2 (n := 6) (μ' := μX10_needRoad) (cb' := 0) (sb' := 0) ml_X10_210 mo_X10_needRoad mv_X10_needRoad np_X10_needRoad kd_1 (g_at ck_X10_turn 3 rfl) (sp_needR ⟨hc.1, hc.2⟩ ⟨hr.1, hr.2⟩ hL hLn hS hR hW hG) rfl rfl rfl ⟨by decide, by decide⟩ (Nat.le_of_ble_eq_true rfl) (by decide) (by decide) (g_in (g_m5 (List.mem_of_getElem? (i := 54) rfl)) rfl) (fun E9 ρ9 m9 h9 => g_gX_out rfl h9.1 h9.2.1 h9.2.2) (fun ρ9 m3 hq => ?_)
  obtain ⟨rfl, hR1, rfl, hz3⟩ := hq
  have hc2 := cdR_0 hz3
  have hc3 := hW.2.2.1 c hc2.1 hc2.2.1
  have ha1 := sig0_WS_c hσ (c := c) (by omega)
  refine tz_aload0 (n := 7) (g_at ck_X10_turn 4 rfl) rfl (g_ne kd_1) ?_
  refine tz_getOv (n := 10) (a := 39) fk_X10_39 kd_1 (ly_1_6 hL) (g_at ck_X10_turn 5 rfl) rfl ?_
  refine tz_getAv (n := 13) (a := 42) fk_X10_197 (isM_39 hL).k0 (isM_39 hL).r0_3 (g_at ck_X10_turn 6 rfl) rfl ?_
  refine tz_iload1 (n := 14) (g_at ck_X10_turn 7 rfl) rfl ?_
  refine tz_iald (n := 15) (isM_39 hL).k3 (by omega) (g_at ck_X10_turn 8 rfl) rfl ?_
  rw [nowA hN c (by omega)]
  refine tz_istore3 (n := 16) (g_at ck_X10_turn 9 rfl) rfl (by decide) g_hpI ?_
  refine tz_iload3 (n := 17) (g_at ck_X10_turn 10 rfl) rfl ?_
  refine tz_iload2 (n := 18) (g_at ck_X10_turn 11 rfl) rfl ?_
  refine tz_icmp_ne (n := 21) (tgt := 27) (g_at ck_X10_turn 12 rfl) rfl rfl ⟨by omega, by omega, by omega, by omega⟩ (fun h18 => ?_) (fun h18 => ?_)
  · skip
    refine tz_aload0 (n := 28) (g_at ck_X10_turn 17 rfl) rfl (g_ne kd_1) ?_
    refine tz_getOv (n := 31) (a := 44) fk_X10_46 kd_1 (ly_1_7 hL) (g_at ck_X10_turn 18 rfl) rfl ?_
    refine tz_aload0 (n := 32) (g_at ck_X10_turn 19 rfl) rfl (g_ne kd_1) ?_
    refine tz_getOv (n := 35) (a := 39) fk_X10_39 kd_1 (ly_1_6 hL) (g_at ck_X10_turn 20 rfl) rfl ?_
    refine tz_cvV1 (n := 38) (μ' := μX0_keep) (cb' := 0) (sb' := 0) ml_X10_248 mo_X0_keep mv_X0_keep np_X0_keep (isA_44 hL).k0 (g_at ck_X10_turn 21 rfl) (sp_keep (isA_44 hL) (isM_39 hL) hR1 hA1 hA2) rfl rfl rfl ⟨by decide, by decide⟩ (Nat.le_of_ble_eq_true rfl) (by decide) (by decide) (fun ρ9 m35 hq => ?_)
    obtain ⟨rfl, hR2, rfl⟩ := hq
    refine tz_aload0 (n := 39) (g_at ck_X10_turn 22 rfl) rfl (g_ne kd_1) ?_
    refine tz_getOv (n := 42) (a := 39) fk_X10_39 kd_1 (ly_1_6 hL) (g_at ck_X10_turn 23 rfl) rfl ?_
    refine tz_getAv (n := 45) (a := 42) fk_X10_197 (isM_39 hL).k0 (isM_39 hL).r0_3 (g_at ck_X10_turn 24 rfl) rfl ?_
    refine tz_iload1 (n := 46) (g_at ck_X10_turn 25 rfl) rfl ?_
    refine tz_iload2 (n := 47) (g_at ck_X10_turn 26 rfl) rfl ?_
    refine tz_iastr (n := 48) (isM_39 hL).k3 (by omega) (g_at ck_X10_turn 27 rfl) rfl hR2 (by omega) (fun hR3 => ?_)
    refine tz_iload3 (n := 49) (g_at ck_X10_turn 28 rfl) rfl ?_
    exact tz_iret (g_at ck_X10_turn 29 rfl) rfl (rI_mk ⟨rfl, hR3, hz3, fun h9 => absurd h9 h18, fun _ => ⟨rfl, rfl⟩⟩)
  · skip
    refine tz_aload0 (n := 22) (g_at ck_X10_turn 13 rfl) rfl (g_ne kd_1) ?_
    refine tz_iconst (n := 23) (g_at ck_X10_turn 14 rfl) rfl ?_
    refine tz_cvI1 (n := 26) (μ' := μX10_refuse) (cb' := 0) (sb' := 0) ml_X10_245 mo_X10_refuse mv_X10_refuse np_X10_refuse kd_1 (g_at ck_X10_turn 15 rfl) (sp_refuse hL hR1 (by decide) (hf _ (by decide) (by decide))) rfl rfl rfl ⟨by decide, by decide⟩ (Nat.le_of_ble_eq_true rfl) (by decide) (by decide) (fun x23 ρ9 m23 hq => ?_)
    obtain ⟨rfl, hR4, rfl, rfl⟩ := hq
    exact tz_iret (g_at ck_X10_turn 16 rfl) rfl (rI_mk ⟨rfl, hR4, hz3, fun _ => ⟨rfl, rfl⟩, fun h9 => absurd h18 h9⟩)
theorem sp_shut {l : Launch} {γ : Gh} {ρ m : Mm} {c r b : Int} (hc : -2147483648 ≤ c ∧ c < 2147483648) (hr : -2147483648 ≤ r ∧ r < 2147483648) (hb : b = 0 ∨ b = 1) {ld : Int} {Λ : Mm} {hl tl : List Int} (hL : LY ρ) (hLn : ρ 1 3 = ld) (hS : isS ρ ld) (hR : MR m) (hW : WL Λ) (hG : LandC m ld Λ hl tl) {s : Int → Int} (hN : MomC m 39 s) (hσ : WS Λ 0 (sig0 s)) (hA1 : 0 ≤ m 44 1 ∧ m 44 1 < 40) (hA2 : 0 ≤ m 44 2 ∧ m 44 2 ≤ 40) (hf : ∀ k, 0 ≤ k → k < 3 → m 61 k < 2000000000) : gE l γ μX10_shut 8 2 12 (rI KK fun x ρ9 m9 => ρ = ρ9 ∧ MR m9 ∧ cdR Λ c r = 0 ∧ (shutB (s (26 + c)) r = b → x = 0 ∧ rfM m 1 = m9) ∧ (¬ (shutB (s (26 + c)) r = b) → x = 1 ∧ wr (actKeep m 44 39) 43 c (bXor (s (26 + c)) (bShl 1 r)) = m9)) (xC ρ m (cdR Λ c r)) KK ρ m [vR 1, vI c, vI r, vI b] := by
  refine gE.ofw cl_X10.2 ?_ rfl rfl (Nat.le_of_ble_eq_true rfl)
  show gT l γ μX10_shut 8 2 12 _ _ KK ρ m 0 [some (vR 1), some (vI c), some (vI r), some (vI b)] []
  have hn1 := hW.1
  have hn8 := hW.2.1
  have hld := hG.ld9
  refine tz_aload0 (n := 1) (g_at ck_X10_shut 0 rfl) rfl (g_ne kd_1) ?_
  refine tz_iload1 (n := 2) (g_at ck_X10_shut 1 rfl) rfl ?_
  refine tz_iload2 (n := 3) (g_at ck_X10_shut 2 rfl) rfl ?_
  refine tz_cvxV2 (n := 6) (μ' := μX10_needRoad) (cb' := 0) (sb' := 0) ml_X10_210 mo_X10_needRoad mv_X10_needRoad np_X10_needRoad kd_1 (g_at ck_X10_shut 3 rfl) (sp_needR ⟨hc.1, hc.2⟩ ⟨hr.1, hr.2⟩ hL hLn hS hR hW hG) rfl rfl rfl ⟨by decide, by decide⟩ (Nat.le_of_ble_eq_true rfl) (by decide) (by decide) (g_in (g_m5 (List.mem_of_getElem? (i := 54) rfl)) rfl) (fun E9 ρ9 m9 h9 => g_gX_out rfl h9.1 h9.2.1 h9.2.2) (fun ρ9 m3 hq => ?_)
  obtain ⟨rfl, hR1, rfl, hz3⟩ := hq
  have hc2 := cdR_0 hz3
  have hc3 := hW.2.2.1 c hc2.1 hc2.2.1
  have ha1 := sig0_WS_c hσ (c := c) (by omega)
  refine tz_aload0 (n := 7) (g_at ck_X10_shut 4 rfl) rfl (g_ne kd_1) ?_
  refine tz_getOv (n := 10) (a := 39) fk_X10_39 kd_1 (ly_1_6 hL) (g_at ck_X10_shut 5 rfl) rfl ?_
  refine tz_iload1 (n := 11) (g_at ck_X10_shut 6 rfl) rfl ?_
  refine tz_iload2 (n := 12) (g_at ck_X10_shut 7 rfl) rfl ?_
  refine tz_cvI2 (n := 15) (μ' := μX2_isShut) (cb' := 0) (sb' := 0) ml_X10_217 mo_X2_isShut mv_X2_isShut np_X2_isShut (isM_39 hL).k0 (g_at ck_X10_shut 8 rfl) (sp_isShut (isM_39 hL) hR1 (by omega)) rfl rfl rfl ⟨by decide, by decide⟩ (Nat.le_of_ble_eq_true rfl) (by decide) (by decide) (fun x12 ρ9 m12 hq => ?_)
  obtain ⟨rfl, hR2, rfl, rfl⟩ := hq
  rw [show m (39 + 4) c = s (26 + c) from nowS hN c (by omega)]
  have h01 := shutB_01 (s (26 + c)) r
  refine tz_iload3 (n := 16) (g_at ck_X10_shut 9 rfl) rfl ?_
  refine tz_icmp_ne (n := 19) (tgt := 27) (g_at ck_X10_shut 10 rfl) rfl rfl ⟨by omega, by omega, by omega, by omega⟩ (fun h16 => ?_) (fun h16 => ?_)
  · skip
    refine tz_aload0 (n := 28) (g_at ck_X10_shut 17 rfl) rfl (g_ne kd_1) ?_
    refine tz_getOv (n := 31) (a := 44) fk_X10_46 kd_1 (ly_1_7 hL) (g_at ck_X10_shut 18 rfl) rfl ?_
    refine tz_aload0 (n := 32) (g_at ck_X10_shut 19 rfl) rfl (g_ne kd_1) ?_
    refine tz_getOv (n := 35) (a := 39) fk_X10_39 kd_1 (ly_1_6 hL) (g_at ck_X10_shut 20 rfl) rfl ?_
    refine tz_cvV1 (n := 38) (μ' := μX0_keep) (cb' := 0) (sb' := 0) ml_X10_248 mo_X0_keep mv_X0_keep np_X0_keep (isA_44 hL).k0 (g_at ck_X10_shut 21 rfl) (sp_keep (isA_44 hL) (isM_39 hL) hR2 hA1 hA2) rfl rfl rfl ⟨by decide, by decide⟩ (Nat.le_of_ble_eq_true rfl) (by decide) (by decide) (fun ρ9 m35 hq => ?_)
    obtain ⟨rfl, hR3, rfl⟩ := hq
    refine tz_aload0 (n := 39) (g_at ck_X10_shut 22 rfl) rfl (g_ne kd_1) ?_
    refine tz_getOv (n := 42) (a := 39) fk_X10_39 kd_1 (ly_1_6 hL) (g_at ck_X10_shut 23 rfl) rfl ?_
    refine tz_getAv (n := 45) (a := 43) fk_X10_176 (isM_39 hL).k0 (isM_39 hL).r0_4 (g_at ck_X10_shut 24 rfl) rfl ?_
    refine tz_iload1 (n := 46) (g_at ck_X10_shut 25 rfl) rfl ?_
    refine tz_dup2 (n := 47) (g_at ck_X10_shut 26 rfl) rfl ?_
    refine tz_iald (n := 48) (isM_39 hL).k4 (by omega) (g_at ck_X10_shut 27 rfl) rfl ?_
    rw [show actKeep m 44 39 43 = m 43 by unfold actKeep; split <;> rw [wr_ne (by decide), momwr_ne (by decide)], nowS hN c (by omega)]
    refine tz_iconst (n := 49) (g_at ck_X10_shut 28 rfl) rfl ?_
    refine tz_iload2 (n := 50) (g_at ck_X10_shut 29 rfl) rfl ?_
    refine tz_ishl (n := 51) (g_at ck_X10_shut 30 rfl) rfl ?_
    refine tz_ixor (n := 52) (g_at ck_X10_shut 31 rfl) rfl ?_
    refine tz_iastr (n := 53) (isM_39 hL).k4 (by omega) (g_at ck_X10_shut 32 rfl) rfl hR3 ⟨(bXor_rg _ _).1, (bXor_rg _ _).2⟩ (fun hR4 => ?_)
    refine tz_iconst (n := 54) (g_at ck_X10_shut 33 rfl) rfl ?_
    exact tz_bret (g_at ck_X10_shut 34 rfl) rfl (by decide) (rI_mk ⟨rfl, hR4, hz3, fun h9 => absurd h9 h16, fun _ => ⟨rfl, rfl⟩⟩)
  · skip
    refine tz_aload0 (n := 20) (g_at ck_X10_shut 11 rfl) rfl (g_ne kd_1) ?_
    refine tz_iconst (n := 21) (g_at ck_X10_shut 12 rfl) rfl ?_
    refine tz_cvI1 (n := 24) (μ' := μX10_refuse) (cb' := 0) (sb' := 0) ml_X10_245 mo_X10_refuse mv_X10_refuse np_X10_refuse kd_1 (g_at ck_X10_shut 13 rfl) (sp_refuse hL hR2 (by decide) (hf _ (by decide) (by decide))) rfl rfl rfl ⟨by decide, by decide⟩ (Nat.le_of_ble_eq_true rfl) (by decide) (by decide) (fun x21 ρ9 m21 hq => ?_)
    obtain ⟨rfl, hR5, rfl, rfl⟩ := hq
    refine tz_popI (n := 25) (g_at ck_X10_shut 14 rfl) rfl ?_
    refine tz_iconst (n := 26) (g_at ck_X10_shut 15 rfl) rfl ?_
    exact tz_bret (g_at ck_X10_shut 16 rfl) rfl (by decide) (rI_mk ⟨rfl, hR5, hz3, fun _ => ⟨rfl, rfl⟩, fun h9 => absurd h16 h9⟩)
theorem sp_fill2 {l : Launch} {γ : Gh} {ρ m : Mm} {p y : Int} (hp : -2147483648 ≤ p ∧ p < 2147483648) (hy : -2147483648 ≤ y ∧ y < 2147483648) {ld : Int} {Λ : Mm} {hl tl : List Int} (hL : LY ρ) (hLn : ρ 1 3 = ld) (hS : isS ρ ld) (hR : MR m) (hW : WL Λ) (hG : LandC m ld Λ hl tl) {s : Int → Int} (hN : MomC m 39 s) (hσ : WS Λ 0 (sig0 s)) (hA1 : 0 ≤ m 44 1 ∧ m 44 1 < 40) (hA2 : 0 ≤ m 44 2 ∧ m 44 2 ≤ 40) (hf : ∀ k, 0 ≤ k → k < 3 → m 61 k < 2000000000) : gE l γ μX10_fill 8 2 12 (rI KK fun x ρ9 m9 => ρ = ρ9 ∧ MR m9 ∧ cdP Λ p = 0 ∧ ((y < 0 ∨ 99 < y ∨ y = s (9 + p)) → x = -1 ∧ rfM m 1 = m9) ∧ (¬ ((y < 0 ∨ 99 < y ∨ y = s (9 + p))) → s (9 + p) = x ∧ wr (actKeep m 44 39) 41 p y = m9)) (xC ρ m (cdP Λ p)) KK ρ m [vR 1, vI p, vI y] := by
  refine gE.ofw cl_X10.2 ?_ rfl rfl (Nat.le_of_ble_eq_true rfl)
  show gT l γ μX10_fill 8 2 12 _ _ KK ρ m 0 [some (vR 1), some (vI p), some (vI y), none] []
  have hn1 := hW.1
  have hn8 := hW.2.1
  have hld := hG.ld9
  refine tz_aload0 (n := 1) (g_at ck_X10_fill 0 rfl) rfl (g_ne kd_1) ?_
  refine tz_iload1 (n := 2) (g_at ck_X10_fill 1 rfl) rfl ?_
  refine tz_cvxV1 (n := 5) (μ' := μX10_needPerson) (cb' := 1) (sb' := 6) ml_X10_221 mo_X10_needPerson mv_X10_needPerson np_X10_needPerson kd_1 (g_at ck_X10_fill 2 rfl) (sp_needP ⟨hp.1, hp.2⟩ hL hLn hS hR hW hG) rfl rfl rfl ⟨by decide, by decide⟩ (Nat.le_of_ble_eq_true rfl) (by decide) (by decide) (g_in (g_m5 (List.mem_of_getElem? (i := 68) rfl)) rfl) (fun E9 ρ9 m9 h9 => g_gX_out rfl h9.1 h9.2.1 h9.2.2) (fun ρ9 m2 hq => ?_)
  obtain ⟨rfl, hR1, rfl, hz2⟩ := hq
  have hp2 := cdP_0 hz2
  have hp3 := sig0_WS_n hσ hp2
  refine tz_aload0 (n := 6) (g_at ck_X10_fill 3 rfl) rfl (g_ne kd_1) ?_
  refine tz_getOv (n := 9) (a := 39) fk_X10_39 kd_1 (ly_1_6 hL) (g_at ck_X10_fill 4 rfl) rfl ?_
  refine tz_getAv (n := 12) (a := 41) fk_X10_230 (isM_39 hL).k0 (isM_39 hL).r0_2 (g_at ck_X10_fill 5 rfl) rfl ?_
  refine tz_iload1 (n := 13) (g_at ck_X10_fill 6 rfl) rfl ?_
  refine tz_iald (n := 14) (isM_39 hL).k2 (by omega) (g_at ck_X10_fill 7 rfl) rfl ?_
  rw [nowP hN p (by omega)]
  refine tz_istore3 (n := 15) (g_at ck_X10_fill 8 rfl) rfl (by decide) g_hpI ?_
  refine tz_iload2 (n := 16) (g_at ck_X10_fill 9 rfl) rfl ?_
  refine tz_if_lt (n := 19) (tgt := 30) (g_at ck_X10_fill 10 rfl) rfl rfl ⟨hy.1, hy.2⟩ (fun h16 => ?_) (fun h16 => ?_)
  · skip
    refine tz_aload0 (n := 31) (g_at ck_X10_fill 17 rfl) rfl (g_ne kd_1) ?_
    refine tz_iconst (n := 32) (g_at ck_X10_fill 18 rfl) rfl ?_
    refine tz_cvI1 (n := 35) (μ' := μX10_refuse) (cb' := 1) (sb' := 6) ml_X10_245 mo_X10_refuse mv_X10_refuse np_X10_refuse kd_1 (g_at ck_X10_fill 19 rfl) (sp_refuse hL hR1 (by decide) (hf _ (by decide) (by decide))) rfl rfl rfl ⟨by decide, by decide⟩ (Nat.le_of_ble_eq_true rfl) (by decide) (by decide) (fun x32 ρ9 m32 hq => ?_)
    obtain ⟨rfl, hR2, rfl, rfl⟩ := hq
    exact tz_iret (g_at ck_X10_fill 20 rfl) rfl (rI_mk ⟨rfl, hR2, hz2, fun _ => ⟨rfl, rfl⟩, fun h9 => absurd (show y < 0 ∨ 99 < y ∨ y = s (9 + p) by omega) h9⟩)
  · skip
    refine tz_iload2 (n := 20) (g_at ck_X10_fill 11 rfl) rfl ?_
    refine tz_bipush (n := 22) (g_at ck_X10_fill 12 rfl) rfl rfl ?_
    refine tz_icmp_gt (n := 25) (tgt := 30) (g_at ck_X10_fill 13 rfl) rfl rfl ⟨hy.1, hy.2, (by decide), (by decide)⟩ (fun h22 => ?_) (fun h22 => ?_)
    · skip
      refine tz_aload0 (n := 31) (g_at ck_X10_fill 17 rfl) rfl (g_ne kd_1) ?_
      refine tz_iconst (n := 32) (g_at ck_X10_fill 18 rfl) rfl ?_
      refine tz_cvI1 (n := 35) (μ' := μX10_refuse) (cb' := 1) (sb' := 6) ml_X10_245 mo_X10_refuse mv_X10_refuse np_X10_refuse kd_1 (g_at ck_X10_fill 19 rfl) (sp_refuse hL hR1 (by decide) (hf _ (by decide) (by decide))) rfl rfl rfl ⟨by decide, by decide⟩ (Nat.le_of_ble_eq_true rfl) (by decide) (by decide) (fun x32 ρ9 m32 hq => ?_)
      obtain ⟨rfl, hR3, rfl, rfl⟩ := hq
      exact tz_iret (g_at ck_X10_fill 20 rfl) rfl (rI_mk ⟨rfl, hR3, hz2, fun _ => ⟨rfl, rfl⟩, fun h9 => absurd (show y < 0 ∨ 99 < y ∨ y = s (9 + p) by omega) h9⟩)
    · skip
      refine tz_iload2 (n := 26) (g_at ck_X10_fill 14 rfl) rfl ?_
      refine tz_iload3 (n := 27) (g_at ck_X10_fill 15 rfl) rfl ?_
      refine tz_icmp_ne (n := 30) (tgt := 36) (g_at ck_X10_fill 16 rfl) rfl rfl ⟨by omega, by omega, by omega, by omega⟩ (fun h27 => ?_) (fun h27 => ?_)
      · skip
        refine tz_aload0 (n := 37) (g_at ck_X10_fill 21 rfl) rfl (g_ne kd_1) ?_
        refine tz_getOv (n := 40) (a := 44) fk_X10_46 kd_1 (ly_1_7 hL) (g_at ck_X10_fill 22 rfl) rfl ?_
        refine tz_aload0 (n := 41) (g_at ck_X10_fill 23 rfl) rfl (g_ne kd_1) ?_
        refine tz_getOv (n := 44) (a := 39) fk_X10_39 kd_1 (ly_1_6 hL) (g_at ck_X10_fill 24 rfl) rfl ?_
        refine tz_cvV1 (n := 47) (μ' := μX0_keep) (cb' := 1) (sb' := 6) ml_X10_248 mo_X0_keep mv_X0_keep np_X0_keep (isA_44 hL).k0 (g_at ck_X10_fill 25 rfl) (sp_keep (isA_44 hL) (isM_39 hL) hR1 hA1 hA2) rfl rfl rfl ⟨by decide, by decide⟩ (Nat.le_of_ble_eq_true rfl) (by decide) (by decide) (fun ρ9 m44 hq => ?_)
        obtain ⟨rfl, hR4, rfl⟩ := hq
        refine tz_aload0 (n := 48) (g_at ck_X10_fill 26 rfl) rfl (g_ne kd_1) ?_
        refine tz_getOv (n := 51) (a := 39) fk_X10_39 kd_1 (ly_1_6 hL) (g_at ck_X10_fill 27 rfl) rfl ?_
        refine tz_getAv (n := 54) (a := 41) fk_X10_230 (isM_39 hL).k0 (isM_39 hL).r0_2 (g_at ck_X10_fill 28 rfl) rfl ?_
        refine tz_iload1 (n := 55) (g_at ck_X10_fill 29 rfl) rfl ?_
        refine tz_iload2 (n := 56) (g_at ck_X10_fill 30 rfl) rfl ?_
        refine tz_iastr (n := 57) (isM_39 hL).k2 (by omega) (g_at ck_X10_fill 31 rfl) rfl hR4 (by omega) (fun hR5 => ?_)
        refine tz_iload3 (n := 58) (g_at ck_X10_fill 32 rfl) rfl ?_
        exact tz_iret (g_at ck_X10_fill 33 rfl) rfl (rI_mk ⟨rfl, hR5, hz2, fun h9 => absurd h9 (show ¬ (y < 0 ∨ 99 < y ∨ y = s (9 + p)) by omega), fun _ => ⟨rfl, rfl⟩⟩)
      · skip
        refine tz_aload0 (n := 31) (g_at ck_X10_fill 17 rfl) rfl (g_ne kd_1) ?_
        refine tz_iconst (n := 32) (g_at ck_X10_fill 18 rfl) rfl ?_
        refine tz_cvI1 (n := 35) (μ' := μX10_refuse) (cb' := 1) (sb' := 6) ml_X10_245 mo_X10_refuse mv_X10_refuse np_X10_refuse kd_1 (g_at ck_X10_fill 19 rfl) (sp_refuse hL hR1 (by decide) (hf _ (by decide) (by decide))) rfl rfl rfl ⟨by decide, by decide⟩ (Nat.le_of_ble_eq_true rfl) (by decide) (by decide) (fun x32 ρ9 m32 hq => ?_)
        obtain ⟨rfl, hR6, rfl, rfl⟩ := hq
        exact tz_iret (g_at ck_X10_fill 20 rfl) rfl (rI_mk ⟨rfl, hR6, hz2, fun _ => ⟨rfl, rfl⟩, fun h9 => absurd (show y < 0 ∨ 99 < y ∨ y = s (9 + p) by omega) h9⟩)
theorem sp_set {l : Launch} {γ : Gh} {ρ m : Mm} {p c : Int} (hp : -2147483648 ≤ p ∧ p < 2147483648) (hc : -2147483648 ≤ c ∧ c < 2147483648) {ld : Int} {Λ : Mm} {hl tl : List Int} (hL : LY ρ) (hLn : ρ 1 3 = ld) (hS : isS ρ ld) (hR : MR m) (hW : WL Λ) (hG : LandC m ld Λ hl tl) {s : Int → Int} (hN : MomC m 39 s) (hσ : WS Λ 0 (sig0 s)) (hA1 : 0 ≤ m 44 1 ∧ m 44 1 < 40) (hA2 : 0 ≤ m 44 2 ∧ m 44 2 ≤ 40) (hf : ∀ k, 0 ≤ k → k < 3 → m 61 k < 2000000000) : gE l γ μX10_set 8 2 12 (rI KK fun x ρ9 m9 => ρ = ρ9 ∧ MR m9 ∧ sq (cdP Λ p) (cdC Λ c) = 0 ∧ (s (1 + p) = c → x = -1 ∧ rfM m 1 = m9) ∧ (¬ (s (1 + p) = c) → s (1 + p) = x ∧ wr (actKeep m 44 39) 40 p c = m9)) (xC ρ m (sq (cdP Λ p) (cdC Λ c))) KK ρ m [vR 1, vI p, vI c] := by
  refine gE.ofw cl_X10.2 ?_ rfl rfl (Nat.le_of_ble_eq_true rfl)
  show gT l γ μX10_set 8 2 12 _ _ KK ρ m 0 [some (vR 1), some (vI p), some (vI c), none] []
  have hn1 := hW.1
  have hn8 := hW.2.1
  have hld := hG.ld9
  refine tz_aload0 (n := 1) (g_at ck_X10_set 0 rfl) rfl (g_ne kd_1) ?_
  refine tz_iload1 (n := 2) (g_at ck_X10_set 1 rfl) rfl ?_
  refine tz_cvxV1 (n := 5) (μ' := μX10_needPerson) (cb' := 1) (sb' := 6) ml_X10_221 mo_X10_needPerson mv_X10_needPerson np_X10_needPerson kd_1 (g_at ck_X10_set 2 rfl) (sp_needP ⟨hp.1, hp.2⟩ hL hLn hS hR hW hG) rfl rfl rfl ⟨by decide, by decide⟩ (Nat.le_of_ble_eq_true rfl) (by decide) (by decide) (g_in (g_m5 (List.mem_of_getElem? (i := 68) rfl)) rfl) (fun E9 ρ9 m9 h9 => g_gX_out rfl h9.1 h9.2.1 (sq_1 h9.2.2)) (fun ρ9 m2 hq => ?_)
  obtain ⟨rfl, hR1, rfl, hz2⟩ := hq
  have hp2 := cdP_0 hz2
  have hp3 := sig0_WS_n hσ hp2
  refine tz_aload0 (n := 6) (g_at ck_X10_set 3 rfl) rfl (g_ne kd_1) ?_
  refine tz_iload2 (n := 7) (g_at ck_X10_set 4 rfl) rfl ?_
  refine tz_cvxV1 (n := 10) (μ' := μX10_needCrossing) (cb' := 0) (sb' := 0) ml_X10_185 mo_X10_needCrossing mv_X10_needCrossing np_X10_needCrossing kd_1 (g_at ck_X10_set 5 rfl) (sp_needC ⟨hc.1, hc.2⟩ hL hLn hS hR1 hW hG) rfl rfl rfl ⟨by decide, by decide⟩ (Nat.le_of_ble_eq_true rfl) (by decide) (by decide) (g_in (g_m5 (List.mem_of_getElem? (i := 41) rfl)) rfl) (fun E9 ρ9 m9 h9 => g_gX_out rfl h9.1 h9.2.1 (sq_2 hz2 h9.2.2)) (fun ρ9 m7 hq => ?_)
  obtain ⟨rfl, hR2, rfl, hz7⟩ := hq
  have hc2 := cdC_0 hz7
  refine tz_aload0 (n := 11) (g_at ck_X10_set 6 rfl) rfl (g_ne kd_1) ?_
  refine tz_getOv (n := 14) (a := 39) fk_X10_39 kd_1 (ly_1_6 hL) (g_at ck_X10_set 7 rfl) rfl ?_
  refine tz_getAv (n := 17) (a := 40) fk_X10_224 (isM_39 hL).k0 (isM_39 hL).r0_1 (g_at ck_X10_set 8 rfl) rfl ?_
  refine tz_iload1 (n := 18) (g_at ck_X10_set 9 rfl) rfl ?_
  refine tz_iald (n := 19) (isM_39 hL).k1 (by omega) (g_at ck_X10_set 10 rfl) rfl ?_
  rw [nowW hN p (by omega)]
  refine tz_istore3 (n := 20) (g_at ck_X10_set 11 rfl) rfl (by decide) g_hpI ?_
  refine tz_iload3 (n := 21) (g_at ck_X10_set 12 rfl) rfl ?_
  refine tz_iload2 (n := 22) (g_at ck_X10_set 13 rfl) rfl ?_
  refine tz_icmp_ne (n := 25) (tgt := 31) (g_at ck_X10_set 14 rfl) rfl rfl ⟨by omega, by omega, by omega, by omega⟩ (fun h22 => ?_) (fun h22 => ?_)
  · skip
    refine tz_aload0 (n := 32) (g_at ck_X10_set 19 rfl) rfl (g_ne kd_1) ?_
    refine tz_getOv (n := 35) (a := 44) fk_X10_46 kd_1 (ly_1_7 hL) (g_at ck_X10_set 20 rfl) rfl ?_
    refine tz_aload0 (n := 36) (g_at ck_X10_set 21 rfl) rfl (g_ne kd_1) ?_
    refine tz_getOv (n := 39) (a := 39) fk_X10_39 kd_1 (ly_1_6 hL) (g_at ck_X10_set 22 rfl) rfl ?_
    refine tz_cvV1 (n := 42) (μ' := μX0_keep) (cb' := 0) (sb' := 0) ml_X10_248 mo_X0_keep mv_X0_keep np_X0_keep (isA_44 hL).k0 (g_at ck_X10_set 23 rfl) (sp_keep (isA_44 hL) (isM_39 hL) hR2 hA1 hA2) rfl rfl rfl ⟨by decide, by decide⟩ (Nat.le_of_ble_eq_true rfl) (by decide) (by decide) (fun ρ9 m39 hq => ?_)
    obtain ⟨rfl, hR3, rfl⟩ := hq
    refine tz_aload0 (n := 43) (g_at ck_X10_set 24 rfl) rfl (g_ne kd_1) ?_
    refine tz_getOv (n := 46) (a := 39) fk_X10_39 kd_1 (ly_1_6 hL) (g_at ck_X10_set 25 rfl) rfl ?_
    refine tz_getAv (n := 49) (a := 40) fk_X10_224 (isM_39 hL).k0 (isM_39 hL).r0_1 (g_at ck_X10_set 26 rfl) rfl ?_
    refine tz_iload1 (n := 50) (g_at ck_X10_set 27 rfl) rfl ?_
    refine tz_iload2 (n := 51) (g_at ck_X10_set 28 rfl) rfl ?_
    refine tz_iastr (n := 52) (isM_39 hL).k1 (by omega) (g_at ck_X10_set 29 rfl) rfl hR3 (by omega) (fun hR4 => ?_)
    refine tz_iload3 (n := 53) (g_at ck_X10_set 30 rfl) rfl ?_
    exact tz_iret (g_at ck_X10_set 31 rfl) rfl (rI_mk ⟨rfl, hR4, sq_0 hz2 hz7, fun h9 => absurd h9 h22, fun _ => ⟨rfl, rfl⟩⟩)
  · skip
    refine tz_aload0 (n := 26) (g_at ck_X10_set 15 rfl) rfl (g_ne kd_1) ?_
    refine tz_iconst (n := 27) (g_at ck_X10_set 16 rfl) rfl ?_
    refine tz_cvI1 (n := 30) (μ' := μX10_refuse) (cb' := 0) (sb' := 0) ml_X10_245 mo_X10_refuse mv_X10_refuse np_X10_refuse kd_1 (g_at ck_X10_set 17 rfl) (sp_refuse hL hR2 (by decide) (hf _ (by decide) (by decide))) rfl rfl rfl ⟨by decide, by decide⟩ (Nat.le_of_ble_eq_true rfl) (by decide) (by decide) (fun x27 ρ9 m27 hq => ?_)
    obtain ⟨rfl, hR5, rfl, rfl⟩ := hq
    exact tz_iret (g_at ck_X10_set 18 rfl) rfl (rI_mk ⟨rfl, hR5, sq_0 hz2 hz7, fun _ => ⟨rfl, rfl⟩, fun h9 => absurd h22 h9⟩)
theorem sp_undo {l : Launch} {γ : Gh} {ρ m : Mm} (hL : LY ρ) (hR : MR m) (hA1 : 0 ≤ m 44 1 ∧ m 44 1 < 40) (hA2 : 0 ≤ m 44 2 ∧ m 44 2 ≤ 40) : gE l γ μX10_undo 4 0 0 (rI KK fun x ρ9 m9 => ρ = ρ9 ∧ MR m9 ∧ (m 44 2 = 0 → x = -1 ∧ m = m9) ∧ (¬ (m 44 2 = 0) → actBack m 44 39 44 2 = x ∧ actBack m 44 39 = m9)) xN KK ρ m [vR 1] := by
  refine gE.ofw cl_X10.2 ?_ rfl rfl (Nat.le_of_ble_eq_true rfl)
  show gT l γ μX10_undo 4 0 0 _ _ KK ρ m 0 [some (vR 1)] []
  refine tz_aload0 (n := 1) (g_at ck_X10_undo 0 rfl) rfl (g_ne kd_1) ?_
  refine tz_getOv (n := 4) (a := 44) fk_X10_46 kd_1 (ly_1_7 hL) (g_at ck_X10_undo 1 rfl) rfl ?_
  refine tz_getIw (n := 7) (kz := 2) fk_X10_172 (isA_44 hL).k0 (g_at ck_X10_undo 2 rfl) rfl rfl ?_
  refine tz_if_ne (n := 10) (tgt := 12) (g_at ck_X10_undo 3 rfl) rfl rfl (by omega) (fun h7 => ?_) (fun h7 => ?_)
  · skip
    refine tz_aload0 (n := 13) (g_at ck_X10_undo 6 rfl) rfl (g_ne kd_1) ?_
    refine tz_getOv (n := 16) (a := 44) fk_X10_46 kd_1 (ly_1_7 hL) (g_at ck_X10_undo 7 rfl) rfl ?_
    refine tz_aload0 (n := 17) (g_at ck_X10_undo 8 rfl) rfl (g_ne kd_1) ?_
    refine tz_getOv (n := 20) (a := 39) fk_X10_39 kd_1 (ly_1_6 hL) (g_at ck_X10_undo 9 rfl) rfl ?_
    refine tz_cvV1 (n := 23) (μ' := μX0_takeBack) (cb' := 0) (sb' := 0) ml_X10_261 mo_X0_takeBack mv_X0_takeBack np_X0_takeBack (isA_44 hL).k0 (g_at ck_X10_undo 10 rfl) (sp_takeBack (isA_44 hL) (isM_39 hL) hR hA1 hA2) rfl rfl rfl ⟨by decide, by decide⟩ (Nat.le_of_ble_eq_true rfl) (by decide) (by decide) (fun ρ9 m20 hq => ?_)
    obtain ⟨rfl, hR1, rfl⟩ := hq
    refine tz_aload0 (n := 24) (g_at ck_X10_undo 11 rfl) rfl (g_ne kd_1) ?_
    refine tz_getOv (n := 27) (a := 44) fk_X10_46 kd_1 (ly_1_7 hL) (g_at ck_X10_undo 12 rfl) rfl ?_
    refine tz_getIw (n := 30) (kz := 2) fk_X10_172 (isA_44 hL).k0 (g_at ck_X10_undo 13 rfl) rfl rfl ?_
    exact tz_iret (g_at ck_X10_undo 14 rfl) rfl (rI_mk ⟨rfl, hR1, fun h9 => absurd h9 h7, fun _ => ⟨rfl, rfl⟩⟩)
  · skip
    refine tz_iconst (n := 11) (g_at ck_X10_undo 4 rfl) rfl ?_
    exact tz_iret (g_at ck_X10_undo 5 rfl) rfl (rI_mk ⟨rfl, hR, fun _ => ⟨rfl, rfl⟩, fun h9 => absurd h7 h9⟩)
theorem sp_days {l : Launch} {γ : Gh} {ρ m : Mm} {n : Int} (hn : -2147483648 ≤ n ∧ n < 2147483648) {ld : Int} {Λ : Mm} {hl tl : List Int} (hL : LY ρ) (hLn : ρ 1 3 = ld) (hS : isS ρ ld) (hR : MR m) (hW : WL Λ) (hG : LandC m ld Λ hl tl) {s : Int → Int} (hN : MomC m 39 s) (hσ : WS Λ 0 (sig0 s)) (hA1 : 0 ≤ m 44 1 ∧ m 44 1 < 40) (hA2 : 0 ≤ m 44 2 ∧ m 44 2 ≤ 40) (hf : ∀ k, 0 ≤ k → k < 3 → m 61 k < 2000000000) (hNk : MomC (actKeep m 44 39) 39 s) (hGk : LandC (actKeep m 44 39) ld Λ hl tl) : gE l γ μX10_days 7 0 0 (rI KK fun x ρ9 m9 => qR ρ ρ9 ∧ MR m9 ∧ ((n < 1 ∨ 20 < n ∨ 9999 < s 0 + n) → x = -1 ∧ rfM m 1 = m9) ∧ (¬ (n < 1 ∨ 20 < n ∨ 9999 < s 0 + n) → (daysP Λ hl tl (sig0 s) n.toNat) 0 0 = x ∧ ∃ m1, TripC m1 (daysP Λ hl tl (sig0 s) n.toNat) ∧ Fr (trL ld) (actKeep m 44 39) m1 ∧ momcp m1 63 39 = m9)) xN KK ρ m [vR 1, vI n] := by
  refine gE.ofw cl_X10.2 ?_ rfl rfl (Nat.le_of_ble_eq_true rfl)
  show gT l γ μX10_days 7 0 0 _ _ KK ρ m 0 [some (vR 1), some (vI n)] []
  have hn1 := hW.1
  have hn8 := hW.2.1
  have hld := hG.ld9
  have hd0 : 0 ≤ s 0 ∧ s 0 ≤ 9999 + 0 := hσ.1
  refine tz_iload1 (n := 1) (g_at ck_X10_days 0 rfl) rfl ?_
  refine tz_iconst (n := 2) (g_at ck_X10_days 1 rfl) rfl ?_
  refine tz_icmp_lt (n := 5) (tgt := 26) (g_at ck_X10_days 2 rfl) rfl rfl ⟨hn.1, hn.2, (by decide), (by decide)⟩ (fun h2 => ?_) (fun h2 => ?_)
  · skip
    refine tz_aload0 (n := 27) (g_at ck_X10_days 13 rfl) rfl (g_ne kd_1) ?_
    refine tz_iconst (n := 28) (g_at ck_X10_days 14 rfl) rfl ?_
    refine tz_cvI1 (n := 31) (μ' := μX10_refuse) (cb' := 0) (sb' := 0) ml_X10_245 mo_X10_refuse mv_X10_refuse np_X10_refuse kd_1 (g_at ck_X10_days 15 rfl) (sp_refuse hL hR (by decide) (hf _ (by decide) (by decide))) rfl rfl rfl ⟨by decide, by decide⟩ (Nat.le_of_ble_eq_true rfl) (by decide) (by decide) (fun x28 ρ9 m28 hq => ?_)
    obtain ⟨rfl, hR1, rfl, rfl⟩ := hq
    exact tz_iret (g_at ck_X10_days 16 rfl) rfl (rI_mk ⟨qR.rf, hR1, fun _ => ⟨rfl, rfl⟩, fun h9 => absurd (show n < 1 ∨ 20 < n ∨ 9999 < s 0 + n by omega) h9⟩)
  · skip
    refine tz_iload1 (n := 6) (g_at ck_X10_days 3 rfl) rfl ?_
    refine tz_bipush (n := 8) (g_at ck_X10_days 4 rfl) rfl rfl ?_
    refine tz_icmp_gt (n := 11) (tgt := 26) (g_at ck_X10_days 5 rfl) rfl rfl ⟨hn.1, hn.2, (by decide), (by decide)⟩ (fun h8 => ?_) (fun h8 => ?_)
    · skip
      refine tz_aload0 (n := 27) (g_at ck_X10_days 13 rfl) rfl (g_ne kd_1) ?_
      refine tz_iconst (n := 28) (g_at ck_X10_days 14 rfl) rfl ?_
      refine tz_cvI1 (n := 31) (μ' := μX10_refuse) (cb' := 0) (sb' := 0) ml_X10_245 mo_X10_refuse mv_X10_refuse np_X10_refuse kd_1 (g_at ck_X10_days 15 rfl) (sp_refuse hL hR (by decide) (hf _ (by decide) (by decide))) rfl rfl rfl ⟨by decide, by decide⟩ (Nat.le_of_ble_eq_true rfl) (by decide) (by decide) (fun x28 ρ9 m28 hq => ?_)
      obtain ⟨rfl, hR2, rfl, rfl⟩ := hq
      exact tz_iret (g_at ck_X10_days 16 rfl) rfl (rI_mk ⟨qR.rf, hR2, fun _ => ⟨rfl, rfl⟩, fun h9 => absurd (show n < 1 ∨ 20 < n ∨ 9999 < s 0 + n by omega) h9⟩)
    · skip
      refine tz_aload0 (n := 12) (g_at ck_X10_days 6 rfl) rfl (g_ne kd_1) ?_
      refine tz_getOv (n := 15) (a := 39) fk_X10_39 kd_1 (ly_1_6 hL) (g_at ck_X10_days 7 rfl) rfl ?_
      refine tz_getIw (n := 18) (kz := 0) fk_X10_145 (isM_39 hL).k0 (g_at ck_X10_days 8 rfl) rfl rfl ?_
      refine tz_iload1 (n := 19) (g_at ck_X10_days 9 rfl) rfl ?_
      rw [nowD hN]
      refine tz_iadd (n := 20) (g_at ck_X10_days 10 rfl) rfl ?_
      refine tz_sipush (n := 23) (g_at ck_X10_days 11 rfl) rfl rfl ?_
      refine tz_icmp_le (n := 26) (tgt := 32) (g_at ck_X10_days 12 rfl) rfl rfl ⟨by omega, by omega, by decide, by decide⟩ (fun h23 => ?_) (fun h23 => ?_)
      · skip
        refine tz_aload0 (n := 33) (g_at ck_X10_days 17 rfl) rfl (g_ne kd_1) ?_
        refine tz_getOv (n := 36) (a := 44) fk_X10_46 kd_1 (ly_1_7 hL) (g_at ck_X10_days 18 rfl) rfl ?_
        refine tz_aload0 (n := 37) (g_at ck_X10_days 19 rfl) rfl (g_ne kd_1) ?_
        refine tz_getOv (n := 40) (a := 39) fk_X10_39 kd_1 (ly_1_6 hL) (g_at ck_X10_days 20 rfl) rfl ?_
        refine tz_cvV1 (n := 43) (μ' := μX0_keep) (cb' := 0) (sb' := 0) ml_X10_248 mo_X0_keep mv_X0_keep np_X0_keep (isA_44 hL).k0 (g_at ck_X10_days 21 rfl) (sp_keep (isA_44 hL) (isM_39 hL) hR hA1 hA2) rfl rfl rfl ⟨by decide, by decide⟩ (Nat.le_of_ble_eq_true rfl) (by decide) (by decide) (fun ρ9 m40 hq => ?_)
        obtain ⟨rfl, hR3, rfl⟩ := hq
        refine tz_aload0 (n := 44) (g_at ck_X10_days 22 rfl) rfl (g_ne kd_1) ?_
        refine tz_cvR0 (n := 47) (μ' := μX10_setOut) (cb' := 0) (sb' := 0) ml_X10_251 mo_X10_setOut mv_X10_setOut np_X10_setOut kd_1 (g_at ck_X10_days 23 rfl) (sp_setOut hL hLn hS hR3 hW hGk hNk) rfl rfl rfl ⟨by decide, by decide⟩ (Nat.le_of_ble_eq_true rfl) (by decide) (by decide) (fun x44 ρ9 m44 hq => ?_)
        obtain ⟨rfl, rfl, hR4, hT44, hF44⟩ := hq
        have hQ44 := hF44.sub (trL_be (ld := ld))
        have hG44 := hGk.fr (hF44.sub trL_be)
        have hL := LY_wr (r := 62) (k := 0) (x := ld) hL (by decide)
        have hLt : wr ρ 62 0 ld 62 0 = ld := wr_same
        have hLn : wr ρ 62 0 ld 1 3 = ld := (by rw [wr_ne (by decide)]; exact hLn)
        have hS : isS (wr ρ 62 0 ld) ld := isS_of hL hld
        have hqr44 := qR_62 (ρ := ρ) (x := ld)
        refine tz_iload1 (n := 48) (g_at ck_X10_days 24 rfl) rfl ?_
        refine tz_cvV1 (n := 51) (μ' := μX8_go) (cb' := 0) (sb' := 0) ml_X10_255 mo_X8_go mv_X8_go np_X8_go kd_62 (g_at ck_X10_days 25 rfl) (sp_go hL hLt hS hR4 hW hG44 hT44 hσ (by decide) (by omega)) rfl rfl rfl ⟨by decide, by decide⟩ (Nat.le_of_ble_eq_true rfl) (by decide) (by decide) (fun ρ9 m48 hq => ?_)
        obtain ⟨rfl, hR5, hT48, hF48⟩ := hq
        have hF48t := hQ44.tr hF48
        refine tz_aload0 (n := 52) (g_at ck_X10_days 26 rfl) rfl (g_ne kd_1) ?_
        refine tz_getOv (n := 55) (a := 39) fk_X10_39 kd_1 (ly_1_6 hL) (g_at ck_X10_days 27 rfl) rfl ?_
        refine tz_aload0 (n := 56) (g_at ck_X10_days 28 rfl) rfl (g_ne kd_1) ?_
        refine tz_getOv (n := 59) (a := 62) fk_X10_74 kd_1 (ly_1_14 hL) (g_at ck_X10_days 29 rfl) rfl ?_
        refine tz_getOv (n := 62) (a := 63) fk_X10_258 kd_62 (ly_62_1 hL) (g_at ck_X10_days 30 rfl) rfl ?_
        refine tz_cvV1 (n := 65) (μ' := μX2_copy) (cb' := 0) (sb' := 0) ml_X10_123 mo_X2_copy mv_X2_copy np_X2_copy (isM_39 hL).k0 (g_at ck_X10_days 31 rfl) (sp_momCopy (isM_39 hL) (isM_63 hL) hR5) rfl rfl rfl ⟨by decide, by decide⟩ (Nat.le_of_ble_eq_true rfl) (by decide) (by decide) (fun ρ9 m62 hq => ?_)
        obtain ⟨rfl, hR6, rfl⟩ := hq
        refine tz_aload0 (n := 66) (g_at ck_X10_days 32 rfl) rfl (g_ne kd_1) ?_
        refine tz_getOv (n := 69) (a := 39) fk_X10_39 kd_1 (ly_1_6 hL) (g_at ck_X10_days 33 rfl) rfl ?_
        skip
        refine tz_getIw (n := 72) (kz := 0) fk_X10_145 (isM_39 hL).k0 (g_at ck_X10_days 34 rfl) rfl rfl ?_
        rw [show momcp m48 63 39 39 0 = (daysP Λ hl tl (sig0 s) n.toNat) 0 0 by unfold momcp; rw [cpy_ne (by decide), cpy_ne (by decide), cpy_ne (by decide), cpy_ne (by decide), wr_same]; exact hT48.day]
        exact tz_iret (g_at ck_X10_days 35 rfl) rfl (rI_mk ⟨hqr44, hR6, fun h9 => absurd h9 (by omega), fun _ => ⟨rfl, m48, hT48, hF48t, rfl⟩⟩)
      · skip
        refine tz_aload0 (n := 27) (g_at ck_X10_days 13 rfl) rfl (g_ne kd_1) ?_
        refine tz_iconst (n := 28) (g_at ck_X10_days 14 rfl) rfl ?_
        refine tz_cvI1 (n := 31) (μ' := μX10_refuse) (cb' := 0) (sb' := 0) ml_X10_245 mo_X10_refuse mv_X10_refuse np_X10_refuse kd_1 (g_at ck_X10_days 15 rfl) (sp_refuse hL hR (by decide) (hf _ (by decide) (by decide))) rfl rfl rfl ⟨by decide, by decide⟩ (Nat.le_of_ble_eq_true rfl) (by decide) (by decide) (fun x28 ρ9 m28 hq => ?_)
        obtain ⟨rfl, hR7, rfl, rfl⟩ := hq
        exact tz_iret (g_at ck_X10_days 16 rfl) rfl (rI_mk ⟨qR.rf, hR7, fun _ => ⟨rfl, rfl⟩, fun h9 => absurd (show n < 1 ∨ 20 < n ∨ 9999 < s 0 + n by omega) h9⟩)
theorem sp_actClr9 {l : Launch} {γ : Gh} {ρ m : Mm} {q : Int} (hA : isA ρ q) (hR : MR m) : gE l γ μX0_clear 0 0 0 (rV KK fun ρ9 m9 => ρ = ρ9 ∧ MR m9 ∧ wr (wr m q 1 0) q 2 0 = m9) xN KK ρ m [vR q] := by
  refine gE.ofw cl_X0.2 ?_ rfl rfl (Nat.le_of_ble_eq_true rfl)
  show gT l γ μX0_clear 0 0 0 _ _ KK ρ m 0 [some (vR q)] []
  refine tz_aload0 (n := 1) (g_at ck_X0_clear 0 rfl) rfl (g_ne hA.k0) ?_
  refine tz_iconst (n := 2) (g_at ck_X0_clear 1 rfl) rfl ?_
  refine tz_putIr (n := 5) (kz := 1) fk_X0_17 hA.k0 (g_at ck_X0_clear 2 rfl) rfl hR ⟨(by decide), (by decide)⟩ rfl (fun hR1 => ?_)
  refine tz_aload0 (n := 6) (g_at ck_X0_clear 3 rfl) rfl (g_ne hA.k0) ?_
  refine tz_iconst (n := 7) (g_at ck_X0_clear 4 rfl) rfl ?_
  refine tz_putIr (n := 10) (kz := 2) fk_X0_21 hA.k0 (g_at ck_X0_clear 5 rfl) rfl hR1 ⟨(by decide), (by decide)⟩ rfl (fun hR2 => ?_)
  exact tz_vret (g_at ck_X0_clear 6 rfl) rfl (rV_mk ⟨rfl, hR2, rfl⟩)
theorem sp_seenClr9 {l : Launch} {γ : Gh} {ρ m : Mm} {e : Int} (hE : isE ρ e) (hR : MR m) : gE l γ μX5_clear 0 0 0 (rV KK fun ρ9 m9 => ρ = ρ9 ∧ MR m9 ∧ wr m e 3 0 = m9) xN KK ρ m [vR e] := by
  refine gE.ofw cl_X5.2 ?_ rfl rfl (Nat.le_of_ble_eq_true rfl)
  show gT l γ μX5_clear 0 0 0 _ _ KK ρ m 0 [some (vR e)] []
  refine tz_aload0 (n := 1) (g_at ck_X5_clear 0 rfl) rfl (g_ne hE.k0) ?_
  refine tz_iconst (n := 2) (g_at ck_X5_clear 1 rfl) rfl ?_
  refine tz_putIr (n := 5) (kz := 3) fk_X5_21 hE.k0 (g_at ck_X5_clear 2 rfl) rfl hR ⟨(by decide), (by decide)⟩ rfl (fun hR1 => ?_)
  exact tz_vret (g_at ck_X5_clear 3 rfl) rfl (rV_mk ⟨rfl, hR1, rfl⟩)
theorem sp_actCpy9 {l : Launch} {γ : Gh} {ρ m : Mm} {q o : Int} (hA : isA ρ q) (hO : isA ρ o) (hR : MR m) (hd : o ≠ q ∧ o ≠ q + 1) : gE l γ μX0_copy 2 0 0 (rV KK fun ρ9 m9 => ρ = ρ9 ∧ MR m9 ∧ actcp m o q = m9) xN KK ρ m [vR q, vR o] := by
  refine gE.ofw cl_X0.2 ?_ rfl rfl (Nat.le_of_ble_eq_true rfl)
  show gT l γ μX0_copy 2 0 0 _ _ KK ρ m 0 [some (vR q), some (vR o)] []
  refine tz_aload1 (n := 1) (g_at ck_X0_copy 0 rfl) rfl (g_ne hO.k0) ?_
  refine tz_getAv (n := 4) (a := (o + 1)) fk_X0_11 hO.k0 hO.r0_0 (g_at ck_X0_copy 1 rfl) rfl ?_
  refine tz_iconst (n := 5) (g_at ck_X0_copy 2 rfl) rfl ?_
  refine tz_aload0 (n := 6) (g_at ck_X0_copy 3 rfl) rfl (g_ne hA.k0) ?_
  refine tz_getAv (n := 9) (a := (q + 1)) fk_X0_11 hA.k0 hA.r0_0 (g_at ck_X0_copy 4 rfl) rfl ?_
  refine tz_iconst (n := 10) (g_at ck_X0_copy 5 rfl) rfl ?_
  refine tz_aload0 (n := 11) (g_at ck_X0_copy 6 rfl) rfl (g_ne hA.k0) ?_
  refine tz_getAv (n := 14) (a := (q + 1)) fk_X0_11 hA.k0 hA.r0_0 (g_at ck_X0_copy 7 rfl) rfl ?_
  refine tz_alen (n := 15) hA.k1 (g_at ck_X0_copy 8 rfl) rfl ?_
  refine tz_acopyr (n := 18) cp_X0_31 hO.k1 hA.k1 (by omega) (g_at ck_X0_copy 9 rfl) rfl (by decide) (Nat.le_of_ble_eq_true rfl) hR (fun hR1 => ?_)
  refine tz_aload0 (n := 19) (g_at ck_X0_copy 10 rfl) rfl (g_ne hA.k0) ?_
  refine tz_aload1 (n := 20) (g_at ck_X0_copy 11 rfl) rfl (g_ne hO.k0) ?_
  refine tz_getIw (n := 23) (kz := 1) fk_X0_17 hO.k0 (g_at ck_X0_copy 12 rfl) rfl rfl ?_
  rw [cpy_ne hd.2]
  refine tz_putIr (n := 26) (kz := 1) fk_X0_17 hA.k0 (g_at ck_X0_copy 13 rfl) rfl hR1 (hR _ _) rfl (fun hR2 => ?_)
  refine tz_aload0 (n := 27) (g_at ck_X0_copy 14 rfl) rfl (g_ne hA.k0) ?_
  refine tz_aload1 (n := 28) (g_at ck_X0_copy 15 rfl) rfl (g_ne hO.k0) ?_
  refine tz_getIw (n := 31) (kz := 2) fk_X0_21 hO.k0 (g_at ck_X0_copy 16 rfl) rfl rfl ?_
  rw [wr_ne hd.1, cpy_ne hd.2]
  refine tz_putIr (n := 34) (kz := 2) fk_X0_21 hA.k0 (g_at ck_X0_copy 17 rfl) rfl hR2 (hR _ _) rfl (fun hR3 => ?_)
  exact tz_vret (g_at ck_X0_copy 18 rfl) rfl (rV_mk ⟨rfl, hR3, rfl⟩)
theorem sp_seenCpy9 {l : Launch} {γ : Gh} {ρ m : Mm} {e o : Int} (hE : isE ρ e) (hO : isE ρ o) (hR : MR m) (hd : o ≠ e + 1 ∧ o ≠ e + 2 ∧ o ≠ e + 3) : gE l γ μX5_copy 2 0 0 (rV KK fun ρ9 m9 => ρ = ρ9 ∧ MR m9 ∧ sencp m o e = m9) xN KK ρ m [vR e, vR o] := by
  refine gE.ofw cl_X5.2 ?_ rfl rfl (Nat.le_of_ble_eq_true rfl)
  show gT l γ μX5_copy 2 0 0 _ _ KK ρ m 0 [some (vR e), some (vR o)] []
  refine tz_aload1 (n := 1) (g_at ck_X5_copy 0 rfl) rfl (g_ne hO.k0) ?_
  refine tz_getAv (n := 4) (a := (o + 1)) fk_X5_9 hO.k0 hO.r0_0 (g_at ck_X5_copy 1 rfl) rfl ?_
  refine tz_iconst (n := 5) (g_at ck_X5_copy 2 rfl) rfl ?_
  refine tz_aload0 (n := 6) (g_at ck_X5_copy 3 rfl) rfl (g_ne hE.k0) ?_
  refine tz_getAv (n := 9) (a := (e + 1)) fk_X5_9 hE.k0 hE.r0_0 (g_at ck_X5_copy 4 rfl) rfl ?_
  refine tz_iconst (n := 10) (g_at ck_X5_copy 5 rfl) rfl ?_
  refine tz_bipush (n := 12) (g_at ck_X5_copy 6 rfl) rfl rfl ?_
  refine tz_acopyr (n := 15) cp_X5_25 hO.k1 hE.k1 (by omega) (g_at ck_X5_copy 7 rfl) rfl (by decide) (Nat.le_of_ble_eq_true rfl) hR (fun hR1 => ?_)
  refine tz_aload1 (n := 16) (g_at ck_X5_copy 8 rfl) rfl (g_ne hO.k0) ?_
  refine tz_getAv (n := 19) (a := (o + 2)) fk_X5_15 hO.k0 hO.r0_1 (g_at ck_X5_copy 9 rfl) rfl ?_
  refine tz_iconst (n := 20) (g_at ck_X5_copy 10 rfl) rfl ?_
  refine tz_aload0 (n := 21) (g_at ck_X5_copy 11 rfl) rfl (g_ne hE.k0) ?_
  refine tz_getAv (n := 24) (a := (e + 2)) fk_X5_15 hE.k0 hE.r0_1 (g_at ck_X5_copy 12 rfl) rfl ?_
  refine tz_iconst (n := 25) (g_at ck_X5_copy 13 rfl) rfl ?_
  refine tz_bipush (n := 27) (g_at ck_X5_copy 14 rfl) rfl rfl ?_
  refine tz_acopyr (n := 30) cp_X5_25 hO.k2 hE.k2 (by omega) (g_at ck_X5_copy 15 rfl) rfl (by decide) (Nat.le_of_ble_eq_true rfl) hR1 (fun hR2 => ?_)
  refine tz_aload1 (n := 31) (g_at ck_X5_copy 16 rfl) rfl (g_ne hO.k0) ?_
  refine tz_getAv (n := 34) (a := (o + 3)) fk_X5_18 hO.k0 hO.r0_2 (g_at ck_X5_copy 17 rfl) rfl ?_
  refine tz_iconst (n := 35) (g_at ck_X5_copy 18 rfl) rfl ?_
  refine tz_aload0 (n := 36) (g_at ck_X5_copy 19 rfl) rfl (g_ne hE.k0) ?_
  refine tz_getAv (n := 39) (a := (e + 3)) fk_X5_18 hE.k0 hE.r0_2 (g_at ck_X5_copy 20 rfl) rfl ?_
  refine tz_iconst (n := 40) (g_at ck_X5_copy 21 rfl) rfl ?_
  refine tz_bipush (n := 42) (g_at ck_X5_copy 22 rfl) rfl rfl ?_
  refine tz_acopyr (n := 45) cp_X5_25 hO.k3 hE.k3 (by omega) (g_at ck_X5_copy 23 rfl) rfl (by decide) (Nat.le_of_ble_eq_true rfl) hR2 (fun hR3 => ?_)
  refine tz_aload0 (n := 46) (g_at ck_X5_copy 24 rfl) rfl (g_ne hE.k0) ?_
  refine tz_aload1 (n := 47) (g_at ck_X5_copy 25 rfl) rfl (g_ne hO.k0) ?_
  refine tz_getIw (n := 50) (kz := 3) fk_X5_21 hO.k0 (g_at ck_X5_copy 26 rfl) rfl rfl ?_
  rw [cpy_ne hd.2.2, cpy_ne hd.2.1, cpy_ne hd.1]
  refine tz_putIr (n := 53) (kz := 3) fk_X5_21 hE.k0 (g_at ck_X5_copy 27 rfl) rfl hR3 (hR _ _) rfl (fun hR4 => ?_)
  exact tz_vret (g_at ck_X5_copy 28 rfl) rfl (rV_mk ⟨rfl, hR4, rfl⟩)
theorem sp_forget {l : Launch} {γ : Gh} {ρ m : Mm} (hL : LY ρ) (hR : MR m) : gE l γ μX10_forget 1 0 0 (rV KK fun ρ9 m9 => ρ = ρ9 ∧ MR m9 ∧ wr m 46 3 0 = m9) xN KK ρ m [vR 1] := by
  refine gE.ofw cl_X10.2 ?_ rfl rfl (Nat.le_of_ble_eq_true rfl)
  show gT l γ μX10_forget 1 0 0 _ _ KK ρ m 0 [some (vR 1)] []
  refine tz_aload0 (n := 1) (g_at ck_X10_forget 0 rfl) rfl (g_ne kd_1) ?_
  refine tz_getOv (n := 4) (a := 46) fk_X10_53 kd_1 (ly_1_8 hL) (g_at ck_X10_forget 1 rfl) rfl ?_
  refine tz_cvV0 (n := 7) (μ' := μX5_clear) (cb' := 0) (sb' := 0) ml_X10_130 mo_X5_clear mv_X5_clear np_X5_clear (isE_46 hL).k0 (g_at ck_X10_forget 2 rfl) (sp_seenClr9 (isE_46 hL) hR) rfl rfl rfl ⟨by decide, by decide⟩ (Nat.le_of_ble_eq_true rfl) (by decide) (by decide) (fun ρ9 m4 hq => ?_)
  obtain ⟨rfl, hR1, rfl⟩ := hq
  exact tz_vret (g_at ck_X10_forget 3 rfl) rfl (rV_mk ⟨rfl, hR1, rfl⟩)
theorem sp_image {l : Launch} {γ : Gh} {ρ m : Mm} (hL : LY ρ) (hR : MR m) : gE l γ μX10_image 3 0 0 (rV KK fun ρ9 m9 => ρ = ρ9 ∧ MR m9 ∧ wr (sencp (actcp (momcp m 39 50) 44 55) 46 57) 1 9 1 = m9) xN KK ρ m [vR 1] := by
  refine gE.ofw cl_X10.2 ?_ rfl rfl (Nat.le_of_ble_eq_true rfl)
  show gT l γ μX10_image 3 0 0 _ _ KK ρ m 0 [some (vR 1)] []
  refine tz_aload0 (n := 1) (g_at ck_X10_image 0 rfl) rfl (g_ne kd_1) ?_
  refine tz_getOv (n := 4) (a := 50) fk_X10_57 kd_1 (ly_1_10 hL) (g_at ck_X10_image 1 rfl) rfl ?_
  refine tz_aload0 (n := 5) (g_at ck_X10_image 2 rfl) rfl (g_ne kd_1) ?_
  refine tz_getOv (n := 8) (a := 39) fk_X10_39 kd_1 (ly_1_6 hL) (g_at ck_X10_image 3 rfl) rfl ?_
  refine tz_cvV1 (n := 11) (μ' := μX2_copy) (cb' := 0) (sb' := 0) ml_X10_123 mo_X2_copy mv_X2_copy np_X2_copy (isM_50 hL).k0 (g_at ck_X10_image 4 rfl) (sp_momCopy (isM_50 hL) (isM_39 hL) hR) rfl rfl rfl ⟨by decide, by decide⟩ (Nat.le_of_ble_eq_true rfl) (by decide) (by decide) (fun ρ9 m8 hq => ?_)
  obtain ⟨rfl, hR1, rfl⟩ := hq
  refine tz_aload0 (n := 12) (g_at ck_X10_image 5 rfl) rfl (g_ne kd_1) ?_
  refine tz_getOv (n := 15) (a := 55) fk_X10_60 kd_1 (ly_1_11 hL) (g_at ck_X10_image 6 rfl) rfl ?_
  refine tz_aload0 (n := 16) (g_at ck_X10_image 7 rfl) rfl (g_ne kd_1) ?_
  refine tz_getOv (n := 19) (a := 44) fk_X10_46 kd_1 (ly_1_7 hL) (g_at ck_X10_image 8 rfl) rfl ?_
  refine tz_cvV1 (n := 22) (μ' := μX0_copy) (cb' := 0) (sb' := 0) ml_X10_264 mo_X0_copy mv_X0_copy np_X0_copy (isA_55 hL).k0 (g_at ck_X10_image 9 rfl) (sp_actCpy9 (isA_55 hL) (isA_44 hL) hR1 (by decide)) rfl rfl rfl ⟨by decide, by decide⟩ (Nat.le_of_ble_eq_true rfl) (by decide) (by decide) (fun ρ9 m19 hq => ?_)
  obtain ⟨rfl, hR2, rfl⟩ := hq
  refine tz_aload0 (n := 23) (g_at ck_X10_image 10 rfl) rfl (g_ne kd_1) ?_
  refine tz_getOv (n := 26) (a := 57) fk_X10_63 kd_1 (ly_1_12 hL) (g_at ck_X10_image 11 rfl) rfl ?_
  refine tz_aload0 (n := 27) (g_at ck_X10_image 12 rfl) rfl (g_ne kd_1) ?_
  refine tz_getOv (n := 30) (a := 46) fk_X10_53 kd_1 (ly_1_8 hL) (g_at ck_X10_image 13 rfl) rfl ?_
  refine tz_cvV1 (n := 33) (μ' := μX5_copy) (cb' := 0) (sb' := 0) ml_X10_267 mo_X5_copy mv_X5_copy np_X5_copy (isE_57 hL).k0 (g_at ck_X10_image 14 rfl) (sp_seenCpy9 (isE_57 hL) (isE_46 hL) hR2 (by decide)) rfl rfl rfl ⟨by decide, by decide⟩ (Nat.le_of_ble_eq_true rfl) (by decide) (by decide) (fun ρ9 m30 hq => ?_)
  obtain ⟨rfl, hR3, rfl⟩ := hq
  refine tz_aload0 (n := 34) (g_at ck_X10_image 15 rfl) rfl (g_ne kd_1) ?_
  refine tz_iconst (n := 35) (g_at ck_X10_image 16 rfl) rfl ?_
  refine tz_putZr (n := 38) (kz := 9) fk_X10_131 kd_1 (g_at ck_X10_image 17 rfl) rfl hR3 (by omega) rfl (fun hR4 => ?_)
  exact tz_vret (g_at ck_X10_image 18 rfl) rfl (rV_mk ⟨rfl, hR4, rfl⟩)
theorem sp_restore {l : Launch} {γ : Gh} {ρ m : Mm} (hL : LY ρ) (hR : MR m) : gE l γ μX10_restore 3 0 0 (rI KK fun x ρ9 m9 => ρ = ρ9 ∧ MR m9 ∧ (m 1 9 = 0 → x = 0 ∧ m = m9) ∧ (¬ (m 1 9 = 0) → x = 1 ∧ (sencp (actcp (momcp m 50 39) 55 44) 57 46) = m9)) xN KK ρ m [vR 1] := by
  refine gE.ofw cl_X10.2 ?_ rfl rfl (Nat.le_of_ble_eq_true rfl)
  show gT l γ μX10_restore 3 0 0 _ _ KK ρ m 0 [some (vR 1)] []
  refine tz_aload0 (n := 1) (g_at ck_X10_restore 0 rfl) rfl (g_ne kd_1) ?_
  refine tz_getZw (n := 4) (kz := 9) fk_X10_131 kd_1 (g_at ck_X10_restore 1 rfl) rfl rfl ?_
  refine tz_if_ne (n := 7) (tgt := 9) (g_at ck_X10_restore 2 rfl) rfl rfl (hR _ _) (fun h4 => ?_) (fun h4 => ?_)
  · skip
    refine tz_aload0 (n := 10) (g_at ck_X10_restore 5 rfl) rfl (g_ne kd_1) ?_
    refine tz_getOv (n := 13) (a := 39) fk_X10_39 kd_1 (ly_1_6 hL) (g_at ck_X10_restore 6 rfl) rfl ?_
    refine tz_aload0 (n := 14) (g_at ck_X10_restore 7 rfl) rfl (g_ne kd_1) ?_
    refine tz_getOv (n := 17) (a := 50) fk_X10_57 kd_1 (ly_1_10 hL) (g_at ck_X10_restore 8 rfl) rfl ?_
    refine tz_cvV1 (n := 20) (μ' := μX2_copy) (cb' := 0) (sb' := 0) ml_X10_123 mo_X2_copy mv_X2_copy np_X2_copy (isM_39 hL).k0 (g_at ck_X10_restore 9 rfl) (sp_momCopy (isM_39 hL) (isM_50 hL) hR) rfl rfl rfl ⟨by decide, by decide⟩ (Nat.le_of_ble_eq_true rfl) (by decide) (by decide) (fun ρ9 m17 hq => ?_)
    obtain ⟨rfl, hR1, rfl⟩ := hq
    refine tz_aload0 (n := 21) (g_at ck_X10_restore 10 rfl) rfl (g_ne kd_1) ?_
    refine tz_getOv (n := 24) (a := 44) fk_X10_46 kd_1 (ly_1_7 hL) (g_at ck_X10_restore 11 rfl) rfl ?_
    refine tz_aload0 (n := 25) (g_at ck_X10_restore 12 rfl) rfl (g_ne kd_1) ?_
    refine tz_getOv (n := 28) (a := 55) fk_X10_60 kd_1 (ly_1_11 hL) (g_at ck_X10_restore 13 rfl) rfl ?_
    refine tz_cvV1 (n := 31) (μ' := μX0_copy) (cb' := 0) (sb' := 0) ml_X10_264 mo_X0_copy mv_X0_copy np_X0_copy (isA_44 hL).k0 (g_at ck_X10_restore 14 rfl) (sp_actCpy9 (isA_44 hL) (isA_55 hL) hR1 (by decide)) rfl rfl rfl ⟨by decide, by decide⟩ (Nat.le_of_ble_eq_true rfl) (by decide) (by decide) (fun ρ9 m28 hq => ?_)
    obtain ⟨rfl, hR2, rfl⟩ := hq
    refine tz_aload0 (n := 32) (g_at ck_X10_restore 15 rfl) rfl (g_ne kd_1) ?_
    refine tz_getOv (n := 35) (a := 46) fk_X10_53 kd_1 (ly_1_8 hL) (g_at ck_X10_restore 16 rfl) rfl ?_
    refine tz_aload0 (n := 36) (g_at ck_X10_restore 17 rfl) rfl (g_ne kd_1) ?_
    refine tz_getOv (n := 39) (a := 57) fk_X10_63 kd_1 (ly_1_12 hL) (g_at ck_X10_restore 18 rfl) rfl ?_
    refine tz_cvV1 (n := 42) (μ' := μX5_copy) (cb' := 0) (sb' := 0) ml_X10_267 mo_X5_copy mv_X5_copy np_X5_copy (isE_46 hL).k0 (g_at ck_X10_restore 19 rfl) (sp_seenCpy9 (isE_46 hL) (isE_57 hL) hR2 (by decide)) rfl rfl rfl ⟨by decide, by decide⟩ (Nat.le_of_ble_eq_true rfl) (by decide) (by decide) (fun ρ9 m39 hq => ?_)
    obtain ⟨rfl, hR3, rfl⟩ := hq
    refine tz_iconst (n := 43) (g_at ck_X10_restore 20 rfl) rfl ?_
    exact tz_bret (g_at ck_X10_restore 21 rfl) rfl (by decide) (rI_mk ⟨rfl, hR3, fun h9 => absurd h9 h4, fun _ => ⟨rfl, rfl⟩⟩)
  · skip
    refine tz_iconst (n := 8) (g_at ck_X10_restore 3 rfl) rfl ?_
    exact tz_bret (g_at ck_X10_restore 4 rfl) rfl (by decide) (rI_mk ⟨rfl, hR, fun _ => ⟨rfl, rfl⟩, fun h9 => absurd h4 h9⟩)
theorem sp_see {l : Launch} {γ : Gh} {ρ m : Mm} {p c n : Int} (hp : -2147483648 ≤ p ∧ p < 2147483648) (hc : -2147483648 ≤ c ∧ c < 2147483648) (hn : -2147483648 ≤ n ∧ n < 2147483648) {ld : Int} {Λ : Mm} {hl tl : List Int} (hL : LY ρ) (hLn : ρ 1 3 = ld) (hS : isS ρ ld) (hR : MR m) (hW : WL Λ) (hG : LandC m ld Λ hl tl) {s : Int → Int} (hN : MomC m 39 s) (hσ : WS Λ 0 (sig0 s)) (hf : ∀ k, 0 ≤ k → k < 3 → m 61 k < 2000000000) (hE3 : 0 ≤ m 46 3 ∧ m 46 3 ≤ 8) : gE l γ μX10_see 7 2 12 (rI KK fun x ρ9 m9 => ρ = ρ9 ∧ MR m9 ∧ sq (cdP Λ p) (cdC Λ c) = 0 ∧ ((8 ≤ m 46 3 ∨ n < 0 ∨ 20 < n) → x = -1 ∧ rfM m 2 = m9) ∧ (¬ ((8 ≤ m 46 3 ∨ n < 0 ∨ 20 < n)) → m 46 3 + 1 = x ∧ wr (wr (wr (wr m 47 (m 46 3) p) 48 (m 46 3) c) 49 (m 46 3) n) 46 3 (m 46 3 + 1) = m9)) (xC ρ m (sq (cdP Λ p) (cdC Λ c))) KK ρ m [vR 1, vI p, vI c, vI n] := by
  refine gE.ofw cl_X10.2 ?_ rfl rfl (Nat.le_of_ble_eq_true rfl)
  show gT l γ μX10_see 7 2 12 _ _ KK ρ m 0 [some (vR 1), some (vI p), some (vI c), some (vI n)] []
  have hn1 := hW.1
  have hn8 := hW.2.1
  have hld := hG.ld9
  refine tz_aload0 (n := 1) (g_at ck_X10_see 0 rfl) rfl (g_ne kd_1) ?_
  refine tz_iload1 (n := 2) (g_at ck_X10_see 1 rfl) rfl ?_
  refine tz_cvxV1 (n := 5) (μ' := μX10_needPerson) (cb' := 1) (sb' := 6) ml_X10_221 mo_X10_needPerson mv_X10_needPerson np_X10_needPerson kd_1 (g_at ck_X10_see 2 rfl) (sp_needP ⟨hp.1, hp.2⟩ hL hLn hS hR hW hG) rfl rfl rfl ⟨by decide, by decide⟩ (Nat.le_of_ble_eq_true rfl) (by decide) (by decide) (g_in (g_m5 (List.mem_of_getElem? (i := 68) rfl)) rfl) (fun E9 ρ9 m9 h9 => g_gX_out rfl h9.1 h9.2.1 (sq_1 h9.2.2)) (fun ρ9 m2 hq => ?_)
  obtain ⟨rfl, hR1, rfl, hz2⟩ := hq
  have hp2 := cdP_0 hz2
  refine tz_aload0 (n := 6) (g_at ck_X10_see 3 rfl) rfl (g_ne kd_1) ?_
  refine tz_iload2 (n := 7) (g_at ck_X10_see 4 rfl) rfl ?_
  refine tz_cvxV1 (n := 10) (μ' := μX10_needCrossing) (cb' := 0) (sb' := 0) ml_X10_185 mo_X10_needCrossing mv_X10_needCrossing np_X10_needCrossing kd_1 (g_at ck_X10_see 5 rfl) (sp_needC ⟨hc.1, hc.2⟩ hL hLn hS hR1 hW hG) rfl rfl rfl ⟨by decide, by decide⟩ (Nat.le_of_ble_eq_true rfl) (by decide) (by decide) (g_in (g_m5 (List.mem_of_getElem? (i := 41) rfl)) rfl) (fun E9 ρ9 m9 h9 => g_gX_out rfl h9.1 h9.2.1 (sq_2 hz2 h9.2.2)) (fun ρ9 m7 hq => ?_)
  obtain ⟨rfl, hR2, rfl, hz7⟩ := hq
  have hc2 := cdC_0 hz7
  refine tz_aload0 (n := 11) (g_at ck_X10_see 6 rfl) rfl (g_ne kd_1) ?_
  refine tz_getOv (n := 14) (a := 46) fk_X10_53 kd_1 (ly_1_8 hL) (g_at ck_X10_see 7 rfl) rfl ?_
  refine tz_getIw (n := 17) (kz := 3) fk_X10_175 (isE_46 hL).k0 (g_at ck_X10_see 8 rfl) rfl rfl ?_
  refine tz_bipush (n := 19) (g_at ck_X10_see 9 rfl) rfl rfl ?_
  refine tz_icmp_ge (n := 22) (tgt := 32) (g_at ck_X10_see 10 rfl) rfl rfl ⟨by omega, by omega, by decide, by decide⟩ (fun h19 => ?_) (fun h19 => ?_)
  · skip
    refine tz_aload0 (n := 33) (g_at ck_X10_see 16 rfl) rfl (g_ne kd_1) ?_
    refine tz_iconst (n := 34) (g_at ck_X10_see 17 rfl) rfl ?_
    refine tz_cvI1 (n := 37) (μ' := μX10_refuse) (cb' := 0) (sb' := 0) ml_X10_245 mo_X10_refuse mv_X10_refuse np_X10_refuse kd_1 (g_at ck_X10_see 18 rfl) (sp_refuse hL hR2 (by decide) (hf _ (by decide) (by decide))) rfl rfl rfl ⟨by decide, by decide⟩ (Nat.le_of_ble_eq_true rfl) (by decide) (by decide) (fun x34 ρ9 m34 hq => ?_)
    obtain ⟨rfl, hR3, rfl, rfl⟩ := hq
    exact tz_iret (g_at ck_X10_see 19 rfl) rfl (rI_mk ⟨rfl, hR3, sq_0 hz2 hz7, fun _ => ⟨rfl, rfl⟩, fun h9 => absurd (show 8 ≤ m 46 3 ∨ n < 0 ∨ 20 < n by omega) h9⟩)
  · skip
    refine tz_iload3 (n := 23) (g_at ck_X10_see 11 rfl) rfl ?_
    refine tz_if_lt (n := 26) (tgt := 32) (g_at ck_X10_see 12 rfl) rfl rfl ⟨hn.1, hn.2⟩ (fun h23 => ?_) (fun h23 => ?_)
    · skip
      refine tz_aload0 (n := 33) (g_at ck_X10_see 16 rfl) rfl (g_ne kd_1) ?_
      refine tz_iconst (n := 34) (g_at ck_X10_see 17 rfl) rfl ?_
      refine tz_cvI1 (n := 37) (μ' := μX10_refuse) (cb' := 0) (sb' := 0) ml_X10_245 mo_X10_refuse mv_X10_refuse np_X10_refuse kd_1 (g_at ck_X10_see 18 rfl) (sp_refuse hL hR2 (by decide) (hf _ (by decide) (by decide))) rfl rfl rfl ⟨by decide, by decide⟩ (Nat.le_of_ble_eq_true rfl) (by decide) (by decide) (fun x34 ρ9 m34 hq => ?_)
      obtain ⟨rfl, hR4, rfl, rfl⟩ := hq
      exact tz_iret (g_at ck_X10_see 19 rfl) rfl (rI_mk ⟨rfl, hR4, sq_0 hz2 hz7, fun _ => ⟨rfl, rfl⟩, fun h9 => absurd (show 8 ≤ m 46 3 ∨ n < 0 ∨ 20 < n by omega) h9⟩)
    · skip
      refine tz_iload3 (n := 27) (g_at ck_X10_see 13 rfl) rfl ?_
      refine tz_bipush (n := 29) (g_at ck_X10_see 14 rfl) rfl rfl ?_
      refine tz_icmp_le (n := 32) (tgt := 38) (g_at ck_X10_see 15 rfl) rfl rfl ⟨hn.1, hn.2, (by decide), (by decide)⟩ (fun h29 => ?_) (fun h29 => ?_)
      · skip
        refine tz_aload0 (n := 39) (g_at ck_X10_see 20 rfl) rfl (g_ne kd_1) ?_
        refine tz_getOv (n := 42) (a := 46) fk_X10_53 kd_1 (ly_1_8 hL) (g_at ck_X10_see 21 rfl) rfl ?_
        refine tz_iload1 (n := 43) (g_at ck_X10_see 22 rfl) rfl ?_
        refine tz_iload2 (n := 44) (g_at ck_X10_see 23 rfl) rfl ?_
        refine tz_iload3 (n := 45) (g_at ck_X10_see 24 rfl) rfl ?_
        refine tz_cvV3 (n := 48) (μ' := μX5_add) (cb' := 0) (sb' := 0) ml_X10_335 mo_X5_add mv_X5_add np_X5_add (isE_46 hL).k0 (g_at ck_X10_see 25 rfl) (sp_seenAdd (isE_46 hL) hR2 (by omega) (by omega) (by omega) (by omega)) rfl rfl rfl ⟨by decide, by decide⟩ (Nat.le_of_ble_eq_true rfl) (by decide) (by decide) (fun ρ9 m45 hq => ?_)
        obtain ⟨rfl, hR5, rfl⟩ := hq
        refine tz_aload0 (n := 49) (g_at ck_X10_see 26 rfl) rfl (g_ne kd_1) ?_
        refine tz_getOv (n := 52) (a := 46) fk_X10_53 kd_1 (ly_1_8 hL) (g_at ck_X10_see 27 rfl) rfl ?_
        refine tz_getIw (n := 55) (kz := 3) fk_X10_175 (isE_46 hL).k0 (g_at ck_X10_see 28 rfl) rfl rfl ?_
        rw [wr_same]
        exact tz_iret (g_at ck_X10_see 29 rfl) rfl (rI_mk ⟨rfl, hR5, sq_0 hz2 hz7, fun h9 => absurd h9 (show ¬ (8 ≤ m 46 3 ∨ n < 0 ∨ 20 < n) by omega), fun _ => ⟨rfl, rfl⟩⟩)
      · skip
        refine tz_aload0 (n := 33) (g_at ck_X10_see 16 rfl) rfl (g_ne kd_1) ?_
        refine tz_iconst (n := 34) (g_at ck_X10_see 17 rfl) rfl ?_
        refine tz_cvI1 (n := 37) (μ' := μX10_refuse) (cb' := 0) (sb' := 0) ml_X10_245 mo_X10_refuse mv_X10_refuse np_X10_refuse kd_1 (g_at ck_X10_see 18 rfl) (sp_refuse hL hR2 (by decide) (hf _ (by decide) (by decide))) rfl rfl rfl ⟨by decide, by decide⟩ (Nat.le_of_ble_eq_true rfl) (by decide) (by decide) (fun x34 ρ9 m34 hq => ?_)
        obtain ⟨rfl, hR6, rfl, rfl⟩ := hq
        exact tz_iret (g_at ck_X10_see 19 rfl) rfl (rI_mk ⟨rfl, hR6, sq_0 hz2 hz7, fun _ => ⟨rfl, rfl⟩, fun h9 => absurd (show 8 ≤ m 46 3 ∨ n < 0 ∨ 20 < n by omega) h9⟩)
