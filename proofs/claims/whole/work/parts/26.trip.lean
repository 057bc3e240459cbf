/-! The trip. -/
theorem sp_tHome {l : Launch} {γ : Gh} {ρ m : Mm} {p : Int} {ld b : Int} {Λ σ : Mm} {hl tl : List Int} (hL : LY ρ) (hLt : ρ 62 0 = ld) (hS : isS ρ ld) (hR : MR m) (hW : WL Λ) (hG : LandC m ld Λ hl tl) (hT : TripC m σ) (hσ : WS Λ b σ) (hb : 0 ≤ b ∧ b ≤ 100000) (hp : 0 ≤ p ∧ p < Λ 0 1) : gE l γ μX8_isHome 0 0 0 (rI KK fun x ρ9 m9 => ρ = ρ9 ∧ MR m9 ∧ (if σ 0 (1 + p) = Λ 5 p then 1 else 0) = x ∧ m = m9) xN KK ρ m [vR 62, vI p] := by
  refine gE.ofw cl_X8.2 ?_ rfl rfl (Nat.le_of_ble_eq_true rfl)
  show gT l γ μX8_isHome 0 0 0 _ _ KK ρ m 0 [some (vR 62), some (vI p)] []
  have hn := hW.1
  have hn8 := hW.2.1
  have hld := hG.ld9
  have hp1 := hσ.2.1 p hp.1 hp.2
  have hh := hW.2.2.2.2 p hp.1 hp.2
  refine tz_aload0 (n := 1) (g_at ck_X8_isHome 0 rfl) rfl (g_ne kd_62) ?_
  refine tz_getOv (n := 4) (a := 63) fk_X8_12 kd_62 (ly_62_1 hL) (g_at ck_X8_isHome 1 rfl) rfl ?_
  refine tz_getAv (n := 7) (a := 64) fk_X8_61 (isM_63 hL).k0 (isM_63 hL).r0_1 (g_at ck_X8_isHome 2 rfl) rfl ?_
  refine tz_iload1 (n := 8) (g_at ck_X8_isHome 3 rfl) rfl ?_
  refine tz_iald (n := 9) (isM_63 hL).k1 (by omega) (g_at ck_X8_isHome 4 rfl) rfl ?_
  rw [hT.whr p (by omega)]
  refine tz_aload0 (n := 10) (g_at ck_X8_isHome 5 rfl) rfl (g_ne kd_62) ?_
  refine tz_getOv (n := 13) (a := ld) fk_X8_30 kd_62 hLt (g_at ck_X8_isHome 6 rfl) rfl ?_
  refine tz_getAv (n := 16) (a := (ld + 5)) fk_X8_134 hS.k0 hS.r0_6 (g_at ck_X8_isHome 7 rfl) rfl ?_
  refine tz_iload1 (n := 17) (g_at ck_X8_isHome 8 rfl) rfl ?_
  refine tz_iald (n := 18) hS.k5 (by omega) (g_at ck_X8_isHome 9 rfl) rfl ?_
  rw [hG.home p (by omega)]
  refine tz_icmp_ne (n := 21) (tgt := 25) (g_at ck_X8_isHome 10 rfl) rfl rfl ⟨by omega, by omega, by omega, by omega⟩ (fun h18 => ?_) (fun h18 => ?_)
  · skip
    refine tz_iconst (n := 26) (g_at ck_X8_isHome 13 rfl) rfl ?_
    exact tz_bret (g_at ck_X8_isHome 14 rfl) rfl (by decide) (rI_mk ⟨rfl, hR, by simp only [h18, if_true, if_false], rfl⟩)
  · skip
    refine tz_iconst (n := 22) (g_at ck_X8_isHome 11 rfl) rfl ?_
    refine tz_goto (tgt := 26) (g_at ck_X8_isHome 12 rfl) rfl ?_
    exact tz_bret (g_at ck_X8_isHome 14 rfl) rfl (by decide) (rI_mk ⟨rfl, hR, by simp only [h18, if_true, if_false], rfl⟩)
theorem sp_findV {l : Launch} {γ : Gh} {ρ m : Mm} {p c : Int} {ld b : Int} {Λ σ : Mm} {hl tl : List Int} (hL : LY ρ) (hLt : ρ 62 0 = ld) (hS : isS ρ ld) (hR : MR m) (hW : WL Λ) (hG : LandC m ld Λ hl tl) (hT : TripC m σ) (hσ : WS Λ b σ) (hb : 0 ≤ b ∧ b ≤ 100000) (hp : 0 ≤ p ∧ p < Λ 0 1) (hc : 0 ≤ c ∧ c < Λ 0 0) : gE l γ μX8_findValues 1 0 0 (rV KK fun ρ9 m9 => ρ = ρ9 ∧ MR m9 ∧ (∀ k, 0 ≤ k → k < 5 → m9 70 k = tolV Λ σ p c k) ∧ Fr [70] m m9) xN KK ρ m [vR 62, vI p, vI c] := by
  refine gE.ofw cl_X8.2 ?_ rfl rfl (Nat.le_of_ble_eq_true rfl)
  show gT l γ μX8_findValues 1 0 0 _ _ KK ρ m 0 [some (vR 62), some (vI p), some (vI c)] []
  have hn := hW.1
  have hn8 := hW.2.1
  have hld := hG.ld9
  have hp1 := hσ.2.1 p hp.1 hp.2
  have hc1 := hσ.2.2.1 c hc.1 hc.2
  have hc2 := hW.2.2.1 c hc.1 hc.2
  have hcn := cntAt_rg σ c (Λ 0 1).toNat
  refine tz_aload0 (n := 1) (g_at ck_X8_findValues 0 rfl) rfl (g_ne kd_62) ?_
  refine tz_getAv (n := 4) (a := 70) fk_X8_27 kd_62 (ly_62_4 hL) (g_at ck_X8_findValues 1 rfl) rfl ?_
  refine tz_iconst (n := 5) (g_at ck_X8_findValues 2 rfl) rfl ?_
  refine tz_aload0 (n := 6) (g_at ck_X8_findValues 3 rfl) rfl (g_ne kd_62) ?_
  refine tz_getOv (n := 9) (a := 63) fk_X8_12 kd_62 (ly_62_1 hL) (g_at ck_X8_findValues 4 rfl) rfl ?_
  refine tz_getAv (n := 12) (a := 66) fk_X8_105 (isM_63 hL).k0 (isM_63 hL).r0_3 (g_at ck_X8_findValues 5 rfl) rfl ?_
  refine tz_iload2 (n := 13) (g_at ck_X8_findValues 6 rfl) rfl ?_
  refine tz_iald (n := 14) (isM_63 hL).k3 (by omega) (g_at ck_X8_findValues 7 rfl) rfl ?_
  rw [hT.arm c (by omega)]
  refine tz_iastr (n := 15) kd_70 (by omega) (g_at ck_X8_findValues 8 rfl) rfl hR (by rw [← hT.arm c (by omega)]; exact hR _ _) (fun hR1 => ?_)
  refine tz_aload0 (n := 16) (g_at ck_X8_findValues 9 rfl) rfl (g_ne kd_62) ?_
  refine tz_getAv (n := 19) (a := 70) fk_X8_27 kd_62 (ly_62_4 hL) (g_at ck_X8_findValues 10 rfl) rfl ?_
  refine tz_iconst (n := 20) (g_at ck_X8_findValues 11 rfl) rfl ?_
  refine tz_aload0 (n := 21) (g_at ck_X8_findValues 12 rfl) rfl (g_ne kd_62) ?_
  refine tz_getOv (n := 24) (a := ld) fk_X8_30 kd_62 hLt (g_at ck_X8_findValues 13 rfl) rfl ?_
  refine tz_getAv (n := 27) (a := (ld + 3)) fk_X8_58 hS.k0 hS.r0_4 (g_at ck_X8_findValues 14 rfl) rfl ?_
  refine tz_iload2 (n := 28) (g_at ck_X8_findValues 15 rfl) rfl ?_
  refine tz_iald (n := 29) hS.k3 (by omega) (g_at ck_X8_findValues 16 rfl) rfl ?_
  rw [wr_ne (show ld + 3 ≠ 70 by omega), hG.roads c (by omega)]
  refine tz_iastr (n := 30) kd_70 (by omega) (g_at ck_X8_findValues 17 rfl) rfl hR1 (by omega) (fun hR2 => ?_)
  refine tz_aload0 (n := 31) (g_at ck_X8_findValues 18 rfl) rfl (g_ne kd_62) ?_
  refine tz_getAv (n := 34) (a := 70) fk_X8_27 kd_62 (ly_62_4 hL) (g_at ck_X8_findValues 19 rfl) rfl ?_
  refine tz_iconst (n := 35) (g_at ck_X8_findValues 20 rfl) rfl ?_
  refine tz_aload0 (n := 36) (g_at ck_X8_findValues 21 rfl) rfl (g_ne kd_62) ?_
  refine tz_getOv (n := 39) (a := 63) fk_X8_12 kd_62 (ly_62_1 hL) (g_at ck_X8_findValues 22 rfl) rfl ?_
  refine tz_getAv (n := 42) (a := 65) fk_X8_108 (isM_63 hL).k0 (isM_63 hL).r0_2 (g_at ck_X8_findValues 23 rfl) rfl ?_
  refine tz_iload1 (n := 43) (g_at ck_X8_findValues 24 rfl) rfl ?_
  refine tz_iald (n := 44) (isM_63 hL).k2 (by omega) (g_at ck_X8_findValues 25 rfl) rfl ?_
  rw [wr_ne (show (65 : Int) ≠ 70 by decide), wr_ne (show (65 : Int) ≠ 70 by decide), hT.pur p (by omega)]
  refine tz_iastr (n := 45) kd_70 (by omega) (g_at ck_X8_findValues 26 rfl) rfl hR2 (by omega) (fun hR3 => ?_)
  refine tz_aload0 (n := 46) (g_at ck_X8_findValues 27 rfl) rfl (g_ne kd_62) ?_
  refine tz_getAv (n := 49) (a := 70) fk_X8_27 kd_62 (ly_62_4 hL) (g_at ck_X8_findValues 28 rfl) rfl ?_
  refine tz_iconst (n := 50) (g_at ck_X8_findValues 29 rfl) rfl ?_
  refine tz_aload0 (n := 51) (g_at ck_X8_findValues 30 rfl) rfl (g_ne kd_62) ?_
  refine tz_getOv (n := 54) (a := ld) fk_X8_30 kd_62 hLt (g_at ck_X8_findValues 31 rfl) rfl ?_
  refine tz_aload0 (n := 55) (g_at ck_X8_findValues 32 rfl) rfl (g_ne kd_62) ?_
  refine tz_getOv (n := 58) (a := 63) fk_X8_12 kd_62 (ly_62_1 hL) (g_at ck_X8_findValues 33 rfl) rfl ?_
  refine tz_iload2 (n := 59) (g_at ck_X8_findValues 34 rfl) rfl ?_
  refine tz_cvI2 (n := 62) (μ' := μX6_peopleAt) (cb' := 0) (sb' := 0) ml_X8_111 mo_X6_peopleAt mv_X6_peopleAt np_X6_peopleAt hS.k0 (g_at ck_X8_findValues 35 rfl) (sp_peopleAt hS (isM_63 hL) hR3 (by rw [wr_ne (show ld ≠ 70 by omega), wr_ne (show ld ≠ 70 by omega), wr_ne (show ld ≠ 70 by omega), hG.n1]; omega) (by omega)) rfl rfl rfl ⟨by decide, by decide⟩ (Nat.le_of_ble_eq_true rfl) (by decide) (by decide) (fun x59 ρ9 m59 hq => ?_)
  obtain ⟨rfl, hR4, rfl, rfl⟩ := hq
  refine tz_csI1 (n := 65) (μ' := μJ6_bitCount_0f7a4) (cb' := 0) (sb' := 0) ml_X8_115 mo_J6_bitCount_0f7a4 ms_J6_bitCount_0f7a4 np_J6_bitCount_0f7a4 (g_at ck_X8_findValues 36 rfl) (sp_bitCount hR4) rfl rfl ⟨by decide, by decide⟩ (Nat.le_of_ble_eq_true rfl) (by decide) (by decide) (fun x62 ρ9 m62 hq => ?_)
  obtain ⟨rfl, hR5, rfl, rfl⟩ := hq
  rw [wr_ne (show ld ≠ 70 by omega), wr_ne (show ld ≠ 70 by omega), wr_ne (show ld ≠ 70 by omega), hG.n1]
  rw [show ∀ a b c : Int, wr (wr (wr m 70 0 a) 70 1 b) 70 2 c (63 + 1) = m 64 from fun a b c => by rw [wr_ne (by decide), wr_ne (by decide), wr_ne (by decide)]; rfl]
  rw [bc_cnt (σ := σ) (by omega) (fun q h1 h2 => hT.whr q (by omega))]
  refine tz_iconst (n := 66) (g_at ck_X8_findValues 37 rfl) rfl ?_
  refine tz_isub (n := 67) (g_at ck_X8_findValues 38 rfl) rfl ?_
  refine tz_iastr (n := 68) kd_70 (by omega) (g_at ck_X8_findValues 39 rfl) rfl hR5 (by omega) (fun hR6 => ?_)
  refine tz_aload0 (n := 69) (g_at ck_X8_findValues 40 rfl) rfl (g_ne kd_62) ?_
  refine tz_getAv (n := 72) (a := 70) fk_X8_27 kd_62 (ly_62_4 hL) (g_at ck_X8_findValues 41 rfl) rfl ?_
  refine tz_iconst (n := 73) (g_at ck_X8_findValues 42 rfl) rfl ?_
  refine tz_aload0 (n := 74) (g_at ck_X8_findValues 43 rfl) rfl (g_ne kd_62) ?_
  refine tz_getOv (n := 77) (a := 63) fk_X8_12 kd_62 (ly_62_1 hL) (g_at ck_X8_findValues 44 rfl) rfl ?_
  refine tz_getIw (n := 80) (kz := 0) fk_X8_68 (isM_63 hL).k0 (g_at ck_X8_findValues 45 rfl) rfl rfl ?_
  rw [wr_ne (show (63 : Int) ≠ 70 by decide), wr_ne (show (63 : Int) ≠ 70 by decide), wr_ne (show (63 : Int) ≠ 70 by decide), wr_ne (show (63 : Int) ≠ 70 by decide), hT.day]
  refine tz_iastr (n := 81) kd_70 (by omega) (g_at ck_X8_findValues 46 rfl) rfl hR6 (by have := hσ.1; omega) (fun hR7 => ?_)
  exact tz_vret (g_at ck_X8_findValues 47 rfl) rfl (rV_mk ⟨rfl, hR7, fun k h0 h5 => by simp only [wr, tolV, true_and]; (repeat' split) <;> first | rfl | omega, ((((fr_one).wr (List.mem_cons_self)).wr (List.mem_cons_self)).wr (List.mem_cons_self)).wr (List.mem_cons_self)⟩)
theorem sp_follow {l : Launch} {γ : Gh} {ρ m : Mm} {p c : Int} {ld b : Int} {Λ σ : Mm} {hl tl : List Int} (hL : LY ρ) (hLt : ρ 62 0 = ld) (hS : isS ρ ld) (hR : MR m) (hW : WL Λ) (hG : LandC m ld Λ hl tl) (hT : TripC m σ) (hσ : WS Λ b σ) (hb : 0 ≤ b ∧ b ≤ 100000) (hp : 0 ≤ p ∧ p < Λ 0 1) (hc : 0 ≤ c ∧ c < Λ 0 0) (hr : 0 < Λ 3 c) : gE l γ μX8_follow 2 0 0 (rV KK fun ρ9 m9 => ρ = ρ9 ∧ MR m9 ∧ TripC m9 (folP Λ p c σ) ∧ Fr [64, 65, 68, 69] m m9) xN KK ρ m [vR 62, vI p, vI c] := by
  refine gE.ofw cl_X8.2 ?_ rfl rfl (Nat.le_of_ble_eq_true rfl)
  show gT l γ μX8_follow 2 0 0 _ _ KK ρ m 0 [some (vR 62), some (vI p), some (vI c), none, none] []
  have hn := hW.1
  have hn8 := hW.2.1
  have hld := hG.ld9
  have hp1 := hσ.2.1 p hp.1 hp.2
  have hc1 := hσ.2.2.1 c hc.1 hc.2
  have hc2 := hW.2.2.1 c hc.1 hc.2
  have he := hW.2.2.2.1 c (σ 0 (17 + c)) hc.1 hc.2 hc1.1 (hc1.2.1 hr)
  have ht := hW.2.2.1 _ he.1 he.2
  have hg := hσ.2.2.2 (c * 5 + σ 0 (17 + c)) (by omega) (by omega)
  have h01 := shutB_01 (σ 0 (26 + c)) (σ 0 (17 + c))
  refine tz_aload0 (n := 1) (g_at ck_X8_follow 0 rfl) rfl (g_ne kd_62) ?_
  refine tz_getOv (n := 4) (a := 63) fk_X8_12 kd_62 (ly_62_1 hL) (g_at ck_X8_follow 1 rfl) rfl ?_
  refine tz_getAv (n := 7) (a := 66) fk_X8_105 (isM_63 hL).k0 (isM_63 hL).r0_3 (g_at ck_X8_follow 2 rfl) rfl ?_
  refine tz_iload2 (n := 8) (g_at ck_X8_follow 3 rfl) rfl ?_
  refine tz_iald (n := 9) (isM_63 hL).k3 (by omega) (g_at ck_X8_follow 4 rfl) rfl ?_
  rw [hT.arm c (by omega)]
  refine tz_istore3 (n := 10) (g_at ck_X8_follow 5 rfl) rfl (by decide) g_hpI ?_
  refine tz_aload0 (n := 11) (g_at ck_X8_follow 6 rfl) rfl (g_ne kd_62) ?_
  refine tz_getOv (n := 14) (a := ld) fk_X8_30 kd_62 hLt (g_at ck_X8_follow 7 rfl) rfl ?_
  refine tz_iload2 (n := 15) (g_at ck_X8_follow 8 rfl) rfl ?_
  refine tz_iload3 (n := 16) (g_at ck_X8_follow 9 rfl) rfl ?_
  refine tz_cvI2 (n := 19) (μ' := μX6_leads) (cb' := 0) (sb' := 0) ml_X8_121 mo_X6_leads mv_X6_leads np_X6_leads hS.k0 (g_at ck_X8_follow 10 rfl) (sp_leads hS hR (by omega)) rfl rfl rfl ⟨by decide, by decide⟩ (Nat.le_of_ble_eq_true rfl) (by decide) (by decide) (fun x16 ρ9 m16 hq => ?_)
  obtain ⟨rfl, hR1, rfl, rfl⟩ := hq
  rw [hG.ends c (σ 0 (17 + c)) (by omega) (by omega)]
  refine tz_istore4 (n := 21) (g_at ck_X8_follow 11 rfl) rfl (by decide) g_hpI ?_
  refine tz_aload0 (n := 22) (g_at ck_X8_follow 12 rfl) rfl (g_ne kd_62) ?_
  refine tz_getOv (n := 25) (a := 63) fk_X8_12 kd_62 (ly_62_1 hL) (g_at ck_X8_follow 13 rfl) rfl ?_
  refine tz_iload2 (n := 26) (g_at ck_X8_follow 14 rfl) rfl ?_
  refine tz_iload3 (n := 27) (g_at ck_X8_follow 15 rfl) rfl ?_
  refine tz_cvI2 (n := 30) (μ' := μX2_isShut) (cb' := 0) (sb' := 0) ml_X8_124 mo_X2_isShut mv_X2_isShut np_X2_isShut (isM_63 hL).k0 (g_at ck_X8_follow 16 rfl) (sp_isShut (isM_63 hL) hR1 (by omega)) rfl rfl rfl ⟨by decide, by decide⟩ (Nat.le_of_ble_eq_true rfl) (by decide) (by decide) (fun x27 ρ9 m27 hq => ?_)
  obtain ⟨rfl, hR2, rfl, rfl⟩ := hq
  rw [show m (63 + 4) c = σ 0 (26 + c) from hT.sht c (by omega)]
  refine tz_if_ne (n := 33) (tgt := 112) (g_at ck_X8_follow 17 rfl) rfl rfl (by omega) (fun h30 => ?_) (fun h30 => ?_)
  · skip
    exact tz_vret (g_at ck_X8_follow 66 rfl) rfl (rV_mk ⟨rfl, hR2, by rw [folP_no1 h30]; exact hT, Fr.rf⟩)
  · skip
    refine tz_aload0 (n := 34) (g_at ck_X8_follow 18 rfl) rfl (g_ne kd_62) ?_
    refine tz_getOv (n := 37) (a := 63) fk_X8_12 kd_62 (ly_62_1 hL) (g_at ck_X8_follow 19 rfl) rfl ?_
    refine tz_getAv (n := 40) (a := 65) fk_X8_108 (isM_63 hL).k0 (isM_63 hL).r0_2 (g_at ck_X8_follow 20 rfl) rfl ?_
    refine tz_iload1 (n := 41) (g_at ck_X8_follow 21 rfl) rfl ?_
    refine tz_iald (n := 42) (isM_63 hL).k2 (by omega) (g_at ck_X8_follow 22 rfl) rfl ?_
    rw [hT.pur p (by omega)]
    refine tz_aload0 (n := 43) (g_at ck_X8_follow 23 rfl) rfl (g_ne kd_62) ?_
    refine tz_getOv (n := 46) (a := ld) fk_X8_30 kd_62 hLt (g_at ck_X8_follow 24 rfl) rfl ?_
    refine tz_getAv (n := 49) (a := (ld + 1)) fk_X8_128 hS.k0 hS.r0_2 (g_at ck_X8_follow 25 rfl) rfl ?_
    refine tz_iload4 (n := 51) (g_at ck_X8_follow 26 rfl) rfl ?_
    refine tz_iald (n := 52) hS.k1 (by omega) (g_at ck_X8_follow 27 rfl) rfl ?_
    rw [hG.toll _ he]
    refine tz_icmp_lt (n := 55) (tgt := 112) (g_at ck_X8_follow 28 rfl) rfl rfl ⟨by omega, by omega, by omega, by omega⟩ (fun h52 => ?_) (fun h52 => ?_)
    · skip
      exact tz_vret (g_at ck_X8_follow 66 rfl) rfl (rV_mk ⟨rfl, hR2, by rw [folP_no2 h52]; exact hT, Fr.rf⟩)
    · skip
      refine tz_aload0 (n := 56) (g_at ck_X8_follow 29 rfl) rfl (g_ne kd_62) ?_
      refine tz_getOv (n := 59) (a := 63) fk_X8_12 kd_62 (ly_62_1 hL) (g_at ck_X8_follow 30 rfl) rfl ?_
      refine tz_getAv (n := 62) (a := 64) fk_X8_61 (isM_63 hL).k0 (isM_63 hL).r0_1 (g_at ck_X8_follow 31 rfl) rfl ?_
      refine tz_iload1 (n := 63) (g_at ck_X8_follow 32 rfl) rfl ?_
      refine tz_iload4 (n := 65) (g_at ck_X8_follow 33 rfl) rfl ?_
      refine tz_iastr (n := 66) (isM_63 hL).k1 (by omega) (g_at ck_X8_follow 34 rfl) rfl hR2 (by omega) (fun hR3 => ?_)
      refine tz_aload0 (n := 67) (g_at ck_X8_follow 35 rfl) rfl (g_ne kd_62) ?_
      refine tz_getOv (n := 70) (a := 63) fk_X8_12 kd_62 (ly_62_1 hL) (g_at ck_X8_follow 36 rfl) rfl ?_
      refine tz_getAv (n := 73) (a := 65) fk_X8_108 (isM_63 hL).k0 (isM_63 hL).r0_2 (g_at ck_X8_follow 37 rfl) rfl ?_
      refine tz_iload1 (n := 74) (g_at ck_X8_follow 38 rfl) rfl ?_
      refine tz_dup2 (n := 75) (g_at ck_X8_follow 39 rfl) rfl ?_
      refine tz_iald (n := 76) (isM_63 hL).k2 (by omega) (g_at ck_X8_follow 40 rfl) rfl ?_
      rw [wr_ne (show (65 : Int) ≠ 64 by decide), hT.pur p (by omega)]
      refine tz_aload0 (n := 77) (g_at ck_X8_follow 41 rfl) rfl (g_ne kd_62) ?_
      refine tz_getOv (n := 80) (a := ld) fk_X8_30 kd_62 hLt (g_at ck_X8_follow 42 rfl) rfl ?_
      refine tz_getAv (n := 83) (a := (ld + 1)) fk_X8_128 hS.k0 hS.r0_2 (g_at ck_X8_follow 43 rfl) rfl ?_
      refine tz_iload4 (n := 85) (g_at ck_X8_follow 44 rfl) rfl ?_
      refine tz_iald (n := 86) hS.k1 (by omega) (g_at ck_X8_follow 45 rfl) rfl ?_
      rw [wr_ne (show ld + 1 ≠ 64 by omega), hG.toll _ he]
      refine tz_isub (n := 87) (g_at ck_X8_follow 46 rfl) rfl ?_
      refine tz_iastr (n := 88) (isM_63 hL).k2 (by omega) (g_at ck_X8_follow 47 rfl) rfl hR3 (by omega) (fun hR4 => ?_)
      refine tz_aload0 (n := 89) (g_at ck_X8_follow 48 rfl) rfl (g_ne kd_62) ?_
      refine tz_getAv (n := 92) (a := 68) fk_X8_18 kd_62 (ly_62_2 hL) (g_at ck_X8_follow 49 rfl) rfl ?_
      refine tz_iload1 (n := 93) (g_at ck_X8_follow 50 rfl) rfl ?_
      refine tz_dup2 (n := 94) (g_at ck_X8_follow 51 rfl) rfl ?_
      refine tz_iald (n := 95) kd_68 (by omega) (g_at ck_X8_follow 52 rfl) rfl ?_
      rw [wr_ne (show (68 : Int) ≠ 65 by decide), wr_ne (show (68 : Int) ≠ 64 by decide), hT.stp p (by omega)]
      refine tz_iconst (n := 96) (g_at ck_X8_follow 53 rfl) rfl ?_
      refine tz_iadd (n := 97) (g_at ck_X8_follow 54 rfl) rfl ?_
      refine tz_iastr (n := 98) kd_68 (by omega) (g_at ck_X8_follow 55 rfl) rfl hR4 (by omega) (fun hR5 => ?_)
      refine tz_aload0 (n := 99) (g_at ck_X8_follow 56 rfl) rfl (g_ne kd_62) ?_
      refine tz_getAv (n := 102) (a := 69) fk_X8_22 kd_62 (ly_62_3 hL) (g_at ck_X8_follow 57 rfl) rfl ?_
      refine tz_iload2 (n := 103) (g_at ck_X8_follow 58 rfl) rfl ?_
      refine tz_iload3 (n := 104) (g_at ck_X8_follow 59 rfl) rfl ?_
      refine tz_csI2 (n := 107) (μ' := μX6_roadIndex) (cb' := 0) (sb' := 0) ml_X8_131 mo_X6_roadIndex ms_X6_roadIndex np_X6_roadIndex (g_at ck_X8_follow 60 rfl) (sp_roadIndex hR5) rfl rfl ⟨by decide, by decide⟩ (Nat.le_of_ble_eq_true rfl) (by decide) (by decide) (fun x104 ρ9 m104 hq => ?_)
      obtain ⟨rfl, hR6, rfl, rfl⟩ := hq
      refine tz_dup2 (n := 108) (g_at ck_X8_follow 61 rfl) rfl ?_
      refine tz_iald (n := 109) kd_69 (by omega) (g_at ck_X8_follow 62 rfl) rfl ?_
      rw [wr_ne (show (69 : Int) ≠ 68 by decide), wr_ne (show (69 : Int) ≠ 65 by decide), wr_ne (show (69 : Int) ≠ 64 by decide), hT.goi _ (by omega)]
      refine tz_iconst (n := 110) (g_at ck_X8_follow 63 rfl) rfl ?_
      refine tz_iadd (n := 111) (g_at ck_X8_follow 64 rfl) rfl ?_
      refine tz_iastr (n := 112) kd_69 (by omega) (g_at ck_X8_follow 65 rfl) rfl hR6 (by omega) (fun hR7 => ?_)
      exact tz_vret (g_at ck_X8_follow 66 rfl) rfl (rV_mk ⟨rfl, hR7, by rw [folP_yes (by omega) h52]; exact (((hT.setW (by omega)).setP (by omega)).setS (by omega)).setG (by omega), ((((Fr.rf).wr (by decide)).wr (by decide)).wr (by decide)).wr (by decide)⟩)
theorem sp_turnOn {l : Launch} {γ : Gh} {ρ m : Mm} {c k : Int} {ld b : Int} {Λ σ : Mm} {hl tl : List Int} (hL : LY ρ) (hLt : ρ 62 0 = ld) (hS : isS ρ ld) (hR : MR m) (hW : WL Λ) (hG : LandC m ld Λ hl tl) (hT : TripC m σ) (hσ : WS Λ b σ) (hb : 0 ≤ b ∧ b ≤ 100000) (hc : 0 ≤ c ∧ c < Λ 0 0) (hk : 0 ≤ k ∧ k ≤ 9) : gE l γ μX8_turnOn 0 0 0 (rV KK fun ρ9 m9 => ρ = ρ9 ∧ MR m9 ∧ TripC m9 (trnP Λ c k σ) ∧ Fr [66] m m9) xN KK ρ m [vR 62, vI c, vI k] := by
  refine gE.ofw cl_X8.2 ?_ rfl rfl (Nat.le_of_ble_eq_true rfl)
  show gT l γ μX8_turnOn 0 0 0 _ _ KK ρ m 0 [some (vR 62), some (vI c), some (vI k), none] []
  have hn := hW.1
  have hn8 := hW.2.1
  have hld := hG.ld9
  have hc1 := hσ.2.2.1 c hc.1 hc.2
  have hc2 := hW.2.2.1 c hc.1 hc.2
  refine tz_aload0 (n := 1) (g_at ck_X8_turnOn 0 rfl) rfl (g_ne kd_62) ?_
  refine tz_getOv (n := 4) (a := ld) fk_X8_30 kd_62 hLt (g_at ck_X8_turnOn 1 rfl) rfl ?_
  refine tz_getAv (n := 7) (a := (ld + 3)) fk_X8_58 hS.k0 hS.r0_4 (g_at ck_X8_turnOn 2 rfl) rfl ?_
  refine tz_iload1 (n := 8) (g_at ck_X8_turnOn 3 rfl) rfl ?_
  refine tz_iald (n := 9) hS.k3 (by omega) (g_at ck_X8_turnOn 4 rfl) rfl ?_
  rw [hG.roads c (by omega)]
  refine tz_istore3 (n := 10) (g_at ck_X8_turnOn 5 rfl) rfl (by decide) g_hpI ?_
  refine tz_iload3 (n := 11) (g_at ck_X8_turnOn 6 rfl) rfl ?_
  refine tz_if_le (n := 14) (tgt := 36) (g_at ck_X8_turnOn 7 rfl) rfl rfl (by omega) (fun h11 => ?_) (fun h11 => ?_)
  · skip
    exact tz_vret (g_at ck_X8_turnOn 22 rfl) rfl (rV_mk ⟨rfl, hR, by rw [trnP, if_pos h11]; exact hT, Fr.rf⟩)
  · skip
    refine tz_aload0 (n := 15) (g_at ck_X8_turnOn 8 rfl) rfl (g_ne kd_62) ?_
    refine tz_getOv (n := 18) (a := 63) fk_X8_12 kd_62 (ly_62_1 hL) (g_at ck_X8_turnOn 9 rfl) rfl ?_
    refine tz_getAv (n := 21) (a := 66) fk_X8_105 (isM_63 hL).k0 (isM_63 hL).r0_3 (g_at ck_X8_turnOn 10 rfl) rfl ?_
    refine tz_iload1 (n := 22) (g_at ck_X8_turnOn 11 rfl) rfl ?_
    refine tz_aload0 (n := 23) (g_at ck_X8_turnOn 12 rfl) rfl (g_ne kd_62) ?_
    refine tz_getOv (n := 26) (a := 63) fk_X8_12 kd_62 (ly_62_1 hL) (g_at ck_X8_turnOn 13 rfl) rfl ?_
    refine tz_getAv (n := 29) (a := 66) fk_X8_105 (isM_63 hL).k0 (isM_63 hL).r0_3 (g_at ck_X8_turnOn 14 rfl) rfl ?_
    refine tz_iload1 (n := 30) (g_at ck_X8_turnOn 15 rfl) rfl ?_
    refine tz_iald (n := 31) (isM_63 hL).k3 (by omega) (g_at ck_X8_turnOn 16 rfl) rfl ?_
    rw [hT.arm c (by omega)]
    refine tz_iload2 (n := 32) (g_at ck_X8_turnOn 17 rfl) rfl ?_
    refine tz_iadd (n := 33) (g_at ck_X8_turnOn 18 rfl) rfl ?_
    refine tz_iload3 (n := 34) (g_at ck_X8_turnOn 19 rfl) rfl ?_
    refine tz_irem (n := 35) (g_at ck_X8_turnOn 20 rfl) rfl (by omega) ?_
    rw [bRem_nn (by omega) (by omega)]
    have hm := Int.emod_nonneg (σ 0 (17 + c) + k) (show Λ 3 c ≠ 0 by omega)
    have hm2 := Int.emod_lt_of_pos (σ 0 (17 + c) + k) (show 0 < Λ 3 c by omega)
    refine tz_iastr (n := 36) (isM_63 hL).k3 (by omega) (g_at ck_X8_turnOn 21 rfl) rfl hR (by omega) (fun hR1 => ?_)
    exact tz_vret (g_at ck_X8_turnOn 22 rfl) rfl (rV_mk ⟨rfl, hR1, by rw [trnP, if_neg h11]; exact hT.setA (by omega), fr_one⟩)
theorem trL_4 {ld : Int} : ∀ x ∈ ([64, 65, 68, 69] : List Int), x ∈ trL ld := fun x hx => by
  unfold trL
  simp only [List.mem_cons, List.not_mem_nil, or_false] at hx ⊢
  omega
theorem trL_66 {ld : Int} : ∀ x ∈ ([66] : List Int), x ∈ trL ld := fun x hx => by
  unfold trL
  simp only [List.mem_cons, List.not_mem_nil, or_false] at hx ⊢
  omega
theorem trL_70 {ld : Int} : ∀ x ∈ ([70] : List Int), x ∈ trL ld := fun x hx => by
  unfold trL
  simp only [List.mem_cons, List.not_mem_nil, or_false] at hx ⊢
  omega
theorem trL_8 {ld : Int} : ld + 6 + 2 ∈ trL ld := by
  unfold trL
  simp only [List.mem_cons, List.not_mem_nil, or_false]
  omega
theorem trL_11 {ld : Int} : ld + 9 + 2 ∈ trL ld := by
  unfold trL
  simp only [List.mem_cons, List.not_mem_nil, or_false]
  omega
theorem trL_63 {ld : Int} : (63 : Int) ∈ trL ld := List.mem_cons_self
theorem fr_70 {m m9 : Mm} (h : Fr [70] m m9) : ∀ a, 63 ≤ a → a ≤ 69 → m9 a = m a := fun a h1 h2 => h a (by simp only [List.mem_cons, List.not_mem_nil, or_false]; omega)
theorem hvL_told {L : List Int} {V : Int → Int} (h : L ≠ []) : hvL L V = evC L V := if_neg h
theorem hvL_not {L : List Int} {V : Int → Int} (h : L = []) : hvL L V = 1 := if_pos h
theorem tvL_told {L : List Int} {V : Int → Int} (h : L ≠ []) : tvL L V = clamp9 (evC L V) := if_neg h
theorem tvL_not {L : List Int} {V : Int → Int} (h : L = []) : tvL L V = 1 := if_pos h
theorem clamp9_rg (x : Int) : 0 ≤ clamp9 x ∧ clamp9 x ≤ 9 := by
  unfold clamp9
  repeat' split
  all_goals omega
theorem takP_no {Λ σ : Mm} {hl tl : List Int} {w p : Int} (h : hvL hl (tolV Λ σ p (σ 0 (1 + p))) ≤ 0) : takP Λ hl tl w p σ = σ := if_pos h
theorem takP_0 {Λ σ : Mm} {hl tl : List Int} {w p : Int} (h : ¬ hvL hl (tolV Λ σ p (σ 0 (1 + p))) ≤ 0) (hw : w = 0) : takP Λ hl tl w p σ = folP Λ p (σ 0 (1 + p)) σ := by
  unfold takP
  rw [if_neg h, if_pos hw]
theorem takP_1 {Λ σ : Mm} {hl tl : List Int} {w p : Int} (h : ¬ hvL hl (tolV Λ σ p (σ 0 (1 + p))) ≤ 0) (hw : w ≠ 0) : takP Λ hl tl w p σ = trnP Λ (σ 0 (1 + p)) (tvL tl (tolV Λ σ p (σ 0 (1 + p)))) (folP Λ p (σ 0 (1 + p)) σ) := by
  unfold takP
  rw [if_neg h, if_neg hw]
theorem WS.up {Λ σ : Mm} {b b' : Int} (h : WS Λ b σ) (hb : b ≤ b') : WS Λ b' σ := ⟨⟨h.1.1, by have := h.1.2; omega⟩, fun p a c => by have := h.2.1 p a c; omega, fun c a d => by have := h.2.2.1 c a d; omega, fun j a c => by have := h.2.2.2 j a c; omega⟩
theorem folP_WS {Λ σ : Mm} {b p c : Int} (hW : WL Λ) (h : WS Λ b σ) (hb : 0 ≤ b) (hp : 0 ≤ p ∧ p < Λ 0 1) (hc : 0 ≤ c ∧ c < Λ 0 0) (hr : 0 < Λ 3 c) : WS Λ (b + 1) (folP Λ p c σ) := by
  have hn := hW.1
  have hn8 := hW.2.1
  have hc1 := h.2.2.1 c hc.1 hc.2
  have hp1 := h.2.1 p hp.1 hp.2
  have he := hW.2.2.2.1 c (σ 0 (17 + c)) hc.1 hc.2 hc1.1 (hc1.2.1 hr)
  have ht := hW.2.2.1 _ he.1 he.2
  unfold folP
  split
  · exact h.up (by omega)
  · rename_i hno
    refine ⟨?_, fun q a d => ?_, fun q a d => ?_, fun j a d => ?_⟩
    · have := h.1
      simp only [wr, true_and, and_true, false_and, if_false, if_true, Int.reduceEq]
      (repeat' split) <;> omega
    · have := h.2.1 q a d
      simp only [wr, true_and, and_true, false_and, if_false, if_true, Int.reduceEq]
      (repeat' split) <;> omega
    · have := h.2.2.1 q a d
      simp only [wr, true_and, and_true, false_and, if_false, if_true, Int.reduceEq]
      (repeat' split) <;> omega
    · have := h.2.2.2 j a d
      have h2 := h.2.2.2 (c * 5 + σ 0 (17 + c))
      simp only [wr, true_and, and_true, false_and, if_false, if_true, Int.reduceEq]
      (repeat' split) <;> omega
theorem sp_takeTurn {l : Launch} {γ : Gh} {ρ m : Mm} {p w : Int} {ld b : Int} {Λ σ : Mm} {hl tl : List Int} (hL : LY ρ) (hLt : ρ 62 0 = ld) (hS : isS ρ ld) (hR : MR m) (hW : WL Λ) (hG : LandC m ld Λ hl tl) (hT : TripC m σ) (hσ : WS Λ b σ) (hb : 0 ≤ b ∧ b < 100000) (hp : 0 ≤ p ∧ p < Λ 0 1) (hw : w = 0 ∨ w = 1) (hx : 0 < Λ 3 (σ 0 (1 + p))) : gE l γ μX8_takeTurn 3 0 0 (rV KK fun ρ9 m9 => ρ = ρ9 ∧ MR m9 ∧ TripC m9 (takP Λ hl tl w p σ) ∧ Fr (trL ld) m m9) xN KK ρ m [vR 62, vI p, vI w] := by
  refine gE.ofw cl_X8.2 ?_ rfl rfl (Nat.le_of_ble_eq_true rfl)
  show gT l γ μX8_takeTurn 3 0 0 _ _ KK ρ m 0 [some (vR 62), some (vI p), some (vI w), none, none] []
  have hn := hW.1
  have hn8 := hW.2.1
  have hld := hG.ld9
  have hp1 := hσ.2.1 p hp.1 hp.2
  have hc : 0 ≤ σ 0 (1 + p) ∧ σ 0 (1 + p) < Λ 0 0 := ⟨hp1.1, hp1.2.1⟩
  have hlt := tld_01 hl
  have htt := tld_01 tl
  refine tz_aload0 (n := 1) (g_at ck_X8_takeTurn 0 rfl) rfl (g_ne kd_62) ?_
  refine tz_getOv (n := 4) (a := 63) fk_X8_12 kd_62 (ly_62_1 hL) (g_at ck_X8_takeTurn 1 rfl) rfl ?_
  refine tz_getAv (n := 7) (a := 64) fk_X8_61 (isM_63 hL).k0 (isM_63 hL).r0_1 (g_at ck_X8_takeTurn 2 rfl) rfl ?_
  refine tz_iload1 (n := 8) (g_at ck_X8_takeTurn 3 rfl) rfl ?_
  refine tz_iald (n := 9) (isM_63 hL).k1 (by omega) (g_at ck_X8_takeTurn 4 rfl) rfl ?_
  rw [hT.whr p (by omega)]
  refine tz_istore3 (n := 10) (g_at ck_X8_takeTurn 5 rfl) rfl (by decide) g_hpI ?_
  refine tz_aload0 (n := 11) (g_at ck_X8_takeTurn 6 rfl) rfl (g_ne kd_62) ?_
  refine tz_getOv (n := 14) (a := ld) fk_X8_30 kd_62 hLt (g_at ck_X8_takeTurn 7 rfl) rfl ?_
  refine tz_getOv (n := 17) (a := (ld + 6)) fk_X8_71 hS.k0 hS.r0_7 (g_at ck_X8_takeTurn 8 rfl) rfl ?_
  refine tz_cvI0 (n := 20) (μ' := μX4_isTold) (cb' := 0) (sb' := 0) ml_X8_75 mo_X4_isTold mv_X4_isTold np_X4_isTold hS.hee.k0 (g_at ck_X8_takeTurn 9 rfl) (sp_isTold hS.hee hR) rfl rfl rfl ⟨by decide, by decide⟩ (Nat.le_of_ble_eq_true rfl) (by decide) (by decide) (fun x17 ρ9 m17 hq => ?_)
  obtain ⟨rfl, hR1, rfl, rfl⟩ := hq
  rw [hG.hr.told]
  refine tz_if_ne (n := 23) (tgt := 36) (g_at ck_X8_takeTurn 10 rfl) rfl rfl (by omega) (fun h20 => ?_) (fun h20 => ?_)
  · skip
    refine tz_aload0 (n := 37) (g_at ck_X8_takeTurn 16 rfl) rfl (g_ne kd_62) ?_
    refine tz_iload1 (n := 38) (g_at ck_X8_takeTurn 17 rfl) rfl ?_
    refine tz_iload3 (n := 39) (g_at ck_X8_takeTurn 18 rfl) rfl ?_
    refine tz_cvV2 (n := 42) (μ' := μX8_findValues) (cb' := 0) (sb' := 0) ml_X8_82 mo_X8_findValues mv_X8_findValues np_X8_findValues kd_62 (g_at ck_X8_takeTurn 19 rfl) (sp_findV hL hLt hS hR1 hW hG hT hσ (by omega) (by omega) hc) rfl rfl rfl ⟨by decide, by decide⟩ (Nat.le_of_ble_eq_true rfl) (by decide) (by decide) (fun ρ9 m39 hq => ?_)
    obtain ⟨rfl, hR2, hV39, hF39⟩ := hq
    have hG39 := hG.fr (hF39.sub trL_70)
    have hT39 := hT.sam (fr_70 hF39)
    refine tz_aload0 (n := 43) (g_at ck_X8_takeTurn 20 rfl) rfl (g_ne kd_62) ?_
    refine tz_getOv (n := 46) (a := ld) fk_X8_30 kd_62 hLt (g_at ck_X8_takeTurn 21 rfl) rfl ?_
    refine tz_getOv (n := 49) (a := (ld + 6)) fk_X8_71 hS.k0 hS.r0_7 (g_at ck_X8_takeTurn 22 rfl) rfl ?_
    refine tz_cvI0 (n := 52) (μ' := μX4_isTold) (cb' := 0) (sb' := 0) ml_X8_75 mo_X4_isTold mv_X4_isTold np_X4_isTold hS.hee.k0 (g_at ck_X8_takeTurn 23 rfl) (sp_isTold hS.hee hR2) rfl rfl rfl ⟨by decide, by decide⟩ (Nat.le_of_ble_eq_true rfl) (by decide) (by decide) (fun x49 ρ9 m49 hq => ?_)
    obtain ⟨rfl, hR3, rfl, rfl⟩ := hq
    rw [hG39.hr.told]
    refine tz_if_eq (n := 55) (tgt := 73) (g_at ck_X8_takeTurn 24 rfl) rfl rfl (by omega) (fun h52 => absurd h52 (by omega)) (fun h52 => ?_)
    refine tz_aload0 (n := 56) (g_at ck_X8_takeTurn 25 rfl) rfl (g_ne kd_62) ?_
    refine tz_getOv (n := 59) (a := ld) fk_X8_30 kd_62 hLt (g_at ck_X8_takeTurn 26 rfl) rfl ?_
    refine tz_getOv (n := 62) (a := (ld + 6)) fk_X8_71 hS.k0 hS.r0_7 (g_at ck_X8_takeTurn 27 rfl) rfl ?_
    refine tz_aload0 (n := 63) (g_at ck_X8_takeTurn 28 rfl) rfl (g_ne kd_62) ?_
    refine tz_getAv (n := 66) (a := 70) fk_X8_27 kd_62 (ly_62_4 hL) (g_at ck_X8_takeTurn 29 rfl) rfl ?_
    refine tz_cvI1 (n := 69) (μ' := μX4_value) (cb' := 0) (sb' := 0) ml_X8_86 mo_X4_value mv_X4_value np_X4_value hS.hee.k0 (g_at ck_X8_takeTurn 30 rfl) (sp_value hS.hee kd_70 (by omega) hR3 (by rw [hG39.hr.1]; have := hG39.hr.2.1; omega)) rfl rfl rfl ⟨by decide, by decide⟩ (Nat.le_of_ble_eq_true rfl) (by decide) (by decide) (fun x66 ρ9 m66 hq => ?_)
    obtain ⟨rfl, hR4, hx66, hm66⟩ := hq
    have hr66 : -2147483648 ≤ x66 ∧ x66 < 2147483648 := by rw [← hx66]; exact valR_rg (valS_rg (hR3 _) (hR3 _) (hR3 _) _)
    rw [val_ev hG39.hr (tld_ne h20), evC_congr hV39] at hx66
    have hv66 : hvL hl (tolV Λ σ p (σ 0 (1 + p))) = x66 := (hvL_told (tld_ne h20)).trans hx66
    have hF66 : Fr (trL ld) m m66 := (hF39.sub trL_70).tr (by rw [← hm66]; exact Fr.rf.upA trL_8)
    have hG66 := hG.fr hF66
    have hT66 : TripC m66 σ := hT39.sam (fun a h1 h2 => by rw [← hm66]; exact upA_ne (by omega))
    have hV66 : ∀ k, 0 ≤ k → k < 5 → m66 70 k = tolV Λ σ p (σ 0 (1 + p)) k := by rw [← hm66, upA_ne (by omega)]; exact hV39
    refine tz_if_gt (n := 72) (tgt := 73) (g_at ck_X8_takeTurn 31 rfl) rfl rfl hr66 (fun h69 => ?_) (fun h69 => ?_)
    · skip
      refine tz_iconst (n := 74) (g_at ck_X8_takeTurn 33 rfl) rfl ?_
      refine tz_istore4 (n := 76) (g_at ck_X8_takeTurn 34 rfl) rfl (by decide) g_hpI ?_
      refine tz_aload0 (n := 77) (g_at ck_X8_takeTurn 35 rfl) rfl (g_ne kd_62) ?_
      refine tz_getOv (n := 80) (a := ld) fk_X8_30 kd_62 hLt (g_at ck_X8_takeTurn 36 rfl) rfl ?_
      refine tz_getOv (n := 83) (a := (ld + 9)) fk_X8_79 hS.k0 hS.r0_8 (g_at ck_X8_takeTurn 37 rfl) rfl ?_
      refine tz_cvI0 (n := 86) (μ' := μX4_isTold) (cb' := 0) (sb' := 0) ml_X8_75 mo_X4_isTold mv_X4_isTold np_X4_isTold hS.tur.k0 (g_at ck_X8_takeTurn 38 rfl) (sp_isTold hS.tur hR4) rfl rfl rfl ⟨by decide, by decide⟩ (Nat.le_of_ble_eq_true rfl) (by decide) (by decide) (fun x83 ρ9 m83 hq => ?_)
      obtain ⟨rfl, hR5, rfl, rfl⟩ := hq
      rw [hG66.tr.told]
      refine tz_if_eq (n := 89) (tgt := 114) (g_at ck_X8_takeTurn 39 rfl) rfl rfl (by omega) (fun h86 => ?_) (fun h86 => ?_)
      · skip
        refine tz_aload0 (n := 115) (g_at ck_X8_takeTurn 51 rfl) rfl (g_ne kd_62) ?_
        refine tz_iload1 (n := 116) (g_at ck_X8_takeTurn 52 rfl) rfl ?_
        refine tz_iload3 (n := 117) (g_at ck_X8_takeTurn 53 rfl) rfl ?_
        refine tz_cvV2 (n := 120) (μ' := μX8_follow) (cb' := 0) (sb' := 0) ml_X8_99 mo_X8_follow mv_X8_follow np_X8_follow kd_62 (g_at ck_X8_takeTurn 54 rfl) (sp_follow hL hLt hS hR5 hW hG66 hT66 hσ (by omega) (by omega) hc hx) rfl rfl rfl ⟨by decide, by decide⟩ (Nat.le_of_ble_eq_true rfl) (by decide) (by decide) (fun ρ9 m117 hq => ?_)
        obtain ⟨rfl, hR6, hT117, hF117⟩ := hq
        have hG117 := hG66.fr (hF117.sub trL_4)
        have hF117t : Fr (trL ld) m m117 := hF66.tr (hF117.sub trL_4)
        refine tz_iload2 (n := 121) (g_at ck_X8_takeTurn 55 rfl) rfl ?_
        refine tz_if_eq (n := 124) (tgt := 131) (g_at ck_X8_takeTurn 56 rfl) rfl rfl (by omega) (fun h121 => ?_) (fun h121 => ?_)
        · skip
          exact tz_vret (g_at ck_X8_takeTurn 61 rfl) rfl (rV_mk ⟨rfl, hR6, by rw [takP_0 (by rw [hv66]; omega) h121]; exact hT117, hF117t⟩)
        · skip
          refine tz_aload0 (n := 125) (g_at ck_X8_takeTurn 57 rfl) rfl (g_ne kd_62) ?_
          refine tz_iload3 (n := 126) (g_at ck_X8_takeTurn 58 rfl) rfl ?_
          refine tz_iload4 (n := 128) (g_at ck_X8_takeTurn 59 rfl) rfl ?_
          refine tz_cvV2 (n := 131) (μ' := μX8_turnOn) (cb' := 0) (sb' := 0) ml_X8_102 mo_X8_turnOn mv_X8_turnOn np_X8_turnOn kd_62 (g_at ck_X8_takeTurn 60 rfl) (sp_turnOn hL hLt hS hR6 hW hG117 hT117 (folP_WS hW hσ hb.1 hp hc hx) (by omega) hc (by omega)) rfl rfl rfl ⟨by decide, by decide⟩ (Nat.le_of_ble_eq_true rfl) (by decide) (by decide) (fun ρ9 m128 hq => ?_)
          obtain ⟨rfl, hR7, hT128, hF128⟩ := hq
          exact tz_vret (g_at ck_X8_takeTurn 61 rfl) rfl (rV_mk ⟨rfl, hR7, by rw [takP_1 (by rw [hv66]; omega) h121, tvL_not (tld_eq (by omega))]; exact hT128, hF117t.tr (hF128.sub trL_66)⟩)
      · skip
        refine tz_iconst (n := 90) (g_at ck_X8_takeTurn 40 rfl) rfl ?_
        refine tz_bipush (n := 92) (g_at ck_X8_takeTurn 41 rfl) rfl rfl ?_
        refine tz_aload0 (n := 93) (g_at ck_X8_takeTurn 42 rfl) rfl (g_ne kd_62) ?_
        refine tz_getOv (n := 96) (a := ld) fk_X8_30 kd_62 hLt (g_at ck_X8_takeTurn 43 rfl) rfl ?_
        refine tz_getOv (n := 99) (a := (ld + 9)) fk_X8_79 hS.k0 hS.r0_8 (g_at ck_X8_takeTurn 44 rfl) rfl ?_
        refine tz_aload0 (n := 100) (g_at ck_X8_takeTurn 45 rfl) rfl (g_ne kd_62) ?_
        refine tz_getAv (n := 103) (a := 70) fk_X8_27 kd_62 (ly_62_4 hL) (g_at ck_X8_takeTurn 46 rfl) rfl ?_
        refine tz_cvI1 (n := 106) (μ' := μX4_value) (cb' := 0) (sb' := 0) ml_X8_86 mo_X4_value mv_X4_value np_X4_value hS.tur.k0 (g_at ck_X8_takeTurn 47 rfl) (sp_value hS.tur kd_70 (by omega) hR5 (by rw [hG66.tr.1]; have := hG66.tr.2.1; omega)) rfl rfl rfl ⟨by decide, by decide⟩ (Nat.le_of_ble_eq_true rfl) (by decide) (by decide) (fun x103 ρ9 m103 hq => ?_)
        obtain ⟨rfl, hR8, hx103, hm103⟩ := hq
        have hr103 : -2147483648 ≤ x103 ∧ x103 < 2147483648 := by rw [← hx103]; exact valR_rg (valS_rg (hR5 _) (hR5 _) (hR5 _) _)
        rw [val_ev hG66.tr (tld_ne (by omega)), evC_congr hV66] at hx103
        have hv103 : tvL tl (tolV Λ σ p (σ 0 (1 + p))) = clamp9 x103 := (tvL_told (tld_ne (by omega))).trans (by rw [hx103])
        have hF103 : Fr (trL ld) m m103 := hF66.tr (by rw [← hm103]; exact Fr.rf.upA trL_11)
        have hG103 := hG.fr hF103
        have hT103 : TripC m103 σ := hT66.sam (fun a h1 h2 => by rw [← hm103]; exact upA_ne (by omega))
        have hk9 := clamp9_rg x103
        refine tz_mmin (n := 109) mm_X8_90 mmin_1 mm_i mmin_2 ⟨by decide, by decide, hr103.1, hr103.2⟩ (g_at ck_X8_takeTurn 48 rfl) rfl (by decide) (Nat.le_of_ble_eq_true rfl) ?_
        refine tz_mmax (n := 112) mm_X8_96 mmax_1 mm_i mmax_2 ⟨by decide, by decide, by split <;> omega, by split <;> omega⟩ (g_at ck_X8_takeTurn 49 rfl) rfl (by decide) (Nat.le_of_ble_eq_true rfl) ?_
        rw [clampM]
        refine tz_istore4 (n := 114) (g_at ck_X8_takeTurn 50 rfl) rfl (by decide) g_hpI ?_
        refine tz_aload0 (n := 115) (g_at ck_X8_takeTurn 51 rfl) rfl (g_ne kd_62) ?_
        refine tz_iload1 (n := 116) (g_at ck_X8_takeTurn 52 rfl) rfl ?_
        refine tz_iload3 (n := 117) (g_at ck_X8_takeTurn 53 rfl) rfl ?_
        refine tz_cvV2 (n := 120) (μ' := μX8_follow) (cb' := 0) (sb' := 0) ml_X8_99 mo_X8_follow mv_X8_follow np_X8_follow kd_62 (g_at ck_X8_takeTurn 54 rfl) (sp_follow hL hLt hS hR8 hW hG103 hT103 hσ (by omega) (by omega) hc hx) rfl rfl rfl ⟨by decide, by decide⟩ (Nat.le_of_ble_eq_true rfl) (by decide) (by decide) (fun ρ9 m117 hq => ?_)
        obtain ⟨rfl, hR9, hT117, hF117⟩ := hq
        have hG117 := hG103.fr (hF117.sub trL_4)
        have hF117t : Fr (trL ld) m m117 := hF103.tr (hF117.sub trL_4)
        refine tz_iload2 (n := 121) (g_at ck_X8_takeTurn 55 rfl) rfl ?_
        refine tz_if_eq (n := 124) (tgt := 131) (g_at ck_X8_takeTurn 56 rfl) rfl rfl (by omega) (fun h121 => ?_) (fun h121 => ?_)
        · skip
          exact tz_vret (g_at ck_X8_takeTurn 61 rfl) rfl (rV_mk ⟨rfl, hR9, by rw [takP_0 (by rw [hv66]; omega) h121]; exact hT117, hF117t⟩)
        · skip
          refine tz_aload0 (n := 125) (g_at ck_X8_takeTurn 57 rfl) rfl (g_ne kd_62) ?_
          refine tz_iload3 (n := 126) (g_at ck_X8_takeTurn 58 rfl) rfl ?_
          refine tz_iload4 (n := 128) (g_at ck_X8_takeTurn 59 rfl) rfl ?_
          refine tz_cvV2 (n := 131) (μ' := μX8_turnOn) (cb' := 0) (sb' := 0) ml_X8_102 mo_X8_turnOn mv_X8_turnOn np_X8_turnOn kd_62 (g_at ck_X8_takeTurn 60 rfl) (sp_turnOn hL hLt hS hR9 hW hG117 hT117 (folP_WS hW hσ hb.1 hp hc hx) (by omega) hc (by omega)) rfl rfl rfl ⟨by decide, by decide⟩ (Nat.le_of_ble_eq_true rfl) (by decide) (by decide) (fun ρ9 m128 hq => ?_)
          obtain ⟨rfl, hR10, hT128, hF128⟩ := hq
          exact tz_vret (g_at ck_X8_takeTurn 61 rfl) rfl (rV_mk ⟨rfl, hR10, by rw [takP_1 (by rw [hv66]; omega) h121, hv103]; exact hT128, hF117t.tr (hF128.sub trL_66)⟩)
    · skip
      exact tz_vret (g_at ck_X8_takeTurn 32 rfl) rfl (rV_mk ⟨rfl, hR4, by rw [takP_no (by rw [hv66]; omega)]; exact hT66, hF66⟩)
  · skip
    refine tz_aload0 (n := 24) (g_at ck_X8_takeTurn 11 rfl) rfl (g_ne kd_62) ?_
    refine tz_getOv (n := 27) (a := ld) fk_X8_30 kd_62 hLt (g_at ck_X8_takeTurn 12 rfl) rfl ?_
    refine tz_getOv (n := 30) (a := (ld + 9)) fk_X8_79 hS.k0 hS.r0_8 (g_at ck_X8_takeTurn 13 rfl) rfl ?_
    refine tz_cvI0 (n := 33) (μ' := μX4_isTold) (cb' := 0) (sb' := 0) ml_X8_75 mo_X4_isTold mv_X4_isTold np_X4_isTold hS.tur.k0 (g_at ck_X8_takeTurn 14 rfl) (sp_isTold hS.tur hR1) rfl rfl rfl ⟨by decide, by decide⟩ (Nat.le_of_ble_eq_true rfl) (by decide) (by decide) (fun x30 ρ9 m30 hq => ?_)
    obtain ⟨rfl, hR11, rfl, rfl⟩ := hq
    rw [hG.tr.told]
    refine tz_if_eq (n := 36) (tgt := 42) (g_at ck_X8_takeTurn 15 rfl) rfl rfl (by omega) (fun h33 => ?_) (fun h33 => ?_)
    · skip
      refine tz_aload0 (n := 43) (g_at ck_X8_takeTurn 20 rfl) rfl (g_ne kd_62) ?_
      refine tz_getOv (n := 46) (a := ld) fk_X8_30 kd_62 hLt (g_at ck_X8_takeTurn 21 rfl) rfl ?_
      refine tz_getOv (n := 49) (a := (ld + 6)) fk_X8_71 hS.k0 hS.r0_7 (g_at ck_X8_takeTurn 22 rfl) rfl ?_
      refine tz_cvI0 (n := 52) (μ' := μX4_isTold) (cb' := 0) (sb' := 0) ml_X8_75 mo_X4_isTold mv_X4_isTold np_X4_isTold hS.hee.k0 (g_at ck_X8_takeTurn 23 rfl) (sp_isTold hS.hee hR11) rfl rfl rfl ⟨by decide, by decide⟩ (Nat.le_of_ble_eq_true rfl) (by decide) (by decide) (fun x49 ρ9 m49 hq => ?_)
      obtain ⟨rfl, hR12, rfl, rfl⟩ := hq
      rw [hG.hr.told]
      refine tz_if_eq (n := 55) (tgt := 73) (g_at ck_X8_takeTurn 24 rfl) rfl rfl (by omega) (fun h52 => ?_) (fun h52 => absurd h52 (by omega))
      refine tz_iconst (n := 74) (g_at ck_X8_takeTurn 33 rfl) rfl ?_
      refine tz_istore4 (n := 76) (g_at ck_X8_takeTurn 34 rfl) rfl (by decide) g_hpI ?_
      refine tz_aload0 (n := 77) (g_at ck_X8_takeTurn 35 rfl) rfl (g_ne kd_62) ?_
      refine tz_getOv (n := 80) (a := ld) fk_X8_30 kd_62 hLt (g_at ck_X8_takeTurn 36 rfl) rfl ?_
      refine tz_getOv (n := 83) (a := (ld + 9)) fk_X8_79 hS.k0 hS.r0_8 (g_at ck_X8_takeTurn 37 rfl) rfl ?_
      refine tz_cvI0 (n := 86) (μ' := μX4_isTold) (cb' := 0) (sb' := 0) ml_X8_75 mo_X4_isTold mv_X4_isTold np_X4_isTold hS.tur.k0 (g_at ck_X8_takeTurn 38 rfl) (sp_isTold hS.tur hR12) rfl rfl rfl ⟨by decide, by decide⟩ (Nat.le_of_ble_eq_true rfl) (by decide) (by decide) (fun x83 ρ9 m83 hq => ?_)
      obtain ⟨rfl, hR13, rfl, rfl⟩ := hq
      rw [hG.tr.told]
      refine tz_if_eq (n := 89) (tgt := 114) (g_at ck_X8_takeTurn 39 rfl) rfl rfl (by omega) (fun h86 => ?_) (fun h86 => absurd h86 (by omega))
      refine tz_aload0 (n := 115) (g_at ck_X8_takeTurn 51 rfl) rfl (g_ne kd_62) ?_
      refine tz_iload1 (n := 116) (g_at ck_X8_takeTurn 52 rfl) rfl ?_
      refine tz_iload3 (n := 117) (g_at ck_X8_takeTurn 53 rfl) rfl ?_
      refine tz_cvV2 (n := 120) (μ' := μX8_follow) (cb' := 0) (sb' := 0) ml_X8_99 mo_X8_follow mv_X8_follow np_X8_follow kd_62 (g_at ck_X8_takeTurn 54 rfl) (sp_follow hL hLt hS hR13 hW hG hT hσ (by omega) (by omega) hc hx) rfl rfl rfl ⟨by decide, by decide⟩ (Nat.le_of_ble_eq_true rfl) (by decide) (by decide) (fun ρ9 m117 hq => ?_)
      obtain ⟨rfl, hR14, hT117, hF117⟩ := hq
      have hG117 := hG.fr (hF117.sub trL_4)
      have hF117t : Fr (trL ld) m m117 := hF117.sub trL_4
      refine tz_iload2 (n := 121) (g_at ck_X8_takeTurn 55 rfl) rfl ?_
      refine tz_if_eq (n := 124) (tgt := 131) (g_at ck_X8_takeTurn 56 rfl) rfl rfl (by omega) (fun h121 => ?_) (fun h121 => ?_)
      · skip
        exact tz_vret (g_at ck_X8_takeTurn 61 rfl) rfl (rV_mk ⟨rfl, hR14, by rw [takP_0 (by rw [hvL_not (tld_eq (by omega))]; decide) h121]; exact hT117, hF117t⟩)
      · skip
        refine tz_aload0 (n := 125) (g_at ck_X8_takeTurn 57 rfl) rfl (g_ne kd_62) ?_
        refine tz_iload3 (n := 126) (g_at ck_X8_takeTurn 58 rfl) rfl ?_
        refine tz_iload4 (n := 128) (g_at ck_X8_takeTurn 59 rfl) rfl ?_
        refine tz_cvV2 (n := 131) (μ' := μX8_turnOn) (cb' := 0) (sb' := 0) ml_X8_102 mo_X8_turnOn mv_X8_turnOn np_X8_turnOn kd_62 (g_at ck_X8_takeTurn 60 rfl) (sp_turnOn hL hLt hS hR14 hW hG117 hT117 (folP_WS hW hσ hb.1 hp hc hx) (by omega) hc (by omega)) rfl rfl rfl ⟨by decide, by decide⟩ (Nat.le_of_ble_eq_true rfl) (by decide) (by decide) (fun ρ9 m128 hq => ?_)
        obtain ⟨rfl, hR15, hT128, hF128⟩ := hq
        exact tz_vret (g_at ck_X8_takeTurn 61 rfl) rfl (rV_mk ⟨rfl, hR15, by rw [takP_1 (by rw [hvL_not (tld_eq (by omega))]; decide) h121, tvL_not (tld_eq (by omega))]; exact hT128, hF117t.tr (hF128.sub trL_66)⟩)
    · skip
      refine tz_aload0 (n := 37) (g_at ck_X8_takeTurn 16 rfl) rfl (g_ne kd_62) ?_
      refine tz_iload1 (n := 38) (g_at ck_X8_takeTurn 17 rfl) rfl ?_
      refine tz_iload3 (n := 39) (g_at ck_X8_takeTurn 18 rfl) rfl ?_
      refine tz_cvV2 (n := 42) (μ' := μX8_findValues) (cb' := 0) (sb' := 0) ml_X8_82 mo_X8_findValues mv_X8_findValues np_X8_findValues kd_62 (g_at ck_X8_takeTurn 19 rfl) (sp_findV hL hLt hS hR11 hW hG hT hσ (by omega) (by omega) hc) rfl rfl rfl ⟨by decide, by decide⟩ (Nat.le_of_ble_eq_true rfl) (by decide) (by decide) (fun ρ9 m39 hq => ?_)
      obtain ⟨rfl, hR16, hV39, hF39⟩ := hq
      have hG39 := hG.fr (hF39.sub trL_70)
      have hT39 := hT.sam (fr_70 hF39)
      refine tz_aload0 (n := 43) (g_at ck_X8_takeTurn 20 rfl) rfl (g_ne kd_62) ?_
      refine tz_getOv (n := 46) (a := ld) fk_X8_30 kd_62 hLt (g_at ck_X8_takeTurn 21 rfl) rfl ?_
      refine tz_getOv (n := 49) (a := (ld + 6)) fk_X8_71 hS.k0 hS.r0_7 (g_at ck_X8_takeTurn 22 rfl) rfl ?_
      refine tz_cvI0 (n := 52) (μ' := μX4_isTold) (cb' := 0) (sb' := 0) ml_X8_75 mo_X4_isTold mv_X4_isTold np_X4_isTold hS.hee.k0 (g_at ck_X8_takeTurn 23 rfl) (sp_isTold hS.hee hR16) rfl rfl rfl ⟨by decide, by decide⟩ (Nat.le_of_ble_eq_true rfl) (by decide) (by decide) (fun x49 ρ9 m49 hq => ?_)
      obtain ⟨rfl, hR17, rfl, rfl⟩ := hq
      rw [hG39.hr.told]
      refine tz_if_eq (n := 55) (tgt := 73) (g_at ck_X8_takeTurn 24 rfl) rfl rfl (by omega) (fun h52 => ?_) (fun h52 => absurd h52 (by omega))
      refine tz_iconst (n := 74) (g_at ck_X8_takeTurn 33 rfl) rfl ?_
      refine tz_istore4 (n := 76) (g_at ck_X8_takeTurn 34 rfl) rfl (by decide) g_hpI ?_
      refine tz_aload0 (n := 77) (g_at ck_X8_takeTurn 35 rfl) rfl (g_ne kd_62) ?_
      refine tz_getOv (n := 80) (a := ld) fk_X8_30 kd_62 hLt (g_at ck_X8_takeTurn 36 rfl) rfl ?_
      refine tz_getOv (n := 83) (a := (ld + 9)) fk_X8_79 hS.k0 hS.r0_8 (g_at ck_X8_takeTurn 37 rfl) rfl ?_
      refine tz_cvI0 (n := 86) (μ' := μX4_isTold) (cb' := 0) (sb' := 0) ml_X8_75 mo_X4_isTold mv_X4_isTold np_X4_isTold hS.tur.k0 (g_at ck_X8_takeTurn 38 rfl) (sp_isTold hS.tur hR17) rfl rfl rfl ⟨by decide, by decide⟩ (Nat.le_of_ble_eq_true rfl) (by decide) (by decide) (fun x83 ρ9 m83 hq => ?_)
      obtain ⟨rfl, hR18, rfl, rfl⟩ := hq
      rw [hG39.tr.told]
      refine tz_if_eq (n := 89) (tgt := 114) (g_at ck_X8_takeTurn 39 rfl) rfl rfl (by omega) (fun h86 => absurd h86 (by omega)) (fun h86 => ?_)
      refine tz_iconst (n := 90) (g_at ck_X8_takeTurn 40 rfl) rfl ?_
      refine tz_bipush (n := 92) (g_at ck_X8_takeTurn 41 rfl) rfl rfl ?_
      refine tz_aload0 (n := 93) (g_at ck_X8_takeTurn 42 rfl) rfl (g_ne kd_62) ?_
      refine tz_getOv (n := 96) (a := ld) fk_X8_30 kd_62 hLt (g_at ck_X8_takeTurn 43 rfl) rfl ?_
      refine tz_getOv (n := 99) (a := (ld + 9)) fk_X8_79 hS.k0 hS.r0_8 (g_at ck_X8_takeTurn 44 rfl) rfl ?_
      refine tz_aload0 (n := 100) (g_at ck_X8_takeTurn 45 rfl) rfl (g_ne kd_62) ?_
      refine tz_getAv (n := 103) (a := 70) fk_X8_27 kd_62 (ly_62_4 hL) (g_at ck_X8_takeTurn 46 rfl) rfl ?_
      refine tz_cvI1 (n := 106) (μ' := μX4_value) (cb' := 0) (sb' := 0) ml_X8_86 mo_X4_value mv_X4_value np_X4_value hS.tur.k0 (g_at ck_X8_takeTurn 47 rfl) (sp_value hS.tur kd_70 (by omega) hR18 (by rw [hG39.tr.1]; have := hG39.tr.2.1; omega)) rfl rfl rfl ⟨by decide, by decide⟩ (Nat.le_of_ble_eq_true rfl) (by decide) (by decide) (fun x103 ρ9 m103 hq => ?_)
      obtain ⟨rfl, hR19, hx103, hm103⟩ := hq
      have hr103 : -2147483648 ≤ x103 ∧ x103 < 2147483648 := by rw [← hx103]; exact valR_rg (valS_rg (hR18 _) (hR18 _) (hR18 _) _)
      rw [val_ev hG39.tr (tld_ne (by omega)), evC_congr hV39] at hx103
      have hv103 : tvL tl (tolV Λ σ p (σ 0 (1 + p))) = clamp9 x103 := (tvL_told (tld_ne (by omega))).trans (by rw [hx103])
      have hF103 : Fr (trL ld) m m103 := (hF39.sub trL_70).tr (by rw [← hm103]; exact Fr.rf.upA trL_11)
      have hG103 := hG.fr hF103
      have hT103 : TripC m103 σ := hT39.sam (fun a h1 h2 => by rw [← hm103]; exact upA_ne (by omega))
      have hk9 := clamp9_rg x103
      refine tz_mmin (n := 109) mm_X8_90 mmin_1 mm_i mmin_2 ⟨by decide, by decide, hr103.1, hr103.2⟩ (g_at ck_X8_takeTurn 48 rfl) rfl (by decide) (Nat.le_of_ble_eq_true rfl) ?_
      refine tz_mmax (n := 112) mm_X8_96 mmax_1 mm_i mmax_2 ⟨by decide, by decide, by split <;> omega, by split <;> omega⟩ (g_at ck_X8_takeTurn 49 rfl) rfl (by decide) (Nat.le_of_ble_eq_true rfl) ?_
      rw [clampM]
      refine tz_istore4 (n := 114) (g_at ck_X8_takeTurn 50 rfl) rfl (by decide) g_hpI ?_
      refine tz_aload0 (n := 115) (g_at ck_X8_takeTurn 51 rfl) rfl (g_ne kd_62) ?_
      refine tz_iload1 (n := 116) (g_at ck_X8_takeTurn 52 rfl) rfl ?_
      refine tz_iload3 (n := 117) (g_at ck_X8_takeTurn 53 rfl) rfl ?_
      refine tz_cvV2 (n := 120) (μ' := μX8_follow) (cb' := 0) (sb' := 0) ml_X8_99 mo_X8_follow mv_X8_follow np_X8_follow kd_62 (g_at ck_X8_takeTurn 54 rfl) (sp_follow hL hLt hS hR19 hW hG103 hT103 hσ (by omega) (by omega) hc hx) rfl rfl rfl ⟨by decide, by decide⟩ (Nat.le_of_ble_eq_true rfl) (by decide) (by decide) (fun ρ9 m117 hq => ?_)
      obtain ⟨rfl, hR20, hT117, hF117⟩ := hq
      have hG117 := hG103.fr (hF117.sub trL_4)
      have hF117t : Fr (trL ld) m m117 := hF103.tr (hF117.sub trL_4)
      refine tz_iload2 (n := 121) (g_at ck_X8_takeTurn 55 rfl) rfl ?_
      refine tz_if_eq (n := 124) (tgt := 131) (g_at ck_X8_takeTurn 56 rfl) rfl rfl (by omega) (fun h121 => ?_) (fun h121 => ?_)
      · skip
        exact tz_vret (g_at ck_X8_takeTurn 61 rfl) rfl (rV_mk ⟨rfl, hR20, by rw [takP_0 (by rw [hvL_not (tld_eq (by omega))]; decide) h121]; exact hT117, hF117t⟩)
      · skip
        refine tz_aload0 (n := 125) (g_at ck_X8_takeTurn 57 rfl) rfl (g_ne kd_62) ?_
        refine tz_iload3 (n := 126) (g_at ck_X8_takeTurn 58 rfl) rfl ?_
        refine tz_iload4 (n := 128) (g_at ck_X8_takeTurn 59 rfl) rfl ?_
        refine tz_cvV2 (n := 131) (μ' := μX8_turnOn) (cb' := 0) (sb' := 0) ml_X8_102 mo_X8_turnOn mv_X8_turnOn np_X8_turnOn kd_62 (g_at ck_X8_takeTurn 60 rfl) (sp_turnOn hL hLt hS hR20 hW hG117 hT117 (folP_WS hW hσ hb.1 hp hc hx) (by omega) hc (by omega)) rfl rfl rfl ⟨by decide, by decide⟩ (Nat.le_of_ble_eq_true rfl) (by decide) (by decide) (fun ρ9 m128 hq => ?_)
        obtain ⟨rfl, hR21, hT128, hF128⟩ := hq
        exact tz_vret (g_at ck_X8_takeTurn 61 rfl) rfl (rV_mk ⟨rfl, hR21, by rw [takP_1 (by rw [hvL_not (tld_eq (by omega))]; decide) h121, hv103]; exact hT128, hF117t.tr (hF128.sub trL_66)⟩)
