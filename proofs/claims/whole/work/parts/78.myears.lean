/-! The reference: years. -/
theorem msk15 : ∀ i : Nat, i < 32 → 15 ≤ i → (Int32.ofInt 32767).toBitVec.getLsbD i = false := by decide
theorem ush_shr (x : Int) : bAnd (bShr x 16) 32767 = bAnd (bUsh x 16) 32767 := by
  show (Int32.ofInt ((Int32.ofInt x >>> (Int32.ofInt 16 &&& 31)).toInt) &&& Int32.ofInt 32767).toInt = (Int32.ofInt (((Int32.ofInt x).toUInt32 >>> ((Int32.ofInt 16).toUInt32 &&& Int32.toUInt32 31)).toInt32.toInt) &&& Int32.ofInt 32767).toInt
  rw [Int32.ofInt_toInt, Int32.ofInt_toInt]
  generalize Int32.ofInt x = a
  have e : (a >>> (Int32.ofInt 16 &&& 31)) &&& Int32.ofInt 32767 = (a.toUInt32 >>> ((Int32.ofInt 16).toUInt32 &&& Int32.toUInt32 31)).toInt32 &&& Int32.ofInt 32767 := by
    apply Int32.toBitVec_inj.mp
    rw [Int32.toBitVec_and, Int32.toBitVec_and, Int32.toBitVec_shiftRight]
    have e1 : (a.toUInt32 >>> ((Int32.ofInt 16).toUInt32 &&& Int32.toUInt32 31)).toInt32.toBitVec = a.toBitVec >>> 16 := rfl
    have e2 : BitVec.sshiftRight' a.toBitVec ((Int32.ofInt 16 &&& 31).toBitVec.smod 32) = a.toBitVec.sshiftRight 16 := rfl
    rw [e1, e2]
    apply BitVec.eq_of_getLsbD_eq
    intro i hi
    by_cases h : 15 ≤ i
    · simp only [BitVec.getLsbD_and, msk15 i hi h, Bool.and_false]
    · simp only [BitVec.getLsbD_and, BitVec.getLsbD_sshiftRight, BitVec.getLsbD_ushiftRight]
      have h1 : decide (32 ≤ i) = false := by simp only [decide_eq_false_iff_not]; omega
      have h2 : 16 + i < 32 := by omega
      simp only [h1, h2, Bool.not_false, Bool.true_and, if_true]
  rw [e]
theorem mp_draw {l : Launch} {γ : Gh} {ρ m : Mm} {k v : Int} (hR : MR m) (hk : 0 < k ∧ k < 2147483648) (hx : m 84 62 = v) : gE l γ μX11_draw 0 0 0 (rI KK fun x ρ9 m9 => ρ = ρ9 ∧ MR m9 ∧ drV v k = x ∧ wr m 84 62 (dr1 v) = m9) xN KK ρ m [vR 84, vI k] := by
  refine gE.ofw cl_X11.2 ?_ rfl rfl (Nat.le_of_ble_eq_true rfl)
  show gT l γ μX11_draw 0 0 0 _ _ KK ρ m 0 [some (vR 84), some (vI k)] []
  refine tz_aload0 (n := 1) (g_at ck_X11_draw 0 rfl) rfl (g_ne kd_84) ?_
  refine tz_aload0 (n := 2) (g_at ck_X11_draw 1 rfl) rfl (g_ne kd_84) ?_
  refine tz_getIw (n := 5) (kz := 62) fk_X11_478 kd_84 (g_at ck_X11_draw 2 rfl) rfl rfl ?_
  rw [hx]
  refine tz_ldcwI (n := 8) kn_X11_481 (g_at ck_X11_draw 3 rfl) rfl ?_
  refine tz_imul (n := 9) (g_at ck_X11_draw 4 rfl) rfl ?_
  refine tz_sipush (n := 12) (g_at ck_X11_draw 5 rfl) rfl rfl ?_
  refine tz_iadd (n := 13) (g_at ck_X11_draw 6 rfl) rfl ?_
  rw [show Int32.toInt 1103515245 = 1103515245 from rfl]
  refine tz_wrap ?_
  refine tz_putIr (n := 16) (kz := 62) fk_X11_478 kd_84 (g_at ck_X11_draw 7 rfl) rfl hR (w32_rg _) rfl (fun hR1 => ?_)
  refine tz_aload0 (n := 17) (g_at ck_X11_draw 8 rfl) rfl (g_ne kd_84) ?_
  refine tz_getIw (n := 20) (kz := 62) fk_X11_478 kd_84 (g_at ck_X11_draw 9 rfl) rfl rfl ?_
  rw [wr_same]
  refine tz_bipush (n := 22) (g_at ck_X11_draw 10 rfl) rfl rfl ?_
  refine tz_ishr (n := 23) (g_at ck_X11_draw 11 rfl) rfl ?_
  refine tz_sipush (n := 26) (g_at ck_X11_draw 12 rfl) rfl rfl ?_
  refine tz_iand (n := 27) (g_at ck_X11_draw 13 rfl) rfl ?_
  refine tz_iload1 (n := 28) (g_at ck_X11_draw 14 rfl) rfl ?_
  rw [show w32 (v * 1103515245 + 12345) = dr1 v from rfl, ush_shr]
  refine tz_irem (n := 29) (g_at ck_X11_draw 15 rfl) rfl (by omega) ?_
  rw [bRem_nn (by have := bAnd_15 (bUsh (dr1 v) 16); omega) (by omega)]
  exact tz_iret (g_at ck_X11_draw 16 rfl) rfl (rI_mk ⟨rfl, hR1, rfl, rfl⟩)
theorem drV_i (v : Int) {k : Int} (h : 0 < k) : 0 ≤ drV v k ∧ drV v k < k := ⟨Int.emod_nonneg _ (by omega), Int.emod_lt_of_pos _ h⟩
theorem mW.w2 {m m9 : Mm} {v : Int} (h : mW m m9) : mW m (wr m9 84 62 v) := h.tr (mW.w (Or.inr rfl))
theorem mW.wd {m m9 : Mm} {k v : Int} (h : mW m m9) (hk : 35 ≤ k ∧ k < 70) : mW m (wr m9 103 k v) := h.tr (mW.fd (FD.rf.wr (by decide) fun _ => by omega))
theorem dmA_0 {Λ σ : Mm} {x : Int} (h : drV x 5 = 0) (h1 : 0 < Λ 0 0) (h2 : 0 < Λ 3 (drV (dr1 x) (Λ 0 0))) : drA Λ x σ = (dr1 (dr1 (dr1 x)), wr σ 0 (17 + drV (dr1 x) (Λ 0 0)) (drV (dr1 (dr1 x)) (Λ 3 (drV (dr1 x) (Λ 0 0))))) := by
  unfold drA
  rw [if_pos ⟨h, h1⟩, if_pos h2]
theorem dmA_1 {Λ σ : Mm} {x : Int} (h : drV x 5 = 0) (h1 : 0 < Λ 0 0) (h2 : ¬ 0 < Λ 3 (drV (dr1 x) (Λ 0 0))) : drA Λ x σ = (dr1 (dr1 x), σ) := by
  unfold drA
  rw [if_pos ⟨h, h1⟩, if_neg h2]
theorem dmA_2 {Λ σ : Mm} {x : Int} (h : drV x 5 = 1) (h1 : 0 < Λ 0 1) : drA Λ x σ = (dr1 (dr1 (dr1 x)), wr σ 0 (1 + drV (dr1 x) (Λ 0 1)) (drV (dr1 (dr1 x)) (Λ 0 0))) := by
  unfold drA
  rw [if_neg (by omega), if_pos ⟨h, h1⟩]
theorem dmA_3 {Λ σ : Mm} {x : Int} (h : ¬ (drV x 5 = 0 ∧ 0 < Λ 0 0)) (h1 : ¬ (drV x 5 = 1 ∧ 0 < Λ 0 1)) : drA Λ x σ = (dr1 x, σ) := by
  unfold drA
  rw [if_neg h, if_neg h1]
theorem mp_happens {l : Launch} {γ : Gh} {ρ m : Mm} {x B : Int} {Λ σ : Mm} {hl tl : List Int} (hL : LY ρ) (hR : MR m) (hW : WL Λ) (hM : MLand m Λ hl tl) (hT : MT m 35 Λ z00 σ) (hσ : WS Λ B σ) (hx : m 84 62 = x) : gE l γ μX11_happens 1 0 0 (rV KK fun ρ9 m9 => ρ = ρ9 ∧ MR m9 ∧ MT m9 35 Λ z00 (drA Λ x σ).2 ∧ m9 84 62 = (drA Λ x σ).1 ∧ mW m m9 ∧ m9 84 51 = m 84 51) xN KK ρ m [vR 84] := by
  refine gE.ofw cl_X11.2 ?_ rfl rfl (Nat.le_of_ble_eq_true rfl)
  show gT l γ μX11_happens 1 0 0 _ _ KK ρ m 0 [some (vR 84), none, none] []
  have hn1 := hW.1
  have hn8 := hW.2.1
  have hN1 := hM.1
  have hN2 := hM.2.1
  have hv5 := drV_i x (show (0 : Int) < 5 by decide)
  have hp0 := hσ.2.1 0 (Int.le_refl 0)
  refine tz_aload0 (n := 1) (g_at ck_X11_happens 0 rfl) rfl (g_ne kd_84) ?_
  refine tz_iconst (n := 2) (g_at ck_X11_happens 1 rfl) rfl ?_
  refine tz_cvI1 (n := 5) (μ' := μX11_draw) (cb' := 0) (sb' := 0) ml_X11_482 mo_X11_draw mv_X11_draw np_X11_draw kd_84 (g_at ck_X11_happens 2 rfl) (mp_draw hR (by omega) hx) rfl rfl rfl ⟨by decide, by decide⟩ (Nat.le_of_ble_eq_true rfl) (by decide) (by decide) (fun x2 ρ9 m2 hq => ?_)
  obtain ⟨rfl, hR1, rfl, rfl⟩ := hq
  refine tz_istore1 (n := 6) (g_at ck_X11_happens 3 rfl) rfl (by decide) g_hpR ?_
  refine tz_iload1 (n := 7) (g_at ck_X11_happens 4 rfl) rfl ?_
  refine tz_if_ne (n := 10) (tgt := 54) (g_at ck_X11_happens 5 rfl) rfl rfl (by omega) (fun h7 => ?_) (fun h7 => ?_)
  · skip
    refine tz_iload1 (n := 55) (g_at ck_X11_happens 31 rfl) rfl ?_
    refine tz_iconst (n := 56) (g_at ck_X11_happens 32 rfl) rfl ?_
    refine tz_icmp_ne (n := 59) (tgt := 92) (g_at ck_X11_happens 33 rfl) rfl rfl (by omega) (fun h56 => ?_) (fun h56 => ?_)
    · skip
      exact tz_vret (g_at ck_X11_happens 52 rfl) rfl (rV_mk ⟨rfl, hR1, by rw [dmA_3 (by omega) (by omega)]; exact (hT.wrn (by decide)), by rw [dmA_3 (by omega) (by omega), wr_same], mW.rf.w2, by rw [wr_at, if_neg (by decide)]⟩)
    · skip
      refine tz_aload0 (n := 60) (g_at ck_X11_happens 34 rfl) rfl (g_ne kd_84) ?_
      refine tz_getIw (n := 63) (kz := 2) fk_X11_305 kd_84 (g_at ck_X11_happens 35 rfl) rfl rfl ?_
      rw [wr_at, if_neg (by decide), hN2]
      refine tz_if_le (n := 66) (tgt := 92) (g_at ck_X11_happens 36 rfl) rfl rfl (by omega) (fun h63 => ?_) (fun h63 => ?_)
      · skip
        exact tz_vret (g_at ck_X11_happens 52 rfl) rfl (rV_mk ⟨rfl, hR1, by rw [dmA_3 (by omega) (by omega)]; exact (hT.wrn (by decide)), by rw [dmA_3 (by omega) (by omega), wr_same], mW.rf.w2, by rw [wr_at, if_neg (by decide)]⟩)
      · skip
        refine tz_aload0 (n := 67) (g_at ck_X11_happens 37 rfl) rfl (g_ne kd_84) ?_
        refine tz_aload0 (n := 68) (g_at ck_X11_happens 38 rfl) rfl (g_ne kd_84) ?_
        refine tz_getIw (n := 71) (kz := 2) fk_X11_305 kd_84 (g_at ck_X11_happens 39 rfl) rfl rfl ?_
        rw [wr_at, if_neg (by decide), hN2]
        have hpx := drV_i (dr1 x) (show 0 < Λ 0 1 by omega)
        have hp1 := hp0 (by omega)
        refine tz_cvI1 (n := 74) (μ' := μX11_draw) (cb' := 0) (sb' := 0) ml_X11_482 mo_X11_draw mv_X11_draw np_X11_draw kd_84 (g_at ck_X11_happens 40 rfl) (mp_draw hR1 (by omega) (wr_same)) rfl rfl rfl ⟨by decide, by decide⟩ (Nat.le_of_ble_eq_true rfl) (by decide) (by decide) (fun x71 ρ9 m71 hq => ?_)
        obtain ⟨rfl, hR2, rfl, rfl⟩ := hq
        refine tz_istore2 (n := 75) (g_at ck_X11_happens 41 rfl) rfl (by decide) g_hpI ?_
        refine tz_aload0 (n := 76) (g_at ck_X11_happens 42 rfl) rfl (g_ne kd_84) ?_
        refine tz_getAv (n := 79) (a := 103) fk_X11_75 kd_84 (ly_84_43 hL) (g_at ck_X11_happens 43 rfl) rfl ?_
        refine tz_bipush (n := 81) (g_at ck_X11_happens 44 rfl) rfl rfl ?_
        refine tz_iload2 (n := 82) (g_at ck_X11_happens 45 rfl) rfl ?_
        refine tz_iadd (n := 83) (g_at ck_X11_happens 46 rfl) rfl ?_
        rw [show 36 + (drV (dr1 x) (Λ 0 1)) = 35 + (1 + (drV (dr1 x) (Λ 0 1))) by omega]
        refine tz_aload0 (n := 84) (g_at ck_X11_happens 47 rfl) rfl (g_ne kd_84) ?_
        refine tz_aload0 (n := 85) (g_at ck_X11_happens 48 rfl) rfl (g_ne kd_84) ?_
        refine tz_getIw (n := 88) (kz := 1) fk_X11_302 kd_84 (g_at ck_X11_happens 49 rfl) rfl rfl ?_
        rw [wr_at, if_neg (by decide), wr_at, if_neg (by decide), hN1]
        have hlx := drV_i (dr1 (dr1 x)) (show 0 < Λ 0 0 by omega)
        refine tz_cvI1 (n := 91) (μ' := μX11_draw) (cb' := 0) (sb' := 0) ml_X11_482 mo_X11_draw mv_X11_draw np_X11_draw kd_84 (g_at ck_X11_happens 50 rfl) (mp_draw hR2 (by omega) (wr_same)) rfl rfl rfl ⟨by decide, by decide⟩ (Nat.le_of_ble_eq_true rfl) (by decide) (by decide) (fun x88 ρ9 m88 hq => ?_)
        obtain ⟨rfl, hR3, rfl, rfl⟩ := hq
        refine tz_iastr (n := 92) kd_103 (by omega) (g_at ck_X11_happens 51 rfl) rfl hR3 (by omega) (fun hR4 => ?_)
        exact tz_vret (g_at ck_X11_happens 52 rfl) rfl (rV_mk ⟨rfl, hR4, by rw [dmA_2 h56 (by omega)]; exact MT_row (((hT.wrn (by decide)).wrn (by decide)).wrn (by decide)) (by omega), by rw [dmA_2 h56 (by omega), wr_ne (by decide), wr_same], (((mW.rf.w2).w2).w2).wd (by omega), by rw [wr_ne (by decide), wr_at, if_neg (by decide), wr_at, if_neg (by decide), wr_at, if_neg (by decide)]⟩)
  · skip
    refine tz_aload0 (n := 11) (g_at ck_X11_happens 6 rfl) rfl (g_ne kd_84) ?_
    refine tz_getIw (n := 14) (kz := 1) fk_X11_302 kd_84 (g_at ck_X11_happens 7 rfl) rfl rfl ?_
    rw [wr_at, if_neg (by decide), hN1]
    refine tz_if_le (n := 17) (tgt := 54) (g_at ck_X11_happens 8 rfl) rfl rfl (by omega) (fun h14 => ?_) (fun h14 => ?_)
    · skip
      refine tz_iload1 (n := 55) (g_at ck_X11_happens 31 rfl) rfl ?_
      refine tz_iconst (n := 56) (g_at ck_X11_happens 32 rfl) rfl ?_
      refine tz_icmp_ne (n := 59) (tgt := 92) (g_at ck_X11_happens 33 rfl) rfl rfl (by omega) (fun h56 => ?_) (fun h56 => absurd h56 (by omega))
      exact tz_vret (g_at ck_X11_happens 52 rfl) rfl (rV_mk ⟨rfl, hR1, by rw [dmA_3 (by omega) (by omega)]; exact (hT.wrn (by decide)), by rw [dmA_3 (by omega) (by omega), wr_same], mW.rf.w2, by rw [wr_at, if_neg (by decide)]⟩)
    · skip
      refine tz_aload0 (n := 18) (g_at ck_X11_happens 9 rfl) rfl (g_ne kd_84) ?_
      refine tz_aload0 (n := 19) (g_at ck_X11_happens 10 rfl) rfl (g_ne kd_84) ?_
      refine tz_getIw (n := 22) (kz := 1) fk_X11_302 kd_84 (g_at ck_X11_happens 11 rfl) rfl rfl ?_
      rw [wr_at, if_neg (by decide), hN1]
      have hcx := drV_i (dr1 x) (show 0 < Λ 0 0 by omega)
      have hcw := hW.2.2.1 (drV (dr1 x) (Λ 0 0)) hcx.1 hcx.2
      have r87 := (hM.2.2.1 (drV (dr1 x) (Λ 0 0)) hcx.1 hcx.2).2.2
      refine tz_cvI1 (n := 25) (μ' := μX11_draw) (cb' := 0) (sb' := 0) ml_X11_482 mo_X11_draw mv_X11_draw np_X11_draw kd_84 (g_at ck_X11_happens 12 rfl) (mp_draw hR1 (by omega) (wr_same)) rfl rfl rfl ⟨by decide, by decide⟩ (Nat.le_of_ble_eq_true rfl) (by decide) (by decide) (fun x22 ρ9 m22 hq => ?_)
      obtain ⟨rfl, hR5, rfl, rfl⟩ := hq
      refine tz_istore2 (n := 26) (g_at ck_X11_happens 13 rfl) rfl (by decide) g_hpI ?_
      refine tz_aload0 (n := 27) (g_at ck_X11_happens 14 rfl) rfl (g_ne kd_84) ?_
      refine tz_getAv (n := 30) (a := 87) fk_X11_23 kd_84 (ly_84_7 hL) (g_at ck_X11_happens 15 rfl) rfl ?_
      refine tz_iload2 (n := 31) (g_at ck_X11_happens 16 rfl) rfl ?_
      refine tz_iald (n := 32) kd_87 (by omega) (g_at ck_X11_happens 17 rfl) rfl ?_
      rw [wr_ne (show (87 : Int) ≠ 84 by decide), wr_ne (show (87 : Int) ≠ 84 by decide), r87]
      refine tz_if_le (n := 35) (tgt := 54) (g_at ck_X11_happens 18 rfl) rfl rfl (by omega) (fun h32 => ?_) (fun h32 => ?_)
      · skip
        refine tz_iload1 (n := 55) (g_at ck_X11_happens 31 rfl) rfl ?_
        refine tz_iconst (n := 56) (g_at ck_X11_happens 32 rfl) rfl ?_
        refine tz_icmp_ne (n := 59) (tgt := 92) (g_at ck_X11_happens 33 rfl) rfl rfl (by omega) (fun h56 => ?_) (fun h56 => absurd h56 (by omega))
        exact tz_vret (g_at ck_X11_happens 52 rfl) rfl (rV_mk ⟨rfl, hR5, by rw [dmA_1 h7 (by omega) (by omega)]; exact ((hT.wrn (by decide)).wrn (by decide)), by rw [dmA_1 h7 (by omega) (by omega), wr_same], ((mW.rf.w2).w2), by rw [wr_at, if_neg (by decide), wr_at, if_neg (by decide)]⟩)
      · skip
        refine tz_aload0 (n := 36) (g_at ck_X11_happens 19 rfl) rfl (g_ne kd_84) ?_
        refine tz_getAv (n := 39) (a := 103) fk_X11_75 kd_84 (ly_84_43 hL) (g_at ck_X11_happens 20 rfl) rfl ?_
        refine tz_bipush (n := 41) (g_at ck_X11_happens 21 rfl) rfl rfl ?_
        refine tz_iload2 (n := 42) (g_at ck_X11_happens 22 rfl) rfl ?_
        refine tz_iadd (n := 43) (g_at ck_X11_happens 23 rfl) rfl ?_
        rw [show 52 + (drV (dr1 x) (Λ 0 0)) = 35 + (17 + (drV (dr1 x) (Λ 0 0))) by omega]
        refine tz_aload0 (n := 44) (g_at ck_X11_happens 24 rfl) rfl (g_ne kd_84) ?_
        refine tz_aload0 (n := 45) (g_at ck_X11_happens 25 rfl) rfl (g_ne kd_84) ?_
        refine tz_getAv (n := 48) (a := 87) fk_X11_23 kd_84 (ly_84_7 hL) (g_at ck_X11_happens 26 rfl) rfl ?_
        refine tz_iload2 (n := 49) (g_at ck_X11_happens 27 rfl) rfl ?_
        refine tz_iald (n := 50) kd_87 (by omega) (g_at ck_X11_happens 28 rfl) rfl ?_
        rw [wr_ne (show (87 : Int) ≠ 84 by decide), wr_ne (show (87 : Int) ≠ 84 by decide), r87]
        have hrx := drV_i (dr1 (dr1 x)) (show 0 < Λ 3 (drV (dr1 x) (Λ 0 0)) by omega)
        refine tz_cvI1 (n := 53) (μ' := μX11_draw) (cb' := 0) (sb' := 0) ml_X11_482 mo_X11_draw mv_X11_draw np_X11_draw kd_84 (g_at ck_X11_happens 29 rfl) (mp_draw hR5 (by omega) (wr_same)) rfl rfl rfl ⟨by decide, by decide⟩ (Nat.le_of_ble_eq_true rfl) (by decide) (by decide) (fun x50 ρ9 m50 hq => ?_)
        obtain ⟨rfl, hR6, rfl, rfl⟩ := hq
        refine tz_iastr (n := 54) kd_103 (by omega) (g_at ck_X11_happens 30 rfl) rfl hR6 (by omega) (fun hR7 => ?_)
        refine tz_iload1 (n := 55) (g_at ck_X11_happens 31 rfl) rfl ?_
        refine tz_iconst (n := 56) (g_at ck_X11_happens 32 rfl) rfl ?_
        refine tz_icmp_ne (n := 59) (tgt := 92) (g_at ck_X11_happens 33 rfl) rfl rfl (by omega) (fun h56 => ?_) (fun h56 => absurd h56 (by omega))
        exact tz_vret (g_at ck_X11_happens 52 rfl) rfl (rV_mk ⟨rfl, hR7, by rw [dmA_0 h7 (by omega) (by omega)]; exact MT_row (((hT.wrn (by decide)).wrn (by decide)).wrn (by decide)) (by omega), by rw [dmA_0 h7 (by omega) (by omega), wr_ne (by decide), wr_same], (((mW.rf.w2).w2).w2).wd (by omega), by rw [wr_ne (by decide), wr_at, if_neg (by decide), wr_at, if_neg (by decide), wr_at, if_neg (by decide)]⟩)
theorem bm_home {Λ σ : Mm} (hW : WL Λ) : bitsM (homB Λ σ) = bcJ (homB Λ σ) := by
  have h := homB_rg (σ := σ) hW
  have h9 := bitsM_bc (homB Λ σ).toNat (by omega)
  rw [show (((homB Λ σ).toNat : Nat) : Int) = homB Λ σ by omega] at h9
  exact h9
theorem purs_M {m Λ σ e : Mm} (hn : Λ 0 1 ≤ 8) (hT : MT m 35 Λ e σ) : ∀ n : Nat, (n : Int) ≤ Λ 0 1 → pursM m 35 n = purS σ n
  | 0, _ => rfl
  | n + 1, h => by
    show pursM m 35 n + m 103 (35 + 9 + (n : Int)) = purS σ n + σ 0 (9 + (n : Int))
    rw [purs_M hn hT n (by omega), hT.r (k := 9 + (n : Int)) (by omega) (by omega)]
theorem mp_years {l : Launch} {γ : Gh} {ρ m : Mm} {sd n w : Int} (hsd : -2147483648 ≤ sd ∧ sd < 2147483648) (hn : -2147483648 ≤ n ∧ n < 2147483648) (hw : -2147483648 ≤ w ∧ w < 2147483648) {s : Int → Int} {Λ : Mm} {hl tl : List Int} (hL : LY ρ) (hR : MR m) (hW : WL Λ) (hM : MLand m Λ hl tl) (hs : MRow m s) (hσ : WS Λ 0 (sig0 s)) (hz : m 84 51 = 0) : gE l γ μX11_years 6 0 0 (rI KK fun x ρ9 m9 => ρ = ρ9 ∧ MR m9 ∧ mK m m9 ∧ m9 84 0 = sq (cdW w 2) (cdD n 0 100) ∧ (sq (cdW w 2) (cdD n 0 100) = 0 → (if w = 1 then bcJ (homB Λ (yrN Λ hl tl sd (sig0 s) n.toNat).2) else if w = 0 then sumS (yrN Λ hl tl sd (sig0 s) n.toNat).2 (Λ 0 1).toNat else purS (yrN Λ hl tl sd (sig0 s) n.toNat).2 (Λ 0 1).toNat) = x)) xN KK ρ m [vR 84, vI sd, vI n, vI w] := by
  refine gE.ofw cl_X11.2 ?_ rfl rfl (Nat.le_of_ble_eq_true rfl)
  show gT l γ μX11_years 6 0 0 _ _ KK ρ m 0 [some (vR 84), some (vI sd), some (vI n), some (vI w), none, none] []
  have hn1 := hW.1
  have hn8 := hW.2.1
  refine tz_aload0 (n := 1) (g_at ck_X11_years 0 rfl) rfl (g_ne kd_84) ?_
  refine tz_iconst (n := 2) (g_at ck_X11_years 1 rfl) rfl ?_
  refine tz_putIr (n := 5) (kz := 0) fk_X11_132 kd_84 (g_at ck_X11_years 2 rfl) rfl hR ⟨(by decide), (by decide)⟩ rfl (fun hR1 => ?_)
  obtain ⟨m0, e0⟩ : ∃ m0, m0 = wr m 84 0 0 := ⟨_, rfl⟩
  rw [← e0] at hR1 ⊢
  have hk0 : mK m m0 := by rw [e0]; exact mK.w0
  have hM0 := hk0.land hM
  have hs0 := hk0.row hs
  have hz0 : m0 84 51 = 0 := hk0.w51.trans hz
  have h00 : m0 84 0 = 0 := by rw [e0, wr_same]
  have hw0 := hw_0 hz0
  refine tz_aload0 (n := 6) (g_at ck_X11_years 3 rfl) rfl (g_ne kd_84) ?_
  refine tz_iload3 (n := 7) (g_at ck_X11_years 4 rfl) rfl ?_
  refine tz_iconst (n := 8) (g_at ck_X11_years 5 rfl) rfl ?_
  refine tz_cvI2 (n := 11) (μ' := μX11_isWhat) (cb' := 0) (sb' := 0) ml_X11_396 mo_X11_isWhat mv_X11_isWhat np_X11_isWhat kd_84 (g_at ck_X11_years 6 rfl) (mp_isWhat hw (by decide) hL hR1 h00) rfl rfl rfl ⟨by decide, by decide⟩ (Nat.le_of_ble_eq_true rfl) (by decide) (by decide) (fun x8 ρ9 m8 hq => ?_)
  obtain ⟨rfl, hR2, hq8⟩ := hq
  refine tz_if_eq (n := 14) (tgt := 24) (g_at ck_X11_years 7 rfl) rfl rfl (by rcases hq8.b01 with h9 | h9 <;> omega) (fun h11 => ?_) (fun h11 => ?_)
  · skip
    refine tz_iconst (n := 25) (g_at ck_X11_years 14 rfl) rfl ?_
    exact tz_iret (g_at ck_X11_years 15 rfl) rfl (rI_mk ⟨rfl, hR2, by rw [(hq8.no h11).2]; exact hk0.tr mK.w0, by rw [(hq8.no h11).2, wr_same, sqn (hq8.no h11).1], fun h9 => absurd h9 (by rw [sqn (hq8.no h11).1]; exact (hq8.no h11).1)⟩)
  · skip
    obtain ⟨hc0, rfl⟩ := hq8.ok h11
    have hi0 := cdW_i hc0
    refine tz_aload0 (n := 15) (g_at ck_X11_years 8 rfl) rfl (g_ne kd_84) ?_
    refine tz_iload2 (n := 16) (g_at ck_X11_years 9 rfl) rfl ?_
    refine tz_iconst (n := 17) (g_at ck_X11_years 10 rfl) rfl ?_
    refine tz_iconst (n := 18) (g_at ck_X11_years 11 rfl) rfl ?_
    refine tz_cvI3 (n := 21) (μ' := μX11_isSoon) (cb' := 0) (sb' := 0) ml_X11_417 mo_X11_isSoon mv_X11_isSoon np_X11_isSoon kd_84 (g_at ck_X11_years 12 rfl) (mp_isSoon hn (by decide) hL hR2 h00) rfl rfl rfl ⟨by decide, by decide⟩ (Nat.le_of_ble_eq_true rfl) (by decide) (by decide) (fun x18 ρ9 m18 hq => ?_)
    obtain ⟨rfl, hR3, hq18⟩ := hq
    refine tz_if_ne (n := 24) (tgt := 26) (g_at ck_X11_years 13 rfl) rfl rfl (by rcases hq18.b01 with h9 | h9 <;> omega) (fun h21 => ?_) (fun h21 => ?_)
    · skip
      obtain ⟨hc1, rfl⟩ := hq18.ok h21
      have hi1 := cdD_i hc1
      refine tz_aload0 (n := 27) (g_at ck_X11_years 16 rfl) rfl (g_ne kd_84) ?_
      refine tz_cvV0 (n := 30) (μ' := μX11_tries) (cb' := 0) (sb' := 0) ml_X11_356 mo_X11_tries mv_X11_tries np_X11_tries kd_84 (g_at ck_X11_years 17 rfl) (mp_tries (Λ := Λ) hL hR3 hs0) rfl rfl rfl ⟨by decide, by decide⟩ (Nat.le_of_ble_eq_true rfl) (by decide) (by decide) (fun ρ9 m27 hq => ?_)
      obtain ⟨rfl, hR4, hT27, hD27⟩ := hq
      refine tz_aload0 (n := 31) (g_at ck_X11_years 18 rfl) rfl (g_ne kd_84) ?_
      refine tz_iload1 (n := 32) (g_at ck_X11_years 19 rfl) rfl ?_
      refine tz_putIr (n := 35) (kz := 62) fk_X11_478 kd_84 (g_at ck_X11_years 20 rfl) rfl hR4 hsd rfl (fun hR5 => ?_)
      refine tz_iconst (n := 36) (g_at ck_X11_years 21 rfl) rfl ?_
      refine tz_istore4 (n := 38) (g_at ck_X11_years 22 rfl) rfl (by decide) g_hpI ?_
      refine g_for (fun i : Nat => ∀ m1 : Mm, (MR m1 ∧ MT m1 35 Λ z00 (yrN Λ hl tl sd (sig0 s) i).2 ∧ m1 84 62 = (yrN Λ hl tl sd (sig0 s) i).1 ∧ mW m0 m1 ∧ m1 84 51 = m0 84 51) → gT l γ μX11_years 6 0 0 _ _ KK ρ m1 38 [some (vR 84), some (vI sd), some (vI n), some (vI w), some (vI (i : Int)), none] []) n.toNat ?_ (fun i hi ihi => ?_) 0 (Nat.zero_le _) _ ⟨hR5, hT27.wrn (by decide), wr_same, (mW.fd hD27).w2, by rw [wr_at, if_neg (by decide), hD27.1 84 (by decide)]⟩
      · intro m1 hinv
        obtain ⟨hR1, hT1, hv1, hW1, he1⟩ := hinv
        have hσ1 := yrN_WS (hl := hl) (tl := tl) (x := sd) hW hσ (Int.le_refl 0) n.toNat
        have hM9 := hW1.land hM0
        have hN := hM9.2.1
        refine tz_iload4 (n := 40) (g_at ck_X11_years 23 rfl) rfl ?_
        refine tz_iload2 (n := 41) (g_at ck_X11_years 24 rfl) rfl ?_
        refine tz_icmp_ge (n := 44) (tgt := 60) (g_at ck_X11_years 25 rfl) rfl rfl (by omega) (fun h41 => ?_) (fun h41 => absurd h41 (by omega))
        refine tz_iconst (n := 61) (g_at ck_X11_years 33 rfl) rfl ?_
        refine tz_istore4 (n := 63) (g_at ck_X11_years 34 rfl) rfl (by decide) g_hpI ?_
        refine tz_iconst (n := 64) (g_at ck_X11_years 35 rfl) rfl ?_
        refine tz_istore5 (n := 66) (g_at ck_X11_years 36 rfl) rfl (by decide) g_hpI ?_
        refine g_for (fun i : Nat => gT l γ μX11_years 6 0 0 _ _ KK ρ m1 66 [some (vR 84), some (vI sd), some (vI n), some (vI w), some (vI (sumS (yrN Λ hl tl sd (sig0 s) n.toNat).2 i)), some (vI (i : Int))] []) (Λ 0 1).toNat ?_ (fun i hi ihi => ?_) 0 (Nat.zero_le _)
        · skip
          refine tz_iload5 (n := 68) (g_at ck_X11_years 37 rfl) rfl ?_
          refine tz_aload0 (n := 69) (g_at ck_X11_years 38 rfl) rfl (g_ne kd_84) ?_
          refine tz_getIw (n := 72) (kz := 2) fk_X11_305 kd_84 (g_at ck_X11_years 39 rfl) rfl rfl ?_
          rw [hN]
          refine tz_icmp_ge (n := 75) (tgt := 93) (g_at ck_X11_years 40 rfl) rfl rfl (by omega) (fun h72 => ?_) (fun h72 => absurd h72 (by omega))
          refine tz_iload3 (n := 94) (g_at ck_X11_years 50 rfl) rfl ?_
          refine tz_if_ne (n := 97) (tgt := 102) (g_at ck_X11_years 51 rfl) rfl rfl hw (fun h94 => ?_) (fun h94 => ?_)
          · skip
            refine tz_iload3 (n := 103) (g_at ck_X11_years 54 rfl) rfl ?_
            refine tz_iconst (n := 104) (g_at ck_X11_years 55 rfl) rfl ?_
            refine tz_icmp_ne (n := 107) (tgt := 119) (g_at ck_X11_years 56 rfl) rfl rfl ⟨hw.1, hw.2, by decide, by decide⟩ (fun h104 => ?_) (fun h104 => ?_)
            · skip
              refine tz_aload0 (n := 120) (g_at ck_X11_years 62 rfl) rfl (g_ne kd_84) ?_
              refine tz_bipush (n := 122) (g_at ck_X11_years 63 rfl) rfl rfl ?_
              refine tz_cvI1 (n := 125) (μ' := μX11_purses) (cb' := 0) (sb' := 0) ml_X11_390 mo_X11_purses mv_X11_purses np_X11_purses kd_84 (g_at ck_X11_years 64 rfl) (mp_purses hL hR1 (by rw [hN]; omega) (Or.inr rfl)) rfl rfl rfl ⟨by decide, by decide⟩ (Nat.le_of_ble_eq_true rfl) (by decide) (by decide) (fun x122 ρ9 m122 hq => ?_)
              obtain ⟨rfl, hR6, rfl, rfl⟩ := hq
              rw [hN, purs_M (by omega) hT1 _ (by omega)]
              exact tz_iret (g_at ck_X11_years 65 rfl) rfl (rI_mk ⟨rfl, hR6, hk0.tr (hW1.k he1), by rw [hW1.2.1 0 (by decide) (by decide), h00, hc0, hc1]; rfl, fun _ => by rw [if_neg h104, if_neg h94]⟩)
            · skip
              refine tz_aload0 (n := 108) (g_at ck_X11_years 57 rfl) rfl (g_ne kd_84) ?_
              refine tz_bipush (n := 110) (g_at ck_X11_years 58 rfl) rfl rfl ?_
              refine tz_cvI1 (n := 113) (μ' := μX11_homeOnes) (cb' := 0) (sb' := 0) ml_X11_381 mo_X11_homeOnes mv_X11_homeOnes np_X11_homeOnes kd_84 (g_at ck_X11_years 59 rfl) (mp_homeOnes hL hR1 (by rw [hN]; omega) (Or.inr rfl)) rfl rfl rfl ⟨by decide, by decide⟩ (Nat.le_of_ble_eq_true rfl) (by decide) (by decide) (fun x110 ρ9 m110 hq => ?_)
              obtain ⟨rfl, hR7, rfl, rfl⟩ := hq
              rw [home_M (b := 35) hW hM9 hT1]
              refine tz_csI1 (n := 116) (μ' := μX11_bits) (cb' := 0) (sb' := 0) ml_X11_329 mo_X11_bits ms_X11_bits np_X11_bits (g_at ck_X11_years 60 rfl) (mp_bits hR7) rfl rfl ⟨by decide, by decide⟩ (Nat.le_of_ble_eq_true rfl) (by decide) (by decide) (fun x113 ρ9 m113 hq => ?_)
              obtain ⟨rfl, hR8, rfl, rfl⟩ := hq
              rw [bm_home hW]
              refine tz_goto (tgt := 125) (g_at ck_X11_years 61 rfl) rfl ?_
              exact tz_iret (g_at ck_X11_years 65 rfl) rfl (rI_mk ⟨rfl, hR8, hk0.tr (hW1.k he1), by rw [hW1.2.1 0 (by decide) (by decide), h00, hc0, hc1]; rfl, fun _ => if_pos h104⟩)
          · skip
            refine tz_iload4 (n := 99) (g_at ck_X11_years 52 rfl) rfl ?_
            refine tz_goto (tgt := 125) (g_at ck_X11_years 53 rfl) rfl ?_
            exact tz_iret (g_at ck_X11_years 65 rfl) rfl (rI_mk ⟨rfl, hR1, hk0.tr (hW1.k he1), by rw [hW1.2.1 0 (by decide) (by decide), h00, hc0, hc1]; rfl, fun _ => by rw [if_neg (by omega), if_pos h94]⟩)
        · skip
          refine tz_iload5 (n := 68) (g_at ck_X11_years 37 rfl) rfl ?_
          refine tz_aload0 (n := 69) (g_at ck_X11_years 38 rfl) rfl (g_ne kd_84) ?_
          refine tz_getIw (n := 72) (kz := 2) fk_X11_305 kd_84 (g_at ck_X11_years 39 rfl) rfl rfl ?_
          rw [hN]
          refine tz_icmp_ge (n := 75) (tgt := 93) (g_at ck_X11_years 40 rfl) rfl rfl (by omega) (fun h72 => absurd h72 (by omega)) (fun h72 => ?_)
          refine tz_iload4 (n := 77) (g_at ck_X11_years 41 rfl) rfl ?_
          refine tz_aload0 (n := 78) (g_at ck_X11_years 42 rfl) rfl (g_ne kd_84) ?_
          refine tz_getAv (n := 81) (a := 107) fk_X11_87 kd_84 (ly_84_48 hL) (g_at ck_X11_years 43 rfl) rfl ?_
          refine tz_iload5 (n := 83) (g_at ck_X11_years 44 rfl) rfl ?_
          refine tz_iald (n := 84) kd_107 (by omega) (g_at ck_X11_years 45 rfl) rfl ?_
          rw [hT1.st hW hσ1 (by omega) (by omega)]
          refine tz_iadd (n := 85) (g_at ck_X11_years 46 rfl) rfl ?_
          refine tz_istore4 (n := 87) (g_at ck_X11_years 47 rfl) rfl (by decide) g_hpI ?_
          refine tz_iinc5 (n := 90) (g_at ck_X11_years 48 rfl) rfl (by decide) g_hpI ?_
          refine tz_goto (tgt := 66) (g_at ck_X11_years 49 rfl) rfl ?_
          exact ihi
      · intro m1 hinv
        obtain ⟨hR1, hT1, hv1, hW1, he1⟩ := hinv
        have hσ1 := yrN_WS (hl := hl) (tl := tl) (x := sd) hW hσ (Int.le_refl 0) i
        refine tz_iload4 (n := 40) (g_at ck_X11_years 23 rfl) rfl ?_
        refine tz_iload2 (n := 41) (g_at ck_X11_years 24 rfl) rfl ?_
        refine tz_icmp_ge (n := 44) (tgt := 60) (g_at ck_X11_years 25 rfl) rfl rfl (by omega) (fun h41 => absurd h41 (by omega)) (fun h41 => ?_)
        refine tz_aload0 (n := 45) (g_at ck_X11_years 26 rfl) rfl (g_ne kd_84) ?_
        refine tz_cvV0 (n := 48) (μ' := μX11_happens) (cb' := 0) (sb' := 0) ml_X11_485 mo_X11_happens mv_X11_happens np_X11_happens kd_84 (g_at ck_X11_years 27 rfl) (mp_happens hL hR1 hW (hW1.land hM0) hT1 hσ1 hv1) rfl rfl rfl ⟨by decide, by decide⟩ (Nat.le_of_ble_eq_true rfl) (by decide) (by decide) (fun ρ9 m45 hq => ?_)
        obtain ⟨rfl, hR9, hT45, hv45, hW45, he45⟩ := hq
        refine tz_aload0 (n := 49) (g_at ck_X11_years 28 rfl) rfl (g_ne kd_84) ?_
        refine tz_bipush (n := 51) (g_at ck_X11_years 29 rfl) rfl rfl ?_
        refine tz_cvV1 (n := 54) (μ' := μX11_dayGoes) (cb' := 0) (sb' := 0) ml_X11_353 mo_X11_dayGoes mv_X11_dayGoes np_X11_dayGoes kd_84 (g_at ck_X11_years 30 rfl) (mp_dayGoes hL hR9 hW ((hW1.tr hW45).land hM0) hT45 (drA_WS hW hσ1) (by omega) (Or.inr rfl) (hw_0 (by rw [he45, he1]; exact hz0))) rfl rfl rfl ⟨by decide, by decide⟩ (Nat.le_of_ble_eq_true rfl) (by decide) (by decide) (fun ρ9 m51 hq => ?_)
        obtain ⟨rfl, hR10, hT51, hD51⟩ := hq
        have hT9 : MT m51 35 Λ z00 (yrN Λ hl tl sd (sig0 s) (i + 1)).2 := hT51
        have hv9 : m51 84 62 = (yrN Λ hl tl sd (sig0 s) (i + 1)).1 := by rw [hD51.1 84 (by decide)]; exact hv45
        have hW9 := (hW1.tr hW45).tr (mW.fd hD51)
        have he9 : m51 84 51 = m0 84 51 := by rw [hD51.1 84 (by decide), he45, he1]
        refine tz_iinc4 (n := 57) (g_at ck_X11_years 31 rfl) rfl (by decide) g_hpI ?_
        refine tz_goto (tgt := 38) (g_at ck_X11_years 32 rfl) rfl ?_
        exact ihi _ ⟨hR10, hT9, hv9, hW9, he9⟩
    · skip
      refine tz_iconst (n := 25) (g_at ck_X11_years 14 rfl) rfl ?_
      exact tz_iret (g_at ck_X11_years 15 rfl) rfl (rI_mk ⟨rfl, hR3, by rw [(hq18.no h21).2]; exact hk0.tr mK.w0, by rw [(hq18.no h21).2, wr_same, hc0, sq0], fun h9 => absurd h9 (by rw [hc0, sq0]; exact (hq18.no h21).1)⟩)
