/-! The reference: what the ways tell. -/
theorem tr_lt {x : Int} (h : Bd 4608 x) : tr9 x < 9999 ↔ x < 10000 := by
  unfold Bd at h
  unfold tr9
  split <;> omega
theorem bmI_9 (P : Nat → Prop) [DecidablePred P] {n : Nat} (h : n ≤ 9) : 0 ≤ bmI P n ∧ bmI P n < 512 ∧ bOr (bmI P n) 0 = bmI P n := by
  have h1 := bmN_lt P n
  have h2 : 2 ^ n ≤ 2 ^ 9 := Nat.pow_le_pow_right (by decide) h
  rw [bmI_N P n (by omega)]
  refine ⟨by omega, by omega, bOr_0 (by omega)⟩
theorem bmI_y {P : Nat → Prop} [DecidablePred P] {n : Nat} (h : P n) : bmI P (n + 1) = bOr (bmI P n) (bShl 1 (n : Int)) := if_pos h
theorem bmI_n {P : Nat → Prop} [DecidablePred P] {n : Nat} (h : ¬ P n) : bmI P (n + 1) = bmI P n := if_neg h
theorem or_y {x : Int} (h : Bd 4608 x) (k : x < 10000) : orN x = tr9 x := by
  unfold Bd at h
  unfold orN tr9
  repeat' split
  all_goals omega
theorem or_n {x : Int} (h : Bd 4608 x) (k : ¬ x < 10000) : orN x = -1 := by
  unfold Bd at h
  unfold orN
  repeat' split
  all_goals omega
theorem mp_reachedFrom {l : Launch} {γ : Gh} {ρ m : Mm} {c : Int} {s : Int → Int} {Λ : Mm} {hl tl : List Int} (hL : LY ρ) (hR : MR m) (hW : WL Λ) (hM : MLand m Λ hl tl) (hr : RF (Λ 0 0) m (wyW Λ s)) (hw : W2 4608 (wyW Λ s)) (hc : 0 ≤ c ∧ c < Λ 0 0) : gE l γ μX11_reachedFrom 0 0 0 (rI KK fun x ρ9 m9 => ρ = ρ9 ∧ MR m9 ∧ rcP Λ s c = x ∧ m = m9) xN KK ρ m [vR 84, vI c] := by
  refine gE.ofw cl_X11.2 ?_ rfl rfl (Nat.le_of_ble_eq_true rfl)
  show gT l γ μX11_reachedFrom 0 0 0 _ _ KK ρ m 0 [some (vR 84), some (vI c), none, none] []
  have hn1 := hW.1
  have hN := hM.1
  refine tz_iconst (n := 1) (g_at ck_X11_reachedFrom 0 rfl) rfl ?_
  refine tz_istore2 (n := 2) (g_at ck_X11_reachedFrom 1 rfl) rfl (by decide) g_hpI ?_
  refine tz_iconst (n := 3) (g_at ck_X11_reachedFrom 2 rfl) rfl ?_
  refine tz_istore3 (n := 4) (g_at ck_X11_reachedFrom 3 rfl) rfl (by decide) g_hpI ?_
  refine g_for (fun i : Nat => gT l γ μX11_reachedFrom 0 0 0 _ _ KK ρ m 4 [some (vR 84), some (vI c), some (vI (bmI (fun z : Nat => wyW Λ s 0 (c * 9 + (z : Int)) < 10000) i)), some (vI (i : Int))] []) (Λ 0 0).toNat ?_ (fun i hi ihi => ?_) 0 (Nat.zero_le _)
  · skip
    refine tz_iload3 (n := 5) (g_at ck_X11_reachedFrom 4 rfl) rfl ?_
    refine tz_aload0 (n := 6) (g_at ck_X11_reachedFrom 5 rfl) rfl (g_ne kd_84) ?_
    refine tz_getIw (n := 9) (kz := 1) fk_X11_302 kd_84 (g_at ck_X11_reachedFrom 6 rfl) rfl rfl ?_
    rw [hN]
    refine tz_icmp_ge (n := 12) (tgt := 45) (g_at ck_X11_reachedFrom 7 rfl) rfl rfl (by omega) (fun h9 => ?_) (fun h9 => absurd h9 (by omega))
    refine tz_iload2 (n := 46) (g_at ck_X11_reachedFrom 28 rfl) rfl ?_
    exact tz_iret (g_at ck_X11_reachedFrom 29 rfl) rfl (rI_mk ⟨rfl, hR, rfl, rfl⟩)
  · skip
    have r1 := (hr c (i : Int) hc.1 hc.2 (by omega) (by omega)).1
    have b1 := (hw (c * 9 + (i : Int))).1
    have t1 := tr_lt b1
    have g1 := tr_rg b1 (Int.le_refl _)
    refine tz_iload3 (n := 5) (g_at ck_X11_reachedFrom 4 rfl) rfl ?_
    refine tz_aload0 (n := 6) (g_at ck_X11_reachedFrom 5 rfl) rfl (g_ne kd_84) ?_
    refine tz_getIw (n := 9) (kz := 1) fk_X11_302 kd_84 (g_at ck_X11_reachedFrom 6 rfl) rfl rfl ?_
    rw [hN]
    refine tz_icmp_ge (n := 12) (tgt := 45) (g_at ck_X11_reachedFrom 7 rfl) rfl rfl (by omega) (fun h9 => absurd h9 (by omega)) (fun h9 => ?_)
    refine tz_iload2 (n := 13) (g_at ck_X11_reachedFrom 8 rfl) rfl ?_
    refine tz_aload0 (n := 14) (g_at ck_X11_reachedFrom 9 rfl) rfl (g_ne kd_84) ?_
    refine tz_getAv (n := 17) (a := 110) fk_X11_96 kd_84 (ly_84_52 hL) (g_at ck_X11_reachedFrom 10 rfl) rfl ?_
    refine tz_bipush (n := 19) (g_at ck_X11_reachedFrom 11 rfl) rfl rfl ?_
    refine tz_iload1 (n := 20) (g_at ck_X11_reachedFrom 12 rfl) rfl ?_
    refine tz_imul (n := 21) (g_at ck_X11_reachedFrom 13 rfl) rfl ?_
    refine tz_iload3 (n := 22) (g_at ck_X11_reachedFrom 14 rfl) rfl ?_
    refine tz_iadd (n := 23) (g_at ck_X11_reachedFrom 15 rfl) rfl ?_
    refine tz_iald (n := 24) kd_110 (by omega) (g_at ck_X11_reachedFrom 16 rfl) rfl ?_
    rw [r1]
    refine tz_sipush (n := 27) (g_at ck_X11_reachedFrom 17 rfl) rfl rfl ?_
    refine tz_icmp_ge (n := 30) (tgt := 36) (g_at ck_X11_reachedFrom 18 rfl) rfl rfl (by omega) (fun h27 => ?_) (fun h27 => ?_)
    · skip
      refine tz_iconst (n := 37) (g_at ck_X11_reachedFrom 23 rfl) rfl ?_
      refine tz_ior (n := 38) (g_at ck_X11_reachedFrom 24 rfl) rfl ?_
      refine tz_istore2 (n := 39) (g_at ck_X11_reachedFrom 25 rfl) rfl (by decide) g_hpI ?_
      refine tz_iinc3 (n := 42) (g_at ck_X11_reachedFrom 26 rfl) rfl (by decide) g_hpI ?_
      refine tz_goto (tgt := 4) (g_at ck_X11_reachedFrom 27 rfl) rfl ?_
      have e9 : bmI (fun z : Nat => wyW Λ s 0 (c * 9 + (z : Int)) < 10000) (i + 1) = bmI (fun z : Nat => wyW Λ s 0 (c * 9 + (z : Int)) < 10000) i := bmI_n (P := (fun z : Nat => wyW Λ s 0 (c * 9 + (z : Int)) < 10000)) (fun h9 => absurd (t1.mpr h9) (by omega))
      rw [(bmI_9 (fun z : Nat => wyW Λ s 0 (c * 9 + (z : Int)) < 10000) (n := i) (by omega)).2.2]
      rw [e9] at ihi
      exact ihi
    · skip
      refine tz_iconst (n := 31) (g_at ck_X11_reachedFrom 19 rfl) rfl ?_
      refine tz_iload3 (n := 32) (g_at ck_X11_reachedFrom 20 rfl) rfl ?_
      refine tz_ishl (n := 33) (g_at ck_X11_reachedFrom 21 rfl) rfl ?_
      refine tz_goto (tgt := 37) (g_at ck_X11_reachedFrom 22 rfl) rfl ?_
      refine tz_ior (n := 38) (g_at ck_X11_reachedFrom 24 rfl) rfl ?_
      refine tz_istore2 (n := 39) (g_at ck_X11_reachedFrom 25 rfl) rfl (by decide) g_hpI ?_
      refine tz_iinc3 (n := 42) (g_at ck_X11_reachedFrom 26 rfl) rfl (by decide) g_hpI ?_
      refine tz_goto (tgt := 4) (g_at ck_X11_reachedFrom 27 rfl) rfl ?_
      have e9 : bmI (fun z : Nat => wyW Λ s 0 (c * 9 + (z : Int)) < 10000) (i + 1) = bOr (bmI (fun z : Nat => wyW Λ s 0 (c * 9 + (z : Int)) < 10000) i) (bShl 1 (i : Int)) := bmI_y (P := (fun z : Nat => wyW Λ s 0 (c * 9 + (z : Int)) < 10000)) (t1.mp (by omega))
      rw [e9] at ihi
      exact ihi
theorem mp_partOf {l : Launch} {γ : Gh} {ρ m : Mm} {c : Int} {s : Int → Int} {Λ : Mm} {hl tl : List Int} (hL : LY ρ) (hR : MR m) (hW : WL Λ) (hM : MLand m Λ hl tl) (hr : RF (Λ 0 0) m (wyW Λ s)) (hw : W2 4608 (wyW Λ s)) (hc : 0 ≤ c ∧ c < Λ 0 0) : gE l γ μX11_partOf 0 0 0 (rI KK fun x ρ9 m9 => ρ = ρ9 ∧ MR m9 ∧ ptP Λ s c (Λ 0 0).toNat = x ∧ m = m9) xN KK ρ m [vR 84, vI c] := by
  refine gE.ofw cl_X11.2 ?_ rfl rfl (Nat.le_of_ble_eq_true rfl)
  show gT l γ μX11_partOf 0 0 0 _ _ KK ρ m 0 [some (vR 84), some (vI c), none, none] []
  have hn1 := hW.1
  have hN := hM.1
  refine tz_iconst (n := 1) (g_at ck_X11_partOf 0 rfl) rfl ?_
  refine tz_istore2 (n := 2) (g_at ck_X11_partOf 1 rfl) rfl (by decide) g_hpI ?_
  refine tz_iconst (n := 3) (g_at ck_X11_partOf 2 rfl) rfl ?_
  refine tz_istore3 (n := 4) (g_at ck_X11_partOf 3 rfl) rfl (by decide) g_hpI ?_
  refine g_for (fun i : Nat => gT l γ μX11_partOf 0 0 0 _ _ KK ρ m 4 [some (vR 84), some (vI c), some (vI (bmI (fun z : Nat => wyW Λ s 0 (c * 9 + (z : Int)) < 10000 ∧ wyW Λ s 0 ((z : Int) * 9 + c) < 10000) i)), some (vI (i : Int))] []) (Λ 0 0).toNat ?_ (fun i hi ihi => ?_) 0 (Nat.zero_le _)
  · skip
    refine tz_iload3 (n := 5) (g_at ck_X11_partOf 4 rfl) rfl ?_
    refine tz_aload0 (n := 6) (g_at ck_X11_partOf 5 rfl) rfl (g_ne kd_84) ?_
    refine tz_getIw (n := 9) (kz := 1) fk_X11_302 kd_84 (g_at ck_X11_partOf 6 rfl) rfl rfl ?_
    rw [hN]
    refine tz_icmp_ge (n := 12) (tgt := 62) (g_at ck_X11_partOf 7 rfl) rfl rfl (by omega) (fun h9 => ?_) (fun h9 => absurd h9 (by omega))
    refine tz_iload2 (n := 63) (g_at ck_X11_partOf 38 rfl) rfl ?_
    exact tz_iret (g_at ck_X11_partOf 39 rfl) rfl (rI_mk ⟨rfl, hR, rfl, rfl⟩)
  · skip
    have r1 := (hr c (i : Int) hc.1 hc.2 (by omega) (by omega)).1
    have b1 := (hw (c * 9 + (i : Int))).1
    have t1 := tr_lt b1
    have g1 := tr_rg b1 (Int.le_refl _)
    have r2 := (hr (i : Int) c (by omega) (by omega) hc.1 hc.2).1
    have b2 := (hw ((i : Int) * 9 + c)).1
    have t2 := tr_lt b2
    have g2 := tr_rg b2 (Int.le_refl _)
    refine tz_iload3 (n := 5) (g_at ck_X11_partOf 4 rfl) rfl ?_
    refine tz_aload0 (n := 6) (g_at ck_X11_partOf 5 rfl) rfl (g_ne kd_84) ?_
    refine tz_getIw (n := 9) (kz := 1) fk_X11_302 kd_84 (g_at ck_X11_partOf 6 rfl) rfl rfl ?_
    rw [hN]
    refine tz_icmp_ge (n := 12) (tgt := 62) (g_at ck_X11_partOf 7 rfl) rfl rfl (by omega) (fun h9 => absurd h9 (by omega)) (fun h9 => ?_)
    refine tz_iload2 (n := 13) (g_at ck_X11_partOf 8 rfl) rfl ?_
    refine tz_aload0 (n := 14) (g_at ck_X11_partOf 9 rfl) rfl (g_ne kd_84) ?_
    refine tz_getAv (n := 17) (a := 110) fk_X11_96 kd_84 (ly_84_52 hL) (g_at ck_X11_partOf 10 rfl) rfl ?_
    refine tz_bipush (n := 19) (g_at ck_X11_partOf 11 rfl) rfl rfl ?_
    refine tz_iload1 (n := 20) (g_at ck_X11_partOf 12 rfl) rfl ?_
    refine tz_imul (n := 21) (g_at ck_X11_partOf 13 rfl) rfl ?_
    refine tz_iload3 (n := 22) (g_at ck_X11_partOf 14 rfl) rfl ?_
    refine tz_iadd (n := 23) (g_at ck_X11_partOf 15 rfl) rfl ?_
    refine tz_iald (n := 24) kd_110 (by omega) (g_at ck_X11_partOf 16 rfl) rfl ?_
    rw [r1]
    refine tz_sipush (n := 27) (g_at ck_X11_partOf 17 rfl) rfl rfl ?_
    refine tz_icmp_ge (n := 30) (tgt := 53) (g_at ck_X11_partOf 18 rfl) rfl rfl (by omega) (fun h27 => ?_) (fun h27 => ?_)
    · skip
      refine tz_iconst (n := 54) (g_at ck_X11_partOf 33 rfl) rfl ?_
      refine tz_ior (n := 55) (g_at ck_X11_partOf 34 rfl) rfl ?_
      refine tz_istore2 (n := 56) (g_at ck_X11_partOf 35 rfl) rfl (by decide) g_hpI ?_
      refine tz_iinc3 (n := 59) (g_at ck_X11_partOf 36 rfl) rfl (by decide) g_hpI ?_
      refine tz_goto (tgt := 4) (g_at ck_X11_partOf 37 rfl) rfl ?_
      have e9 : bmI (fun z : Nat => wyW Λ s 0 (c * 9 + (z : Int)) < 10000 ∧ wyW Λ s 0 ((z : Int) * 9 + c) < 10000) (i + 1) = bmI (fun z : Nat => wyW Λ s 0 (c * 9 + (z : Int)) < 10000 ∧ wyW Λ s 0 ((z : Int) * 9 + c) < 10000) i := bmI_n (P := (fun z : Nat => wyW Λ s 0 (c * 9 + (z : Int)) < 10000 ∧ wyW Λ s 0 ((z : Int) * 9 + c) < 10000)) (fun h9 => absurd (t1.mpr h9.1) (by omega))
      rw [(bmI_9 (fun z : Nat => wyW Λ s 0 (c * 9 + (z : Int)) < 10000 ∧ wyW Λ s 0 ((z : Int) * 9 + c) < 10000) (n := i) (by omega)).2.2]
      rw [e9] at ihi
      exact ihi
    · skip
      refine tz_aload0 (n := 31) (g_at ck_X11_partOf 19 rfl) rfl (g_ne kd_84) ?_
      refine tz_getAv (n := 34) (a := 110) fk_X11_96 kd_84 (ly_84_52 hL) (g_at ck_X11_partOf 20 rfl) rfl ?_
      refine tz_bipush (n := 36) (g_at ck_X11_partOf 21 rfl) rfl rfl ?_
      refine tz_iload3 (n := 37) (g_at ck_X11_partOf 22 rfl) rfl ?_
      refine tz_imul (n := 38) (g_at ck_X11_partOf 23 rfl) rfl ?_
      refine tz_iload1 (n := 39) (g_at ck_X11_partOf 24 rfl) rfl ?_
      refine tz_iadd (n := 40) (g_at ck_X11_partOf 25 rfl) rfl ?_
      refine tz_iald (n := 41) kd_110 (by omega) (g_at ck_X11_partOf 26 rfl) rfl ?_
      rw [r2]
      refine tz_sipush (n := 44) (g_at ck_X11_partOf 27 rfl) rfl rfl ?_
      refine tz_icmp_ge (n := 47) (tgt := 53) (g_at ck_X11_partOf 28 rfl) rfl rfl (by omega) (fun h44 => ?_) (fun h44 => ?_)
      · skip
        refine tz_iconst (n := 54) (g_at ck_X11_partOf 33 rfl) rfl ?_
        refine tz_ior (n := 55) (g_at ck_X11_partOf 34 rfl) rfl ?_
        refine tz_istore2 (n := 56) (g_at ck_X11_partOf 35 rfl) rfl (by decide) g_hpI ?_
        refine tz_iinc3 (n := 59) (g_at ck_X11_partOf 36 rfl) rfl (by decide) g_hpI ?_
        refine tz_goto (tgt := 4) (g_at ck_X11_partOf 37 rfl) rfl ?_
        have e9 : bmI (fun z : Nat => wyW Λ s 0 (c * 9 + (z : Int)) < 10000 ∧ wyW Λ s 0 ((z : Int) * 9 + c) < 10000) (i + 1) = bmI (fun z : Nat => wyW Λ s 0 (c * 9 + (z : Int)) < 10000 ∧ wyW Λ s 0 ((z : Int) * 9 + c) < 10000) i := bmI_n (P := (fun z : Nat => wyW Λ s 0 (c * 9 + (z : Int)) < 10000 ∧ wyW Λ s 0 ((z : Int) * 9 + c) < 10000)) (fun h9 => absurd (t2.mpr h9.2) (by omega))
        rw [(bmI_9 (fun z : Nat => wyW Λ s 0 (c * 9 + (z : Int)) < 10000 ∧ wyW Λ s 0 ((z : Int) * 9 + c) < 10000) (n := i) (by omega)).2.2]
        rw [e9] at ihi
        exact ihi
      · skip
        refine tz_iconst (n := 48) (g_at ck_X11_partOf 29 rfl) rfl ?_
        refine tz_iload3 (n := 49) (g_at ck_X11_partOf 30 rfl) rfl ?_
        refine tz_ishl (n := 50) (g_at ck_X11_partOf 31 rfl) rfl ?_
        refine tz_goto (tgt := 54) (g_at ck_X11_partOf 32 rfl) rfl ?_
        refine tz_ior (n := 55) (g_at ck_X11_partOf 34 rfl) rfl ?_
        refine tz_istore2 (n := 56) (g_at ck_X11_partOf 35 rfl) rfl (by decide) g_hpI ?_
        refine tz_iinc3 (n := 59) (g_at ck_X11_partOf 36 rfl) rfl (by decide) g_hpI ?_
        refine tz_goto (tgt := 4) (g_at ck_X11_partOf 37 rfl) rfl ?_
        have e9 : bmI (fun z : Nat => wyW Λ s 0 (c * 9 + (z : Int)) < 10000 ∧ wyW Λ s 0 ((z : Int) * 9 + c) < 10000) (i + 1) = bOr (bmI (fun z : Nat => wyW Λ s 0 (c * 9 + (z : Int)) < 10000 ∧ wyW Λ s 0 ((z : Int) * 9 + c) < 10000) i) (bShl 1 (i : Int)) := bmI_y (P := (fun z : Nat => wyW Λ s 0 (c * 9 + (z : Int)) < 10000 ∧ wyW Λ s 0 ((z : Int) * 9 + c) < 10000)) ⟨t1.mp (by omega), t2.mp (by omega)⟩
        rw [e9] at ihi
        exact ihi
theorem mp_parts {l : Launch} {γ : Gh} {ρ m : Mm} {s : Int → Int} {Λ : Mm} {hl tl : List Int} (hL : LY ρ) (hR : MR m) (hW : WL Λ) (hM : MLand m Λ hl tl) (hs : MRow m s) (hσ : WS Λ 0 (sig0 s)) (hz : m 84 51 = 0) : gE l γ μX11_parts 2 0 0 (rI KK fun x ρ9 m9 => ρ = ρ9 ∧ MR m9 ∧ Fr [110, 111] m m9 ∧ pcN Λ s (Λ 0 0).toNat = x) xN KK ρ m [vR 84] := by
  refine gE.ofw cl_X11.2 ?_ rfl rfl (Nat.le_of_ble_eq_true rfl)
  show gT l γ μX11_parts 2 0 0 _ _ KK ρ m 0 [some (vR 84), none, none] []
  have hn1 := hW.1
  have hN := hM.1
  refine tz_aload0 (n := 1) (g_at ck_X11_parts 0 rfl) rfl (g_ne kd_84) ?_
  refine tz_cvV0 (n := 4) (μ' := μX11_laysWays) (cb' := 0) (sb' := 0) ml_X11_365 mo_X11_laysWays mv_X11_laysWays np_X11_laysWays kd_84 (g_at ck_X11_parts 1 rfl) (mp_laysWays hL hR hW hM hs hσ hz) rfl rfl rfl ⟨by decide, by decide⟩ (Nat.le_of_ble_eq_true rfl) (by decide) (by decide) (fun ρ9 m1 hq => ?_)
  obtain ⟨rfl, hR1, hF1, hr1, hw1⟩ := hq
  have hM9 := hM.fr hF1 (by decide)
  refine tz_iconst (n := 5) (g_at ck_X11_parts 2 rfl) rfl ?_
  refine tz_istore1 (n := 6) (g_at ck_X11_parts 3 rfl) rfl (by decide) g_hpR ?_
  refine tz_iconst (n := 7) (g_at ck_X11_parts 4 rfl) rfl ?_
  refine tz_istore2 (n := 8) (g_at ck_X11_parts 5 rfl) rfl (by decide) g_hpI ?_
  refine g_for (fun i : Nat => gT l γ μX11_parts 2 0 0 _ _ KK ρ m1 8 [some (vR 84), some (vI (pcN Λ s i)), some (vI (i : Int))] []) (Λ 0 0).toNat ?_ (fun i hi ihi => ?_) 0 (Nat.zero_le _)
  · skip
    refine tz_iload2 (n := 9) (g_at ck_X11_parts 6 rfl) rfl ?_
    refine tz_aload0 (n := 10) (g_at ck_X11_parts 7 rfl) rfl (g_ne kd_84) ?_
    refine tz_getIw (n := 13) (kz := 1) fk_X11_302 kd_84 (g_at ck_X11_parts 8 rfl) rfl rfl ?_
    rw [hM9.1]
    refine tz_icmp_ge (n := 16) (tgt := 44) (g_at ck_X11_parts 9 rfl) rfl rfl (by omega) (fun h13 => ?_) (fun h13 => absurd h13 (by omega))
    refine tz_iload1 (n := 45) (g_at ck_X11_parts 28 rfl) rfl ?_
    exact tz_iret (g_at ck_X11_parts 29 rfl) rfl (rI_mk ⟨rfl, hR1, hF1, rfl⟩)
  · skip
    refine tz_iload2 (n := 9) (g_at ck_X11_parts 6 rfl) rfl ?_
    refine tz_aload0 (n := 10) (g_at ck_X11_parts 7 rfl) rfl (g_ne kd_84) ?_
    refine tz_getIw (n := 13) (kz := 1) fk_X11_302 kd_84 (g_at ck_X11_parts 8 rfl) rfl rfl ?_
    rw [hM9.1]
    refine tz_icmp_ge (n := 16) (tgt := 44) (g_at ck_X11_parts 9 rfl) rfl rfl (by omega) (fun h13 => absurd h13 (by omega)) (fun h13 => ?_)
    refine tz_iload1 (n := 17) (g_at ck_X11_parts 10 rfl) rfl ?_
    refine tz_aload0 (n := 18) (g_at ck_X11_parts 11 rfl) rfl (g_ne kd_84) ?_
    refine tz_iload2 (n := 19) (g_at ck_X11_parts 12 rfl) rfl ?_
    refine tz_cvI1 (n := 22) (μ' := μX11_partOf) (cb' := 0) (sb' := 0) ml_X11_368 mo_X11_partOf mv_X11_partOf np_X11_partOf kd_84 (g_at ck_X11_parts 13 rfl) (mp_partOf hL hR1 hW hM9 hr1 hw1 (by omega)) rfl rfl rfl ⟨by decide, by decide⟩ (Nat.le_of_ble_eq_true rfl) (by decide) (by decide) (fun x19 ρ9 m19 hq => ?_)
    obtain ⟨rfl, hR2, rfl, rfl⟩ := hq
    refine tz_iconst (n := 23) (g_at ck_X11_parts 14 rfl) rfl ?_
    refine tz_iload2 (n := 24) (g_at ck_X11_parts 15 rfl) rfl ?_
    refine tz_ishl (n := 25) (g_at ck_X11_parts 16 rfl) rfl ?_
    refine tz_iconst (n := 26) (g_at ck_X11_parts 17 rfl) rfl ?_
    refine tz_isub (n := 27) (g_at ck_X11_parts 18 rfl) rfl ?_
    refine tz_iand (n := 28) (g_at ck_X11_parts 19 rfl) rfl ?_
    refine tz_if_ne (n := 31) (tgt := 35) (g_at ck_X11_parts 20 rfl) rfl rfl (bAnd_rg _ _) (fun h28 => ?_) (fun h28 => ?_)
    · skip
      refine tz_iconst (n := 36) (g_at ck_X11_parts 23 rfl) rfl ?_
      refine tz_iadd (n := 37) (g_at ck_X11_parts 24 rfl) rfl ?_
      refine tz_istore1 (n := 38) (g_at ck_X11_parts 25 rfl) rfl (by decide) g_hpR ?_
      refine tz_iinc2 (n := 41) (g_at ck_X11_parts 26 rfl) rfl (by decide) g_hpI ?_
      refine tz_goto (tgt := 8) (g_at ck_X11_parts 27 rfl) rfl ?_
      have e9 : pcN Λ s (i + 1) = (pcN Λ s i) + 0 := (if_neg h28).trans (Int.add_zero _).symm
      rw [e9] at ihi
      exact ihi
    · skip
      refine tz_iconst (n := 32) (g_at ck_X11_parts 21 rfl) rfl ?_
      refine tz_goto (tgt := 36) (g_at ck_X11_parts 22 rfl) rfl ?_
      refine tz_iadd (n := 37) (g_at ck_X11_parts 24 rfl) rfl ?_
      refine tz_istore1 (n := 38) (g_at ck_X11_parts 25 rfl) rfl (by decide) g_hpR ?_
      refine tz_iinc2 (n := 41) (g_at ck_X11_parts 26 rfl) rfl (by decide) g_hpI ?_
      refine tz_goto (tgt := 8) (g_at ck_X11_parts 27 rfl) rfl ?_
      have e9 : pcN Λ s (i + 1) = (pcN Λ s i) + 1 := if_pos h28
      rw [e9] at ihi
      exact ihi
theorem mp_way {l : Launch} {γ : Gh} {ρ m : Mm} {a y w : Int} (ha : -2147483648 ≤ a ∧ a < 2147483648) (hy : -2147483648 ≤ y ∧ y < 2147483648) (hw : -2147483648 ≤ w ∧ w < 2147483648) {s : Int → Int} {Λ : Mm} {hl tl : List Int} (hL : LY ρ) (hR : MR m) (hW : WL Λ) (hM : MLand m Λ hl tl) (hs : MRow m s) (hσ : WS Λ 0 (sig0 s)) (hz : m 84 51 = 0) : gE l γ μX11_way 3 0 0 (rI KK fun x ρ9 m9 => ρ = ρ9 ∧ MR m9 ∧ mK m m9 ∧ m9 84 0 = sq (cdC Λ a) (sq (cdC Λ y) (cdW w 1)) ∧ (sq (cdC Λ a) (sq (cdC Λ y) (cdW w 1)) = 0 → orN (if w = 0 then wyW Λ s 0 (a * 9 + y) else wyW Λ s 1 (a * 9 + y)) = x)) xN KK ρ m [vR 84, vI a, vI y, vI w] := by
  refine gE.ofw cl_X11.2 ?_ rfl rfl (Nat.le_of_ble_eq_true rfl)
  show gT l γ μX11_way 3 0 0 _ _ KK ρ m 0 [some (vR 84), some (vI a), some (vI y), some (vI w), none] []
  have hn1 := hW.1
  have hn8 := hW.2.1
  refine tz_aload0 (n := 1) (g_at ck_X11_way 0 rfl) rfl (g_ne kd_84) ?_
  refine tz_iconst (n := 2) (g_at ck_X11_way 1 rfl) rfl ?_
  refine tz_putIr (n := 5) (kz := 0) fk_X11_132 kd_84 (g_at ck_X11_way 2 rfl) rfl hR ⟨(by decide), (by decide)⟩ rfl (fun hR1 => ?_)
  obtain ⟨m0, e0⟩ : ∃ m0, m0 = wr m 84 0 0 := ⟨_, rfl⟩
  rw [← e0] at hR1 ⊢
  have hk0 : mK m m0 := by rw [e0]; exact mK.w0
  have hM0 := hk0.land hM
  have hs0 := hk0.row hs
  have hz0 : m0 84 51 = 0 := hk0.w51.trans hz
  have h00 : m0 84 0 = 0 := by rw [e0, wr_same]
  have hw0 := hw_0 hz0
  refine tz_aload0 (n := 6) (g_at ck_X11_way 3 rfl) rfl (g_ne kd_84) ?_
  refine tz_iload1 (n := 7) (g_at ck_X11_way 4 rfl) rfl ?_
  refine tz_cvI1 (n := 10) (μ' := μX11_isCrossing) (cb' := 0) (sb' := 0) ml_X11_393 mo_X11_isCrossing mv_X11_isCrossing np_X11_isCrossing kd_84 (g_at ck_X11_way 5 rfl) (mp_isCrossing ha hL hR1 hW hM0 h00) rfl rfl rfl ⟨by decide, by decide⟩ (Nat.le_of_ble_eq_true rfl) (by decide) (by decide) (fun x7 ρ9 m7 hq => ?_)
  obtain ⟨rfl, hR2, hq7⟩ := hq
  refine tz_if_eq (n := 13) (tgt := 30) (g_at ck_X11_way 6 rfl) rfl rfl (by rcases hq7.b01 with h9 | h9 <;> omega) (fun h10 => ?_) (fun h10 => ?_)
  · skip
    refine tz_iconst (n := 31) (g_at ck_X11_way 16 rfl) rfl ?_
    exact tz_iret (g_at ck_X11_way 17 rfl) rfl (rI_mk ⟨rfl, hR2, by rw [(hq7.no h10).2]; exact hk0.tr mK.w0, by rw [(hq7.no h10).2, wr_same, sqn (hq7.no h10).1], fun h9 => absurd h9 (by rw [sqn (hq7.no h10).1]; exact (hq7.no h10).1)⟩)
  · skip
    obtain ⟨hc0, rfl⟩ := hq7.ok h10
    have hi0 := cdC_i hc0
    refine tz_aload0 (n := 14) (g_at ck_X11_way 7 rfl) rfl (g_ne kd_84) ?_
    refine tz_iload2 (n := 15) (g_at ck_X11_way 8 rfl) rfl ?_
    refine tz_cvI1 (n := 18) (μ' := μX11_isCrossing) (cb' := 0) (sb' := 0) ml_X11_393 mo_X11_isCrossing mv_X11_isCrossing np_X11_isCrossing kd_84 (g_at ck_X11_way 9 rfl) (mp_isCrossing hy hL hR2 hW hM0 h00) rfl rfl rfl ⟨by decide, by decide⟩ (Nat.le_of_ble_eq_true rfl) (by decide) (by decide) (fun x15 ρ9 m15 hq => ?_)
    obtain ⟨rfl, hR3, hq15⟩ := hq
    refine tz_if_eq (n := 21) (tgt := 30) (g_at ck_X11_way 10 rfl) rfl rfl (by rcases hq15.b01 with h9 | h9 <;> omega) (fun h18 => ?_) (fun h18 => ?_)
    · skip
      refine tz_iconst (n := 31) (g_at ck_X11_way 16 rfl) rfl ?_
      exact tz_iret (g_at ck_X11_way 17 rfl) rfl (rI_mk ⟨rfl, hR3, by rw [(hq15.no h18).2]; exact hk0.tr mK.w0, by rw [(hq15.no h18).2, wr_same, hc0, sq0, sqn (hq15.no h18).1], fun h9 => absurd h9 (by rw [hc0, sq0, sqn (hq15.no h18).1]; exact (hq15.no h18).1)⟩)
    · skip
      obtain ⟨hc1, rfl⟩ := hq15.ok h18
      have hi1 := cdC_i hc1
      refine tz_aload0 (n := 22) (g_at ck_X11_way 11 rfl) rfl (g_ne kd_84) ?_
      refine tz_iload3 (n := 23) (g_at ck_X11_way 12 rfl) rfl ?_
      refine tz_iconst (n := 24) (g_at ck_X11_way 13 rfl) rfl ?_
      refine tz_cvI2 (n := 27) (μ' := μX11_isWhat) (cb' := 0) (sb' := 0) ml_X11_396 mo_X11_isWhat mv_X11_isWhat np_X11_isWhat kd_84 (g_at ck_X11_way 14 rfl) (mp_isWhat hw (by decide) hL hR3 h00) rfl rfl rfl ⟨by decide, by decide⟩ (Nat.le_of_ble_eq_true rfl) (by decide) (by decide) (fun x24 ρ9 m24 hq => ?_)
      obtain ⟨rfl, hR4, hq24⟩ := hq
      refine tz_if_ne (n := 30) (tgt := 32) (g_at ck_X11_way 15 rfl) rfl rfl (by rcases hq24.b01 with h9 | h9 <;> omega) (fun h27 => ?_) (fun h27 => ?_)
      · skip
        obtain ⟨hc2, rfl⟩ := hq24.ok h27
        have hi2 := cdW_i hc2
        refine tz_aload0 (n := 33) (g_at ck_X11_way 18 rfl) rfl (g_ne kd_84) ?_
        refine tz_cvV0 (n := 36) (μ' := μX11_laysWays) (cb' := 0) (sb' := 0) ml_X11_365 mo_X11_laysWays mv_X11_laysWays np_X11_laysWays kd_84 (g_at ck_X11_way 19 rfl) (mp_laysWays hL hR4 hW hM0 hs0 hσ hz0) rfl rfl rfl ⟨by decide, by decide⟩ (Nat.le_of_ble_eq_true rfl) (by decide) (by decide) (fun ρ9 m33 hq => ?_)
        obtain ⟨rfl, hR5, hF33, hr33, hw33⟩ := hq
        have raz := hr33 a y hi0.1 hi0.2 hi1.1 hi1.2
        have baz := hw33 (a * 9 + y)
        have t0 := tr_lt baz.1
        have t1 := tr_lt baz.2
        have g0 := tr_rg baz.1 (Int.le_refl _)
        have g1 := tr_rg baz.2 (Int.le_refl _)
        refine tz_iload3 (n := 37) (g_at ck_X11_way 20 rfl) rfl ?_
        refine tz_if_ne (n := 40) (tgt := 54) (g_at ck_X11_way 21 rfl) rfl rfl hw (fun h37 => ?_) (fun h37 => ?_)
        · skip
          refine tz_aload0 (n := 55) (g_at ck_X11_way 31 rfl) rfl (g_ne kd_84) ?_
          refine tz_getAv (n := 58) (a := 111) fk_X11_99 kd_84 (ly_84_53 hL) (g_at ck_X11_way 32 rfl) rfl ?_
          refine tz_bipush (n := 60) (g_at ck_X11_way 33 rfl) rfl rfl ?_
          refine tz_iload1 (n := 61) (g_at ck_X11_way 34 rfl) rfl ?_
          refine tz_imul (n := 62) (g_at ck_X11_way 35 rfl) rfl ?_
          refine tz_iload2 (n := 63) (g_at ck_X11_way 36 rfl) rfl ?_
          refine tz_iadd (n := 64) (g_at ck_X11_way 37 rfl) rfl ?_
          refine tz_iald (n := 65) kd_111 (by omega) (g_at ck_X11_way 38 rfl) rfl ?_
          rw [raz.2]
          refine tz_istore4 (n := 67) (g_at ck_X11_way 39 rfl) rfl (by decide) g_hpI ?_
          refine tz_iload4 (n := 69) (g_at ck_X11_way 40 rfl) rfl ?_
          refine tz_sipush (n := 72) (g_at ck_X11_way 41 rfl) rfl rfl ?_
          refine tz_icmp_lt (n := 75) (tgt := 79) (g_at ck_X11_way 42 rfl) rfl rfl (by omega) (fun h72 => ?_) (fun h72 => ?_)
          · skip
            refine tz_iload4 (n := 81) (g_at ck_X11_way 45 rfl) rfl ?_
            exact tz_iret (g_at ck_X11_way 46 rfl) rfl (rI_mk ⟨rfl, hR5, hk0.tr (mK.l hF33 (by decide)), by rw [hF33 84 (by decide), h00, hc0, hc1, hc2]; rfl, fun _ => by rw [if_neg h37]; exact or_y baz.2 (t1.mp h72)⟩)
          · skip
            refine tz_iconst (n := 76) (g_at ck_X11_way 43 rfl) rfl ?_
            refine tz_goto (tgt := 81) (g_at ck_X11_way 44 rfl) rfl ?_
            exact tz_iret (g_at ck_X11_way 46 rfl) rfl (rI_mk ⟨rfl, hR5, hk0.tr (mK.l hF33 (by decide)), by rw [hF33 84 (by decide), h00, hc0, hc1, hc2]; rfl, fun _ => by rw [if_neg h37]; exact or_n baz.2 (fun h9 => h72 (t1.mpr h9))⟩)
        · skip
          refine tz_aload0 (n := 41) (g_at ck_X11_way 22 rfl) rfl (g_ne kd_84) ?_
          refine tz_getAv (n := 44) (a := 110) fk_X11_96 kd_84 (ly_84_52 hL) (g_at ck_X11_way 23 rfl) rfl ?_
          refine tz_bipush (n := 46) (g_at ck_X11_way 24 rfl) rfl rfl ?_
          refine tz_iload1 (n := 47) (g_at ck_X11_way 25 rfl) rfl ?_
          refine tz_imul (n := 48) (g_at ck_X11_way 26 rfl) rfl ?_
          refine tz_iload2 (n := 49) (g_at ck_X11_way 27 rfl) rfl ?_
          refine tz_iadd (n := 50) (g_at ck_X11_way 28 rfl) rfl ?_
          refine tz_iald (n := 51) kd_110 (by omega) (g_at ck_X11_way 29 rfl) rfl ?_
          rw [raz.1]
          refine tz_goto (tgt := 65) (g_at ck_X11_way 30 rfl) rfl ?_
          refine tz_istore4 (n := 67) (g_at ck_X11_way 39 rfl) rfl (by decide) g_hpI ?_
          refine tz_iload4 (n := 69) (g_at ck_X11_way 40 rfl) rfl ?_
          refine tz_sipush (n := 72) (g_at ck_X11_way 41 rfl) rfl rfl ?_
          refine tz_icmp_lt (n := 75) (tgt := 79) (g_at ck_X11_way 42 rfl) rfl rfl (by omega) (fun h72 => ?_) (fun h72 => ?_)
          · skip
            refine tz_iload4 (n := 81) (g_at ck_X11_way 45 rfl) rfl ?_
            exact tz_iret (g_at ck_X11_way 46 rfl) rfl (rI_mk ⟨rfl, hR5, hk0.tr (mK.l hF33 (by decide)), by rw [hF33 84 (by decide), h00, hc0, hc1, hc2]; rfl, fun _ => by rw [if_pos h37]; exact or_y baz.1 (t0.mp h72)⟩)
          · skip
            refine tz_iconst (n := 76) (g_at ck_X11_way 43 rfl) rfl ?_
            refine tz_goto (tgt := 81) (g_at ck_X11_way 44 rfl) rfl ?_
            exact tz_iret (g_at ck_X11_way 46 rfl) rfl (rI_mk ⟨rfl, hR5, hk0.tr (mK.l hF33 (by decide)), by rw [hF33 84 (by decide), h00, hc0, hc1, hc2]; rfl, fun _ => by rw [if_pos h37]; exact or_n baz.1 (fun h9 => h72 (t0.mpr h9))⟩)
      · skip
        refine tz_iconst (n := 31) (g_at ck_X11_way 16 rfl) rfl ?_
        exact tz_iret (g_at ck_X11_way 17 rfl) rfl (rI_mk ⟨rfl, hR4, by rw [(hq24.no h27).2]; exact hk0.tr mK.w0, by rw [(hq24.no h27).2, wr_same, hc0, hc1, sq0, sq0], fun h9 => absurd h9 (by rw [hc0, hc1, sq0, sq0]; exact (hq24.no h27).1)⟩)
