/-! More calls that look ahead. -/
def isF1 (P : Nat → Prop) (n : Nat) (x : Int) : Prop := (x = -1 ∧ ∀ j : Nat, j < n → ¬ P j) ∨ ∃ i : Nat, x = (i : Int) + 1 ∧ i < n ∧ P i ∧ ∀ j : Nat, j < i → ¬ P j
theorem isF1_eq {P : Nat → Prop} {n : Nat} {x y : Int} (h : isF1 P n x) (k : isF1 P n y) : x = y := by
  rcases h with ⟨h1, h2⟩ | ⟨i, h1, h2, h3, h4⟩
  · rcases k with ⟨k1, k2⟩ | ⟨j, k1, k2, k3, k4⟩
    · omega
    · exact absurd k3 (h2 j k2)
  · rcases k with ⟨k1, k2⟩ | ⟨j, k1, k2, k3, k4⟩
    · exact absurd h3 (k2 i h2)
    · by_cases c : i < j
      · exact absurd h3 (k4 i c)
      · by_cases d : j < i
        · exact absurd k3 (h4 j d)
        · omega
theorem sp_comes {l : Launch} {γ : Gh} {ρ m : Mm} {p c : Int} (hp : -2147483648 ≤ p ∧ p < 2147483648) (hc : -2147483648 ≤ c ∧ c < 2147483648) {ld : Int} {Λ : Mm} {hl tl : List Int} (hL : LY ρ) (hLn : ρ 1 3 = ld) (hS : isS ρ ld) (hR : MR m) (hW : WL Λ) (hG : LandC m ld Λ hl tl) {s : Int → Int} (hN : MomC m 39 s) (hσ : WS Λ 0 (sig0 s)) : gE l γ μX10_comes 7 2 12 (rI KK fun x ρ9 m9 => qR ρ ρ9 ∧ MR m9 ∧ qM ld m m9 ∧ sq (cdP Λ p) (cdC Λ c) = 0 ∧ isFN (fun j => (daysP Λ hl tl (sig0 s) j) 0 (1 + p) = c) 101 x) (xC ρ m (sq (cdP Λ p) (cdC Λ c))) KK ρ m [vR 1, vI p, vI c] := by
  refine gE.ofw cl_X10.2 ?_ rfl rfl (Nat.le_of_ble_eq_true rfl)
  show gT l γ μX10_comes 7 2 12 _ _ KK ρ m 0 [some (vR 1), some (vI p), some (vI c), none] []
  have hn1 := hW.1
  have hn8 := hW.2.1
  have hld := hG.ld9
  refine tz_aload0 (n := 1) (g_at ck_X10_comes 0 rfl) rfl (g_ne kd_1) ?_
  refine tz_iload1 (n := 2) (g_at ck_X10_comes 1 rfl) rfl ?_
  refine tz_cvxV1 (n := 5) (μ' := μX10_needPerson) (cb' := 1) (sb' := 6) ml_X10_221 mo_X10_needPerson mv_X10_needPerson np_X10_needPerson kd_1 (g_at ck_X10_comes 2 rfl) (sp_needP ⟨hp.1, hp.2⟩ hL hLn hS hR hW hG) rfl rfl rfl ⟨by decide, by decide⟩ (Nat.le_of_ble_eq_true rfl) (by decide) (by decide) (g_in (g_m5 (List.mem_of_getElem? (i := 68) rfl)) rfl) (fun E9 ρ9 m9 h9 => g_gX_out rfl h9.1 h9.2.1 (sq_1 h9.2.2)) (fun ρ9 m2 hq => ?_)
  obtain ⟨rfl, hR1, rfl, hz2⟩ := hq
  have hp2 := cdP_0 hz2
  refine tz_aload0 (n := 6) (g_at ck_X10_comes 3 rfl) rfl (g_ne kd_1) ?_
  refine tz_iload2 (n := 7) (g_at ck_X10_comes 4 rfl) rfl ?_
  refine tz_cvxV1 (n := 10) (μ' := μX10_needCrossing) (cb' := 0) (sb' := 0) ml_X10_185 mo_X10_needCrossing mv_X10_needCrossing np_X10_needCrossing kd_1 (g_at ck_X10_comes 5 rfl) (sp_needC ⟨hc.1, hc.2⟩ hL hLn hS hR1 hW hG) rfl rfl rfl ⟨by decide, by decide⟩ (Nat.le_of_ble_eq_true rfl) (by decide) (by decide) (g_in (g_m5 (List.mem_of_getElem? (i := 41) rfl)) rfl) (fun E9 ρ9 m9 h9 => g_gX_out rfl h9.1 h9.2.1 (sq_2 hz2 h9.2.2)) (fun ρ9 m7 hq => ?_)
  obtain ⟨rfl, hR2, rfl, hz7⟩ := hq
  have hc2 := cdC_0 hz7
  refine tz_aload0 (n := 11) (g_at ck_X10_comes 6 rfl) rfl (g_ne kd_1) ?_
  refine tz_cvR0 (n := 14) (μ' := μX10_setOut) (cb' := 0) (sb' := 0) ml_X10_251 mo_X10_setOut mv_X10_setOut np_X10_setOut kd_1 (g_at ck_X10_comes 7 rfl) (sp_setOut hL hLn hS hR2 hW hG hN) rfl rfl rfl ⟨by decide, by decide⟩ (Nat.le_of_ble_eq_true rfl) (by decide) (by decide) (fun x11 ρ9 m11 hq => ?_)
  obtain ⟨rfl, rfl, hR3, hT11, hF11⟩ := hq
  have hQ11 := qM_trL (hF11.sub (trL_be (ld := ld)))
  have hG11 := hG.fr (hF11.sub trL_be)
  have hL := LY_wr (r := 62) (k := 0) (x := ld) hL (by decide)
  have hLt : wr ρ 62 0 ld 62 0 = ld := wr_same
  have hLn : wr ρ 62 0 ld 1 3 = ld := (by rw [wr_ne (by decide)]; exact hLn)
  have hS : isS (wr ρ 62 0 ld) ld := isS_of hL hld
  refine tz_popR (n := 15) (g_at ck_X10_comes 8 rfl) rfl ?_
  refine tz_iconst (n := 16) (g_at ck_X10_comes 9 rfl) rfl ?_
  refine tz_istore3 (n := 17) (g_at ck_X10_comes 10 rfl) rfl (by decide) g_hpI ?_
  refine g_for (fun i : Nat => ∀ m1 : Mm, (MR m1 ∧ TripC m1 (daysP Λ hl tl (sig0 s) i) ∧ Fr (trL ld) m m1 ∧ ∀ j : Nat, j < i → ¬ ((daysP Λ hl tl (sig0 s) j) 0 (1 + p) = c)) → gT l γ μX10_comes 7 0 0 _ _ KK (wr ρ 62 0 ld) m1 17 [some (vR 1), some (vI p), some (vI c), some (vI (i : Int))] []) 101 ?_ (fun i hi ihi => ?_) 0 (Nat.zero_le _) _ ⟨hR3, hT11, hF11.sub trL_be, fun j hj => absurd hj (Nat.not_lt_zero j)⟩
  · intro m1 hinv
    obtain ⟨hRi, hTi, hFi, hno⟩ := hinv
    refine tz_iload3 (n := 18) (g_at ck_X10_comes 11 rfl) rfl ?_
    refine tz_bipush (n := 20) (g_at ck_X10_comes 12 rfl) rfl rfl ?_
    refine tz_icmp_gt (n := 23) (tgt := 55) (g_at ck_X10_comes 13 rfl) rfl rfl ⟨(by omega), (by omega), (by decide), (by decide)⟩ (fun h20 => ?_) (fun h20 => absurd h20 (by omega))
    refine tz_iconst (n := 56) (g_at ck_X10_comes 30 rfl) rfl ?_
    exact tz_iret (g_at ck_X10_comes 31 rfl) rfl (rI_mk ⟨qR_62, hRi, qM_trL hFi, sq_0 hz2 hz7, Or.inl ⟨rfl, hno⟩⟩)
  · intro m1 hinv
    obtain ⟨hRi, hTi, hFi, hno⟩ := hinv
    have hGi := hG.fr hFi
    have hσi := daysP_WS (hl := hl) (tl := tl) hW hσ (Int.le_refl 0) i
    have hp1 := hσi.2.1 p hp2.1 hp2.2
    refine tz_iload3 (n := 18) (g_at ck_X10_comes 11 rfl) rfl ?_
    refine tz_bipush (n := 20) (g_at ck_X10_comes 12 rfl) rfl rfl ?_
    refine tz_icmp_gt (n := 23) (tgt := 55) (g_at ck_X10_comes 13 rfl) rfl rfl ⟨(by omega), (by omega), (by decide), (by decide)⟩ (fun h20 => absurd h20 (by omega)) (fun h20 => ?_)
    refine tz_aload0 (n := 24) (g_at ck_X10_comes 14 rfl) rfl (g_ne kd_1) ?_
    refine tz_getOv (n := 27) (a := 62) fk_X10_74 kd_1 (ly_1_14 hL) (g_at ck_X10_comes 15 rfl) rfl ?_
    refine tz_getOv (n := 30) (a := 63) fk_X10_258 kd_62 (ly_62_1 hL) (g_at ck_X10_comes 16 rfl) rfl ?_
    refine tz_getAv (n := 33) (a := 64) fk_X10_224 (isM_63 hL).k0 (isM_63 hL).r0_1 (g_at ck_X10_comes 17 rfl) rfl ?_
    refine tz_iload1 (n := 34) (g_at ck_X10_comes 18 rfl) rfl ?_
    refine tz_iald (n := 35) (isM_63 hL).k1 (by omega) (g_at ck_X10_comes 19 rfl) rfl ?_
    rw [hTi.whr p (by omega)]
    refine tz_iload2 (n := 36) (g_at ck_X10_comes 20 rfl) rfl ?_
    refine tz_icmp_ne (n := 39) (tgt := 41) (g_at ck_X10_comes 21 rfl) rfl rfl ⟨by omega, by omega, by omega, by omega⟩ (fun h36 => ?_) (fun h36 => ?_)
    · skip
      refine tz_aload0 (n := 42) (g_at ck_X10_comes 24 rfl) rfl (g_ne kd_1) ?_
      refine tz_getOv (n := 45) (a := 62) fk_X10_74 kd_1 (ly_1_14 hL) (g_at ck_X10_comes 25 rfl) rfl ?_
      refine tz_iconst (n := 46) (g_at ck_X10_comes 26 rfl) rfl ?_
      refine tz_cvV1 (n := 49) (μ' := μX8_goDay) (cb' := 0) (sb' := 0) ml_X10_277 mo_X8_goDay mv_X8_goDay np_X8_goDay kd_62 (g_at ck_X10_comes 27 rfl) (sp_goDay hL hLt hS hRi hW hGi hTi hσi (by omega) (by omega)) rfl rfl rfl ⟨by decide, by decide⟩ (Nat.le_of_ble_eq_true rfl) (by decide) (by decide) (fun ρ9 m46 hq => ?_)
      obtain ⟨rfl, hR4, hT46, hF46⟩ := hq
      have hσ9 := daysP_WS (hl := hl) (tl := tl) hW hσ (Int.le_refl 0) (i + 1)
      refine tz_iinc3 (n := 52) (g_at ck_X10_comes 28 rfl) rfl (by decide) g_hpI ?_
      refine tz_goto (tgt := 17) (g_at ck_X10_comes 29 rfl) rfl ?_
      exact ihi _ ⟨hR4, hT46, hFi.tr hF46, no_step hno h36⟩
    · skip
      refine tz_iload3 (n := 40) (g_at ck_X10_comes 22 rfl) rfl ?_
      exact tz_iret (g_at ck_X10_comes 23 rfl) rfl (rI_mk ⟨qR_62, hRi, qM_trL hFi, sq_0 hz2 hz7, Or.inr ⟨i, rfl, by omega, h36, hno⟩⟩)
theorem sp_meet {l : Launch} {γ : Gh} {ρ m : Mm} {p o : Int} (hp : -2147483648 ≤ p ∧ p < 2147483648) (ho : -2147483648 ≤ o ∧ o < 2147483648) {ld : Int} {Λ : Mm} {hl tl : List Int} (hL : LY ρ) (hLn : ρ 1 3 = ld) (hS : isS ρ ld) (hR : MR m) (hW : WL Λ) (hG : LandC m ld Λ hl tl) {s : Int → Int} (hN : MomC m 39 s) (hσ : WS Λ 0 (sig0 s)) : gE l γ μX10_meet 7 2 12 (rI KK fun x ρ9 m9 => qR ρ ρ9 ∧ MR m9 ∧ qM ld m m9 ∧ sq (cdP Λ p) (cdP Λ o) = 0 ∧ (p = o → x = -1) ∧ (p ≠ o → isFN (fun j => (daysP Λ hl tl (sig0 s) j) 0 (1 + p) = (daysP Λ hl tl (sig0 s) j) 0 (1 + o)) 101 x)) (xC ρ m (sq (cdP Λ p) (cdP Λ o))) KK ρ m [vR 1, vI p, vI o] := by
  refine gE.ofw cl_X10.2 ?_ rfl rfl (Nat.le_of_ble_eq_true rfl)
  show gT l γ μX10_meet 7 2 12 _ _ KK ρ m 0 [some (vR 1), some (vI p), some (vI o), none] []
  have hn1 := hW.1
  have hn8 := hW.2.1
  have hld := hG.ld9
  refine tz_aload0 (n := 1) (g_at ck_X10_meet 0 rfl) rfl (g_ne kd_1) ?_
  refine tz_iload1 (n := 2) (g_at ck_X10_meet 1 rfl) rfl ?_
  refine tz_cvxV1 (n := 5) (μ' := μX10_needPerson) (cb' := 1) (sb' := 6) ml_X10_221 mo_X10_needPerson mv_X10_needPerson np_X10_needPerson kd_1 (g_at ck_X10_meet 2 rfl) (sp_needP ⟨hp.1, hp.2⟩ hL hLn hS hR hW hG) rfl rfl rfl ⟨by decide, by decide⟩ (Nat.le_of_ble_eq_true rfl) (by decide) (by decide) (g_in (g_m5 (List.mem_of_getElem? (i := 68) rfl)) rfl) (fun E9 ρ9 m9 h9 => g_gX_out rfl h9.1 h9.2.1 (sq_1 h9.2.2)) (fun ρ9 m2 hq => ?_)
  obtain ⟨rfl, hR1, rfl, hz2⟩ := hq
  have hp2 := cdP_0 hz2
  refine tz_aload0 (n := 6) (g_at ck_X10_meet 3 rfl) rfl (g_ne kd_1) ?_
  refine tz_iload2 (n := 7) (g_at ck_X10_meet 4 rfl) rfl ?_
  refine tz_cvxV1 (n := 10) (μ' := μX10_needPerson) (cb' := 0) (sb' := 0) ml_X10_221 mo_X10_needPerson mv_X10_needPerson np_X10_needPerson kd_1 (g_at ck_X10_meet 5 rfl) (sp_needP ⟨ho.1, ho.2⟩ hL hLn hS hR1 hW hG) rfl rfl rfl ⟨by decide, by decide⟩ (Nat.le_of_ble_eq_true rfl) (by decide) (by decide) (g_in (g_m5 (List.mem_of_getElem? (i := 68) rfl)) rfl) (fun E9 ρ9 m9 h9 => g_gX_out rfl h9.1 h9.2.1 (sq_2 hz2 h9.2.2)) (fun ρ9 m7 hq => ?_)
  obtain ⟨rfl, hR2, rfl, hz7⟩ := hq
  have ho2 := cdP_0 hz7
  refine tz_iload1 (n := 11) (g_at ck_X10_meet 6 rfl) rfl ?_
  refine tz_iload2 (n := 12) (g_at ck_X10_meet 7 rfl) rfl ?_
  refine tz_icmp_ne (n := 15) (tgt := 17) (g_at ck_X10_meet 8 rfl) rfl rfl ⟨hp.1, hp.2, ho.1, ho.2⟩ (fun h12 => ?_) (fun h12 => ?_)
  · skip
    refine tz_aload0 (n := 18) (g_at ck_X10_meet 11 rfl) rfl (g_ne kd_1) ?_
    refine tz_cvR0 (n := 21) (μ' := μX10_setOut) (cb' := 0) (sb' := 0) ml_X10_251 mo_X10_setOut mv_X10_setOut np_X10_setOut kd_1 (g_at ck_X10_meet 12 rfl) (sp_setOut hL hLn hS hR2 hW hG hN) rfl rfl rfl ⟨by decide, by decide⟩ (Nat.le_of_ble_eq_true rfl) (by decide) (by decide) (fun x18 ρ9 m18 hq => ?_)
    obtain ⟨rfl, rfl, hR3, hT18, hF18⟩ := hq
    have hQ18 := qM_trL (hF18.sub (trL_be (ld := ld)))
    have hG18 := hG.fr (hF18.sub trL_be)
    have hL := LY_wr (r := 62) (k := 0) (x := ld) hL (by decide)
    have hLt : wr ρ 62 0 ld 62 0 = ld := wr_same
    have hLn : wr ρ 62 0 ld 1 3 = ld := (by rw [wr_ne (by decide)]; exact hLn)
    have hS : isS (wr ρ 62 0 ld) ld := isS_of hL hld
    refine tz_popR (n := 22) (g_at ck_X10_meet 13 rfl) rfl ?_
    refine tz_iconst (n := 23) (g_at ck_X10_meet 14 rfl) rfl ?_
    refine tz_istore3 (n := 24) (g_at ck_X10_meet 15 rfl) rfl (by decide) g_hpI ?_
    refine g_for (fun i : Nat => ∀ m1 : Mm, (MR m1 ∧ TripC m1 (daysP Λ hl tl (sig0 s) i) ∧ Fr (trL ld) m m1 ∧ ∀ j : Nat, j < i → ¬ ((daysP Λ hl tl (sig0 s) j) 0 (1 + p) = (daysP Λ hl tl (sig0 s) j) 0 (1 + o))) → gT l γ μX10_meet 7 0 0 _ _ KK (wr ρ 62 0 ld) m1 24 [some (vR 1), some (vI p), some (vI o), some (vI (i : Int))] []) 101 ?_ (fun i hi ihi => ?_) 0 (Nat.zero_le _) _ ⟨hR3, hT18, hF18.sub trL_be, fun j hj => absurd hj (Nat.not_lt_zero j)⟩
    · intro m1 hinv
      obtain ⟨hRi, hTi, hFi, hno⟩ := hinv
      refine tz_iload3 (n := 25) (g_at ck_X10_meet 16 rfl) rfl ?_
      refine tz_bipush (n := 27) (g_at ck_X10_meet 17 rfl) rfl rfl ?_
      refine tz_icmp_gt (n := 30) (tgt := 58) (g_at ck_X10_meet 18 rfl) rfl rfl ⟨(by omega), (by omega), (by decide), (by decide)⟩ (fun h27 => ?_) (fun h27 => absurd h27 (by omega))
      refine tz_iconst (n := 59) (g_at ck_X10_meet 33 rfl) rfl ?_
      exact tz_iret (g_at ck_X10_meet 34 rfl) rfl (rI_mk ⟨qR_62, hRi, qM_trL hFi, sq_0 hz2 hz7, fun h9 => absurd h9 h12, fun _ => Or.inl ⟨rfl, hno⟩⟩)
    · intro m1 hinv
      obtain ⟨hRi, hTi, hFi, hno⟩ := hinv
      have hGi := hG.fr hFi
      have hσi := daysP_WS (hl := hl) (tl := tl) hW hσ (Int.le_refl 0) i
      refine tz_iload3 (n := 25) (g_at ck_X10_meet 16 rfl) rfl ?_
      refine tz_bipush (n := 27) (g_at ck_X10_meet 17 rfl) rfl rfl ?_
      refine tz_icmp_gt (n := 30) (tgt := 58) (g_at ck_X10_meet 18 rfl) rfl rfl ⟨(by omega), (by omega), (by decide), (by decide)⟩ (fun h27 => absurd h27 (by omega)) (fun h27 => ?_)
      refine tz_aload0 (n := 31) (g_at ck_X10_meet 19 rfl) rfl (g_ne kd_1) ?_
      refine tz_getOv (n := 34) (a := 62) fk_X10_74 kd_1 (ly_1_14 hL) (g_at ck_X10_meet 20 rfl) rfl ?_
      refine tz_iload1 (n := 35) (g_at ck_X10_meet 21 rfl) rfl ?_
      refine tz_iload2 (n := 36) (g_at ck_X10_meet 22 rfl) rfl ?_
      refine tz_cvI2 (n := 39) (μ' := μX8_areTogether) (cb' := 0) (sb' := 0) ml_X10_281 mo_X8_areTogether mv_X8_areTogether np_X8_areTogether kd_62 (g_at ck_X10_meet 23 rfl) (sp_areTog hL hLt hS hRi hW hGi hTi hσi (by omega) (by omega) (by omega)) rfl rfl rfl ⟨by decide, by decide⟩ (Nat.le_of_ble_eq_true rfl) (by decide) (by decide) (fun x36 ρ9 m36 hq => ?_)
      obtain ⟨rfl, hR4, rfl, rfl⟩ := hq
      refine tz_if_eq (n := 42) (tgt := 44) (g_at ck_X10_meet 24 rfl) rfl rfl (by split <;> decide) (fun h39 => ?_) (fun h39 => ?_)
      · skip
        refine tz_aload0 (n := 45) (g_at ck_X10_meet 27 rfl) rfl (g_ne kd_1) ?_
        refine tz_getOv (n := 48) (a := 62) fk_X10_74 kd_1 (ly_1_14 hL) (g_at ck_X10_meet 28 rfl) rfl ?_
        refine tz_iconst (n := 49) (g_at ck_X10_meet 29 rfl) rfl ?_
        refine tz_cvV1 (n := 52) (μ' := μX8_goDay) (cb' := 0) (sb' := 0) ml_X10_277 mo_X8_goDay mv_X8_goDay np_X8_goDay kd_62 (g_at ck_X10_meet 30 rfl) (sp_goDay hL hLt hS hR4 hW hGi hTi hσi (by omega) (by omega)) rfl rfl rfl ⟨by decide, by decide⟩ (Nat.le_of_ble_eq_true rfl) (by decide) (by decide) (fun ρ9 m49 hq => ?_)
        obtain ⟨rfl, hR5, hT49, hF49⟩ := hq
        have hσ9 := daysP_WS (hl := hl) (tl := tl) hW hσ (Int.le_refl 0) (i + 1)
        refine tz_iinc3 (n := 55) (g_at ck_X10_meet 31 rfl) rfl (by decide) g_hpI ?_
        refine tz_goto (tgt := 24) (g_at ck_X10_meet 32 rfl) rfl ?_
        have hh9 := ite10n h39
        exact ihi _ ⟨hR5, hT49, hFi.tr hF49, no_step hno hh9⟩
      · skip
        refine tz_iload3 (n := 43) (g_at ck_X10_meet 25 rfl) rfl ?_
        exact tz_iret (g_at ck_X10_meet 26 rfl) rfl (rI_mk ⟨qR_62, hR4, qM_trL hFi, sq_0 hz2 hz7, fun h9 => absurd h9 h12, fun _ => Or.inr ⟨i, rfl, by omega, ite10 h39, hno⟩⟩)
  · skip
    refine tz_iconst (n := 16) (g_at ck_X10_meet 9 rfl) rfl ?_
    exact tz_iret (g_at ck_X10_meet 10 rfl) rfl (rI_mk ⟨qR.rf, hR2, qM.rf, sq_0 hz2 hz7, fun _ => rfl, fun h9 => absurd h12 h9⟩)
theorem sp_gone {l : Launch} {γ : Gh} {ρ m : Mm} {c r n : Int} (hc : -2147483648 ≤ c ∧ c < 2147483648) (hr : -2147483648 ≤ r ∧ r < 2147483648) (hn : -2147483648 ≤ n ∧ n < 2147483648) {ld : Int} {Λ : Mm} {hl tl : List Int} (hL : LY ρ) (hLn : ρ 1 3 = ld) (hS : isS ρ ld) (hR : MR m) (hW : WL Λ) (hG : LandC m ld Λ hl tl) {s : Int → Int} (hN : MomC m 39 s) (hσ : WS Λ 0 (sig0 s)) : gE l γ μX10_gone 8 3 18 (rI KK fun x ρ9 m9 => qR ρ ρ9 ∧ MR m9 ∧ qM ld m m9 ∧ sq (cdR Λ c r) (cdD n 0 100) = 0 ∧ (daysP Λ hl tl (sig0 s) n.toNat) 2 (c * 5 + r) = x) (xC ρ m (sq (cdR Λ c r) (cdD n 0 100))) KK ρ m [vR 1, vI c, vI r, vI n] := by
  refine gE.ofw cl_X10.2 ?_ rfl rfl (Nat.le_of_ble_eq_true rfl)
  show gT l γ μX10_gone 8 3 18 _ _ KK ρ m 0 [some (vR 1), some (vI c), some (vI r), some (vI n)] []
  have hn1 := hW.1
  have hn8 := hW.2.1
  have hld := hG.ld9
  refine tz_aload0 (n := 1) (g_at ck_X10_gone 0 rfl) rfl (g_ne kd_1) ?_
  refine tz_iload1 (n := 2) (g_at ck_X10_gone 1 rfl) rfl ?_
  refine tz_iload2 (n := 3) (g_at ck_X10_gone 2 rfl) rfl ?_
  refine tz_cvxV2 (n := 6) (μ' := μX10_needRoad) (cb' := 1) (sb' := 6) ml_X10_210 mo_X10_needRoad mv_X10_needRoad np_X10_needRoad kd_1 (g_at ck_X10_gone 3 rfl) (sp_needR ⟨hc.1, hc.2⟩ ⟨hr.1, hr.2⟩ hL hLn hS hR hW hG) rfl rfl rfl ⟨by decide, by decide⟩ (Nat.le_of_ble_eq_true rfl) (by decide) (by decide) (g_in (g_m5 (List.mem_of_getElem? (i := 54) rfl)) rfl) (fun E9 ρ9 m9 h9 => g_gX_out rfl h9.1 h9.2.1 (sq_1 h9.2.2)) (fun ρ9 m3 hq => ?_)
  obtain ⟨rfl, hR1, rfl, hz3⟩ := hq
  have hc2 := cdR_0 hz3
  have hc3 := hW.2.2.1 c hc2.1 hc2.2.1
  refine tz_iload3 (n := 7) (g_at ck_X10_gone 4 rfl) rfl ?_
  refine tz_iconst (n := 8) (g_at ck_X10_gone 5 rfl) rfl ?_
  refine tz_bipush (n := 10) (g_at ck_X10_gone 6 rfl) rfl rfl ?_
  refine tz_csxV3 (n := 13) (μ' := μX10_needDays) (cb' := 0) (sb' := 0) ml_X10_270 mo_X10_needDays ms_X10_needDays np_X10_needDays (g_at ck_X10_gone 7 rfl) (sp_needD ⟨hn.1, hn.2⟩ ⟨(by decide), (by decide)⟩ ⟨(by decide), (by decide)⟩ hR1) rfl rfl ⟨by decide, by decide⟩ (Nat.le_of_ble_eq_true rfl) (by decide) (by decide) (g_in (g_m5 (List.mem_of_getElem? (i := 145) rfl)) rfl) (fun E9 ρ9 m9 h9 => g_gX_out rfl h9.1 h9.2.1 (sq_2 hz3 h9.2.2)) (fun ρ9 m10 hq => ?_)
  obtain ⟨rfl, hR2, rfl, hz10⟩ := hq
  have hn2 := cdD_0 hz10
  refine tz_aload0 (n := 14) (g_at ck_X10_gone 8 rfl) rfl (g_ne kd_1) ?_
  refine tz_cvR0 (n := 17) (μ' := μX10_setOut) (cb' := 0) (sb' := 0) ml_X10_251 mo_X10_setOut mv_X10_setOut np_X10_setOut kd_1 (g_at ck_X10_gone 9 rfl) (sp_setOut hL hLn hS hR2 hW hG hN) rfl rfl rfl ⟨by decide, by decide⟩ (Nat.le_of_ble_eq_true rfl) (by decide) (by decide) (fun x14 ρ9 m14 hq => ?_)
  obtain ⟨rfl, rfl, hR3, hT14, hF14⟩ := hq
  have hQ14 := qM_trL (hF14.sub (trL_be (ld := ld)))
  have hG14 := hG.fr (hF14.sub trL_be)
  have hL := LY_wr (r := 62) (k := 0) (x := ld) hL (by decide)
  have hLt : wr ρ 62 0 ld 62 0 = ld := wr_same
  have hLn : wr ρ 62 0 ld 1 3 = ld := (by rw [wr_ne (by decide)]; exact hLn)
  have hS : isS (wr ρ 62 0 ld) ld := isS_of hL hld
  refine tz_iload3 (n := 18) (g_at ck_X10_gone 10 rfl) rfl ?_
  refine tz_cvV1 (n := 21) (μ' := μX8_go) (cb' := 0) (sb' := 0) ml_X10_255 mo_X8_go mv_X8_go np_X8_go kd_62 (g_at ck_X10_gone 11 rfl) (sp_go hL hLt hS hR3 hW hG14 hT14 hσ (by decide) (by omega)) rfl rfl rfl ⟨by decide, by decide⟩ (Nat.le_of_ble_eq_true rfl) (by decide) (by decide) (fun ρ9 m18 hq => ?_)
  obtain ⟨rfl, hR4, hT18, hF18⟩ := hq
  have hQ18 := hQ14.tr (qM_trL hF18)
  refine tz_aload0 (n := 22) (g_at ck_X10_gone 12 rfl) rfl (g_ne kd_1) ?_
  refine tz_getOv (n := 25) (a := 62) fk_X10_74 kd_1 (ly_1_14 hL) (g_at ck_X10_gone 13 rfl) rfl ?_
  refine tz_getAv (n := 28) (a := 69) fk_X10_284 kd_62 (ly_62_3 hL) (g_at ck_X10_gone 14 rfl) rfl ?_
  refine tz_iload1 (n := 29) (g_at ck_X10_gone 15 rfl) rfl ?_
  refine tz_iload2 (n := 30) (g_at ck_X10_gone 16 rfl) rfl ?_
  refine tz_csI2 (n := 33) (μ' := μX6_roadIndex) (cb' := 0) (sb' := 0) ml_X10_287 mo_X6_roadIndex ms_X6_roadIndex np_X6_roadIndex (g_at ck_X10_gone 17 rfl) (sp_roadIndex hR4) rfl rfl ⟨by decide, by decide⟩ (Nat.le_of_ble_eq_true rfl) (by decide) (by decide) (fun x30 ρ9 m30 hq => ?_)
  obtain ⟨rfl, hR5, rfl, rfl⟩ := hq
  refine tz_iald (n := 34) kd_69 (by omega) (g_at ck_X10_gone 18 rfl) rfl ?_
  rw [hT18.goi _ (by omega)]
  exact tz_iret (g_at ck_X10_gone 19 rfl) rfl (rI_mk ⟨qR_62, hR5, hQ18, sq_0 hz3 hz10, rfl⟩)
