/-! What was seen. -/
/-- 0 0 how many; 1 who, 2 where, 3 behind how many days -/
def SeenC (m : Mm) (e : Int) (κ : Mm) : Prop := m e 3 = κ 0 0 ∧ ∀ i, 0 ≤ i → i < κ 0 0 → m (e + 1) i = κ 1 i ∧ m (e + 2) i = κ 2 i ∧ m (e + 3) i = κ 3 i
def WK (Λ κ : Mm) : Prop := (0 ≤ κ 0 0 ∧ κ 0 0 ≤ 8) ∧ ∀ i, 0 ≤ i → i < κ 0 0 → (0 ≤ κ 1 i ∧ κ 1 i < Λ 0 1) ∧ (0 ≤ κ 2 i ∧ κ 2 i < Λ 0 0) ∧ 0 ≤ κ 3 i ∧ κ 3 i ≤ 20
theorem SeenC.sam {m m9 κ : Mm} (h : SeenC m 46 κ) (k : ∀ a, 46 ≤ a → a ≤ 49 → m9 a = m a) : SeenC m9 46 κ := by
  refine ⟨by rw [k 46 (by decide) (by decide)]; exact h.1, fun i a b => ?_⟩
  rw [k (46 + 1) (by decide) (by decide), k (46 + 2) (by decide) (by decide), k (46 + 3) (by decide) (by decide)]
  exact h.2 i a b
theorem SeenC.fr {m m9 κ : Mm} {ld : Int} (h : SeenC m 46 κ) (hld : ld = 3 ∨ ld = 20) (k : Fr (trL ld) m m9) : SeenC m9 46 κ := h.sam fun a h1 h2 => k a fun h9 => by
  have := trL_no hld h9
  omega
theorem SeenC.q {m m9 κ : Mm} {ld : Int} (h : SeenC m 46 κ) (hld : ld = 3 ∨ ld = 20) (k : qM ld m m9) : SeenC m9 46 κ := h.sam fun a h1 h2 => k a (by omega) (by omega) (by omega)
def soD (κ : Mm) (σ : Mm) (d : Int) : Prop := ∀ i : Nat, i < (κ 0 0).toNat → κ 3 i = d → σ 0 (1 + κ 1 i) = κ 2 i
def soP (Λ : Mm) (hl tl : List Int) (κ σ : Mm) : Int := if ∀ i : Nat, i < (κ 0 0).toNat → daysP Λ hl tl σ (κ 3 i).toNat 0 (1 + κ 1 i) = κ 2 i then 1 else 0
theorem soP_01 {Λ : Mm} {hl tl : List Int} {κ σ : Mm} : soP Λ hl tl κ σ = 0 ∨ soP Λ hl tl κ σ = 1 := by
  unfold soP
  split <;> simp
theorem so_yes {m Λ κ σ : Mm} {d : Int} (hn : Λ 0 1 ≤ 8) (hK : SeenC m 46 κ) (hκ : WK Λ κ) (hT : TripC m σ) (h : soOn m 46 63 d ≠ 0) : soD κ σ d := fun i hi hd => by
  have h9 := ite10 h
  have k := hK.2 i (by omega) (by omega)
  have w := hκ.2 i (by omega) (by omega)
  have h8 := h9 i (by rw [hK.1]; exact hi) (by rw [k.2.2]; exact hd)
  rw [k.1, k.2.1] at h8
  rw [← hT.whr _ (by omega)]
  exact h8
theorem so_no {m Λ κ σ : Mm} {d : Int} (hn : Λ 0 1 ≤ 8) (hK : SeenC m 46 κ) (hκ : WK Λ κ) (hT : TripC m σ) (h : soOn m 46 63 d = 0) : ¬ soD κ σ d := fun h9 => ite10n h fun i hi hd => by
  rw [hK.1] at hi
  have k := hK.2 i (by omega) (by omega)
  have w := hκ.2 i (by omega) (by omega)
  rw [k.2.2] at hd
  have h8 := h9 i hi hd
  rw [← hT.whr _ (by omega)] at h8
  rw [k.1, k.2.1]
  exact h8
theorem lastD_ge {m : Mm} {e : Int} : ∀ {n i : Nat}, i < n → m (e + 3) (i : Int) ≤ lastD m e n
  | n + 1, i, hi => by
    show _ ≤ (if lastD m e n < m (e + 3) (n : Int) then m (e + 3) (n : Int) else lastD m e n)
    by_cases c : i = n
    · subst c
      split <;> omega
    · have := lastD_ge (m := m) (e := e) (n := n) (i := i) (by omega)
      split <;> omega
theorem lastD_k {m Λ κ : Mm} (hK : SeenC m 46 κ) (hκ : WK Λ κ) : ∀ n : Nat, (n : Int) ≤ κ 0 0 → 0 ≤ lastD m 46 n ∧ lastD m 46 n ≤ 20
  | 0, _ => by show (0 : Int) ≤ 0 ∧ (0 : Int) ≤ 20; decide
  | n + 1, hn => by
    have ih := lastD_k hK hκ n (by omega)
    have k := (hK.2 n (by omega) (by omega)).2.2
    have w := hκ.2 n (by omega) (by omega)
    show 0 ≤ (if lastD m 46 n < m (46 + 3) (n : Int) then m (46 + 3) (n : Int) else lastD m 46 n) ∧ (if lastD m 46 n < m (46 + 3) (n : Int) then m (46 + 3) (n : Int) else lastD m 46 n) ≤ 20
    rw [k]
    split <;> omega
theorem soP_1 {m Λ κ σ : Mm} {hl tl : List Int} (hK : SeenC m 46 κ) (hκ : WK Λ κ) (h : ∀ j : Nat, j < (lastD m 46 (κ 0 0).toNat + 1).toNat → soD κ (daysP Λ hl tl σ j) j) : soP Λ hl tl κ σ = 1 := if_pos fun i hi => by
  have k := (hK.2 i (by omega) (by omega)).2.2
  have w := hκ.2 i (by omega) (by omega)
  have g := lastD_ge (m := m) (e := 46) hi
  rw [k] at g
  exact h (κ 3 i).toNat (by omega) i hi (by omega)
theorem soP_0 {Λ κ σ : Mm} {hl tl : List Int} {j : Nat} (h : ¬ soD κ (daysP Λ hl tl σ j) j) : soP Λ hl tl κ σ = 0 := if_neg fun h9 => h fun i hi hd => by
  have := h9 i hi
  rw [hd, show ((j : Int)).toNat = j by omega] at this
  exact this
theorem sp_isSo {l : Launch} {γ : Gh} {ρ m : Mm} {ld b : Int} {Λ σ : Mm} {hl tl : List Int} (hL : LY ρ) (hLt : ρ 62 0 = ld) (hS : isS ρ ld) (hR : MR m) (hW : WL Λ) (hG : LandC m ld Λ hl tl) (hT : TripC m σ) (hσ : WS Λ b σ) (hb : 0 ≤ b ∧ b ≤ 80000) {κ : Mm} (hK : SeenC m 46 κ) (hκ : WK Λ κ) : gE l γ μX5_isSo 5 0 0 (rI KK fun x ρ9 m9 => ρ = ρ9 ∧ MR m9 ∧ soP Λ hl tl κ σ = x ∧ Fr (trL ld) m m9) xN KK ρ m [vR 46, vR 62] := by
  refine gE.ofw cl_X5.2 ?_ rfl rfl (Nat.le_of_ble_eq_true rfl)
  show gT l γ μX5_isSo 5 0 0 _ _ KK ρ m 0 [some (vR 46), some (vR 62), none, none] []
  have hn := hW.1
  have hn8 := hW.2.1
  have hld := hG.ld9
  have hk0 := hκ.1
  have hlast := lastD_k hK hκ (κ 0 0).toNat (by omega)
  refine tz_aload0 (n := 1) (g_at ck_X5_isSo 0 rfl) rfl (g_ne (isE_46 hL).k0) ?_
  refine tz_cvI0 (n := 4) (μ' := μX5_lastDay) (cb' := 0) (sb' := 0) ml_X5_31 mo_X5_lastDay mv_X5_lastDay np_X5_lastDay (isE_46 hL).k0 (g_at ck_X5_isSo 1 rfl) (sp_lastDay (isE_46 hL) hR (by rw [hK.1]; omega)) rfl rfl rfl ⟨by decide, by decide⟩ (Nat.le_of_ble_eq_true rfl) (by decide) (by decide) (fun x1 ρ9 m1 hq => ?_)
  obtain ⟨rfl, hR1, rfl, rfl⟩ := hq
  rw [hK.1]
  refine tz_istore2 (n := 5) (g_at ck_X5_isSo 2 rfl) rfl (by decide) g_hpR ?_
  refine tz_iconst (n := 6) (g_at ck_X5_isSo 3 rfl) rfl ?_
  refine tz_istore3 (n := 7) (g_at ck_X5_isSo 4 rfl) rfl (by decide) g_hpI ?_
  refine g_for (fun i : Nat => ∀ m1 : Mm, (MR m1 ∧ ((i : Int) ≤ (lastD m 46 (κ 0 0).toNat) → TripC m1 (daysP Λ hl tl σ i)) ∧ Fr (trL ld) m m1 ∧ ∀ j : Nat, j < i → soD κ (daysP Λ hl tl σ j) j) → gT l γ μX5_isSo 5 0 0 _ _ KK ρ m1 7 [some (vR 46), some (vR 62), some (vI (lastD m 46 (κ 0 0).toNat)), some (vI (i : Int))] []) ((lastD m 46 (κ 0 0).toNat) + 1).toNat ?_ (fun i hi ihi => ?_) 0 (Nat.zero_le _) _ ⟨hR1, fun _ => hT, Fr.rf, fun j hj => absurd hj (Nat.not_lt_zero j)⟩
  · intro m1 hinv
    obtain ⟨hRi, hTi0, hFi, hso⟩ := hinv
    refine tz_iload3 (n := 8) (g_at ck_X5_isSo 5 rfl) rfl ?_
    refine tz_iload2 (n := 9) (g_at ck_X5_isSo 6 rfl) rfl ?_
    refine tz_icmp_gt (n := 12) (tgt := 42) (g_at ck_X5_isSo 7 rfl) rfl rfl ⟨(by omega), (by omega), (by omega), (by omega)⟩ (fun h9 => ?_) (fun h9 => absurd h9 (by omega))
    refine tz_iconst (n := 43) (g_at ck_X5_isSo 24 rfl) rfl ?_
    exact tz_bret (g_at ck_X5_isSo 25 rfl) rfl (by decide) (rI_mk ⟨rfl, hRi, soP_1 hK hκ hso, hFi⟩)
  · intro m1 hinv
    obtain ⟨hRi, hTi0, hFi, hso⟩ := hinv
    have hGi := hG.fr hFi
    have hKi := hK.fr hld hFi
    have hTi := hTi0 (by omega)
    have hσi := daysP_WS (hl := hl) (tl := tl) hW hσ hb.1 i
    refine tz_iload3 (n := 8) (g_at ck_X5_isSo 5 rfl) rfl ?_
    refine tz_iload2 (n := 9) (g_at ck_X5_isSo 6 rfl) rfl ?_
    refine tz_icmp_gt (n := 12) (tgt := 42) (g_at ck_X5_isSo 7 rfl) rfl rfl ⟨(by omega), (by omega), (by omega), (by omega)⟩ (fun h9 => absurd h9 (by omega)) (fun h9 => ?_)
    refine tz_aload0 (n := 13) (g_at ck_X5_isSo 8 rfl) rfl (g_ne (isE_46 hL).k0) ?_
    refine tz_iload3 (n := 14) (g_at ck_X5_isSo 9 rfl) rfl ?_
    refine tz_aload1 (n := 15) (g_at ck_X5_isSo 10 rfl) rfl (g_ne kd_62) ?_
    refine tz_getOv (n := 18) (a := 63) fk_X5_35 kd_62 (ly_62_1 hL) (g_at ck_X5_isSo 11 rfl) rfl ?_
    refine tz_cvI2 (n := 21) (μ' := μX5_isSoOn) (cb' := 0) (sb' := 0) ml_X5_41 mo_X5_isSoOn mv_X5_isSoOn np_X5_isSoOn (isE_46 hL).k0 (g_at ck_X5_isSo 12 rfl) (sp_isSoOn (isE_46 hL) (isM_63 hL) hRi (by rw [hKi.1]; omega) (by omega) (fun q hq => by rw [hKi.1] at hq; have k9 := hKi.2 q (by omega) hq; have w9 := hκ.2 q (by omega) hq; rw [k9.1]; omega)) rfl rfl rfl ⟨by decide, by decide⟩ (Nat.le_of_ble_eq_true rfl) (by decide) (by decide) (fun x18 ρ9 m18 hq => ?_)
    obtain ⟨rfl, hR2, rfl, rfl⟩ := hq
    refine tz_if_ne (n := 24) (tgt := 26) (g_at ck_X5_isSo 13 rfl) rfl rfl (by unfold soOn; split <;> decide) (fun h21 => ?_) (fun h21 => ?_)
    · skip
      refine tz_iload3 (n := 27) (g_at ck_X5_isSo 16 rfl) rfl ?_
      refine tz_iload2 (n := 28) (g_at ck_X5_isSo 17 rfl) rfl ?_
      refine tz_icmp_ge (n := 31) (tgt := 36) (g_at ck_X5_isSo 18 rfl) rfl rfl ⟨(by omega), (by omega), (by omega), (by omega)⟩ (fun h28 => ?_) (fun h28 => ?_)
      · skip
        refine tz_iinc3 (n := 39) (g_at ck_X5_isSo 22 rfl) rfl (by decide) g_hpI ?_
        refine tz_goto (tgt := 7) (g_at ck_X5_isSo 23 rfl) rfl ?_
        have hd9 := so_yes hn8.2 hKi hκ hTi h21
        exact ihi _ ⟨hR2, fun h9 => absurd h9 (by omega), hFi, fun j hj => by
          by_cases e9 : j = i
          · rw [e9]; exact hd9
          · exact hso j (by omega)⟩
      · skip
        refine tz_aload1 (n := 32) (g_at ck_X5_isSo 19 rfl) rfl (g_ne kd_62) ?_
        refine tz_iconst (n := 33) (g_at ck_X5_isSo 20 rfl) rfl ?_
        refine tz_cvV1 (n := 36) (μ' := μX8_goDay) (cb' := 0) (sb' := 0) ml_X5_45 mo_X8_goDay mv_X8_goDay np_X8_goDay kd_62 (g_at ck_X5_isSo 21 rfl) (sp_goDay hL hLt hS hR2 hW hGi hTi hσi (by omega) (by omega)) rfl rfl rfl ⟨by decide, by decide⟩ (Nat.le_of_ble_eq_true rfl) (by decide) (by decide) (fun ρ9 m33 hq => ?_)
        obtain ⟨rfl, hR3, hT33, hF33⟩ := hq
        refine tz_iinc3 (n := 39) (g_at ck_X5_isSo 22 rfl) rfl (by decide) g_hpI ?_
        refine tz_goto (tgt := 7) (g_at ck_X5_isSo 23 rfl) rfl ?_
        have hd9 := so_yes hn8.2 hKi hκ hTi h21
        exact ihi _ ⟨hR3, fun _ => hT33, hFi.tr hF33, fun j hj => by
          by_cases e9 : j = i
          · rw [e9]; exact hd9
          · exact hso j (by omega)⟩
    · skip
      refine tz_iconst (n := 25) (g_at ck_X5_isSo 14 rfl) rfl ?_
      exact tz_bret (g_at ck_X5_isSo 15 rfl) rfl (by decide) (rI_mk ⟨rfl, hR2, soP_0 (so_no hn8.2 hKi hκ hTi h21), hFi⟩)
def tnB (Λ : Mm) (hl tl : List Int) (κ : Mm) (s : Int → Int) (c r : Int) : Int := if s (17 + c) = r then 0 else soP Λ hl tl κ (wr (sig0 s) 0 (17 + c) r)
theorem tnB_01 {Λ : Mm} {hl tl : List Int} {κ : Mm} {s : Int → Int} {c r : Int} : tnB Λ hl tl κ s c r = 0 ∨ tnB Λ hl tl κ s c r = 1 := by
  unfold tnB
  split
  · exact Or.inl rfl
  · exact soP_01
theorem sp_couldBe {l : Launch} {γ : Gh} {ρ m : Mm} {c r : Int} {ld : Int} {Λ : Mm} {hl tl : List Int} (hL : LY ρ) (hLn : ρ 1 3 = ld) (hS : isS ρ ld) (hR : MR m) (hW : WL Λ) (hG : LandC m ld Λ hl tl) {s : Int → Int} (hN : MomC m 39 s) (hσ : WS Λ 0 (sig0 s)) {κ : Mm} (hK : SeenC m 46 κ) (hκ : WK Λ κ) (hc : 0 ≤ c ∧ c < Λ 0 0) (hr : 0 ≤ r ∧ r < Λ 3 c) : gE l γ μX10_couldBeTurned 6 0 0 (rI KK fun x ρ9 m9 => qR ρ ρ9 ∧ MR m9 ∧ Fr (trL ld) m m9 ∧ tnB Λ hl tl κ s c r = x) xN KK ρ m [vR 1, vI c, vI r] := by
  refine gE.ofw cl_X10.2 ?_ rfl rfl (Nat.le_of_ble_eq_true rfl)
  show gT l γ μX10_couldBeTurned 6 0 0 _ _ KK ρ m 0 [some (vR 1), some (vI c), some (vI r)] []
  have hn1 := hW.1
  have hn8 := hW.2.1
  have hld := hG.ld9
  have hc3 := hW.2.2.1 c hc.1 hc.2
  have ha1 := sig0_WS_c hσ hc
  refine tz_aload0 (n := 1) (g_at ck_X10_couldBeTurned 0 rfl) rfl (g_ne kd_1) ?_
  refine tz_getOv (n := 4) (a := 39) fk_X10_39 kd_1 (ly_1_6 hL) (g_at ck_X10_couldBeTurned 1 rfl) rfl ?_
  refine tz_getAv (n := 7) (a := 42) fk_X10_197 (isM_39 hL).k0 (isM_39 hL).r0_3 (g_at ck_X10_couldBeTurned 2 rfl) rfl ?_
  refine tz_iload1 (n := 8) (g_at ck_X10_couldBeTurned 3 rfl) rfl ?_
  refine tz_iald (n := 9) (isM_39 hL).k3 (by omega) (g_at ck_X10_couldBeTurned 4 rfl) rfl ?_
  rw [nowA hN c (by omega)]
  refine tz_iload2 (n := 10) (g_at ck_X10_couldBeTurned 5 rfl) rfl ?_
  refine tz_icmp_ne (n := 13) (tgt := 15) (g_at ck_X10_couldBeTurned 6 rfl) rfl rfl ⟨by omega, by omega, by omega, by omega⟩ (fun h10 => ?_) (fun h10 => ?_)
  · skip
    refine tz_aload0 (n := 16) (g_at ck_X10_couldBeTurned 9 rfl) rfl (g_ne kd_1) ?_
    refine tz_cvR0 (n := 19) (μ' := μX10_setOut) (cb' := 0) (sb' := 0) ml_X10_251 mo_X10_setOut mv_X10_setOut np_X10_setOut kd_1 (g_at ck_X10_couldBeTurned 10 rfl) (sp_setOut hL hLn hS hR hW hG hN) rfl rfl rfl ⟨by decide, by decide⟩ (Nat.le_of_ble_eq_true rfl) (by decide) (by decide) (fun x16 ρ9 m16 hq => ?_)
    obtain ⟨rfl, rfl, hR1, hT16, hF16⟩ := hq
    have hQ16 := qM_trL (hF16.sub (trL_be (ld := ld)))
    have hG16 := hG.fr (hF16.sub trL_be)
    have hL := LY_wr (r := 62) (k := 0) (x := ld) hL (by decide)
    have hLt : wr ρ 62 0 ld 62 0 = ld := wr_same
    have hLn : wr ρ 62 0 ld 1 3 = ld := (by rw [wr_ne (by decide)]; exact hLn)
    have hS : isS (wr ρ 62 0 ld) ld := isS_of hL hld
    have hqr16 := qR_62 (ρ := ρ) (x := ld)
    refine tz_getOv (n := 22) (a := 63) fk_X10_258 kd_62 (ly_62_1 hL) (g_at ck_X10_couldBeTurned 11 rfl) rfl ?_
    refine tz_getAv (n := 25) (a := 66) fk_X10_197 (isM_63 hL).k0 (isM_63 hL).r0_3 (g_at ck_X10_couldBeTurned 12 rfl) rfl ?_
    refine tz_iload1 (n := 26) (g_at ck_X10_couldBeTurned 13 rfl) rfl ?_
    refine tz_iload2 (n := 27) (g_at ck_X10_couldBeTurned 14 rfl) rfl ?_
    refine tz_iastr (n := 28) (isM_63 hL).k3 (by omega) (g_at ck_X10_couldBeTurned 15 rfl) rfl hR1 (by omega) (fun hR2 => ?_)
    refine tz_aload0 (n := 29) (g_at ck_X10_couldBeTurned 16 rfl) rfl (g_ne kd_1) ?_
    refine tz_getOv (n := 32) (a := 46) fk_X10_53 kd_1 (ly_1_8 hL) (g_at ck_X10_couldBeTurned 17 rfl) rfl ?_
    refine tz_aload0 (n := 33) (g_at ck_X10_couldBeTurned 18 rfl) rfl (g_ne kd_1) ?_
    refine tz_getOv (n := 36) (a := 62) fk_X10_74 kd_1 (ly_1_14 hL) (g_at ck_X10_couldBeTurned 19 rfl) rfl ?_
    refine tz_cvI1 (n := 39) (μ' := μX5_isSo) (cb' := 0) (sb' := 0) ml_X10_338 mo_X5_isSo mv_X5_isSo np_X5_isSo (isE_46 hL).k0 (g_at ck_X10_couldBeTurned 20 rfl) (sp_isSo hL hLt hS hR2 hW (hG16.fr (Fr.rf.wr (trL_66 66 List.mem_cons_self))) (hT16.setA (by omega)) (WS_arm hW hσ hc hr) (by decide) (hK.fr hld ((hF16.sub trL_be).wr (trL_66 66 List.mem_cons_self))) hκ) rfl rfl rfl ⟨by decide, by decide⟩ (Nat.le_of_ble_eq_true rfl) (by decide) (by decide) (fun x36 ρ9 m36 hq => ?_)
    obtain ⟨rfl, hR3, hx36, hF36⟩ := hq
    have h01 := soP_01 (Λ := Λ) (hl := hl) (tl := tl) (κ := κ) (σ := wr (sig0 s) 0 (17 + c) r)
    exact tz_bret (g_at ck_X10_couldBeTurned 21 rfl) rfl (by rw [← hx36]; exact soP_01) (rI_mk ⟨hqr16, hR3, ((hF16.sub trL_be).wr (trL_66 66 List.mem_cons_self)).tr hF36, (if_neg h10).trans hx36⟩)
  · skip
    refine tz_iconst (n := 14) (g_at ck_X10_couldBeTurned 7 rfl) rfl ?_
    exact tz_bret (g_at ck_X10_couldBeTurned 8 rfl) rfl (by decide) (rI_mk ⟨qR.rf, hR, Fr.rf, if_pos h10⟩)
theorem sp_turned {l : Launch} {γ : Gh} {ρ m : Mm} {w : Int} (hw : -2147483648 ≤ w ∧ w < 2147483648) {ld : Int} {Λ : Mm} {hl tl : List Int} (hL : LY ρ) (hLn : ρ 1 3 = ld) (hS : isS ρ ld) (hR : MR m) (hW : WL Λ) (hG : LandC m ld Λ hl tl) {s : Int → Int} (hN : MomC m 39 s) (hσ : WS Λ 0 (sig0 s)) {κ : Mm} (hK : SeenC m 46 κ) (hκ : WK Λ κ) : gE l γ μX10_turned 7 1 6 (rI KK fun x ρ9 m9 => qR ρ ρ9 ∧ MR m9 ∧ qM ld m m9 ∧ cdW w 2 = 0 ∧ (if w = 2 then soP Λ hl tl κ (sig0 s) else if w = 0 then (cfN Λ (tnB Λ hl tl κ s) (Λ 0 0).toNat).1 else (cfN Λ (tnB Λ hl tl κ s) (Λ 0 0).toNat).2) = x) (xC ρ m (cdW w 2)) KK ρ m [vR 1, vI w] := by
  refine gE.ofw cl_X10.2 ?_ rfl rfl (Nat.le_of_ble_eq_true rfl)
  show gT l γ μX10_turned 7 1 6 _ _ KK ρ m 0 [some (vR 1), some (vI w), none, none, none, none] []
  have hn1 := hW.1
  have hn8 := hW.2.1
  have hld := hG.ld9
  refine tz_iload1 (n := 1) (g_at ck_X10_turned 0 rfl) rfl ?_
  refine tz_iconst (n := 2) (g_at ck_X10_turned 1 rfl) rfl ?_
  refine tz_csxV2 (n := 5) (μ' := μX10_needWhat) (cb' := 0) (sb' := 0) ml_X10_135 mo_X10_needWhat ms_X10_needWhat np_X10_needWhat (g_at ck_X10_turned 2 rfl) (sp_needW ⟨hw.1, hw.2⟩ ⟨(by decide), (by decide)⟩ hR) rfl rfl ⟨by decide, by decide⟩ (Nat.le_of_ble_eq_true rfl) (by decide) (by decide) (g_in (g_m4 (List.mem_of_getElem? (i := 228) rfl)) rfl) (fun E9 ρ9 m9 h9 => g_gX_out rfl h9.1 h9.2.1 h9.2.2) (fun ρ9 m2 hq => ?_)
  obtain ⟨rfl, hR1, rfl, hz2⟩ := hq
  have hw2 := cdW_0 hz2
  refine tz_iload1 (n := 6) (g_at ck_X10_turned 3 rfl) rfl ?_
  refine tz_iconst (n := 7) (g_at ck_X10_turned 4 rfl) rfl ?_
  refine tz_icmp_ne (n := 10) (tgt := 30) (g_at ck_X10_turned 5 rfl) rfl rfl ⟨hw.1, hw.2, (by decide), (by decide)⟩ (fun h7 => ?_) (fun h7 => ?_)
  · skip
    refine tz_iconst (n := 31) (g_at ck_X10_turned 16 rfl) rfl ?_
    refine tz_istore2 (n := 32) (g_at ck_X10_turned 17 rfl) rfl (by decide) g_hpI ?_
    refine tz_iconst (n := 33) (g_at ck_X10_turned 18 rfl) rfl ?_
    refine tz_istore3 (n := 34) (g_at ck_X10_turned 19 rfl) rfl (by decide) g_hpI ?_
    refine tz_iconst (n := 35) (g_at ck_X10_turned 20 rfl) rfl ?_
    refine tz_istore4 (n := 37) (g_at ck_X10_turned 21 rfl) rfl (by decide) g_hpI ?_
    refine g_for (fun i : Nat => ∀ ρ1 m1 : Mm, (MR m1 ∧ qR ρ ρ1 ∧ Fr (trL ld) m m1) → gT l γ μX10_turned 7 0 0 _ _ KK ρ1 m1 37 [some (vR 1), some (vI w), some (vI (cfN Λ (tnB Λ hl tl κ s) i).1), some (vI (cfN Λ (tnB Λ hl tl κ s) i).2), some (vI (i : Int)), none] []) (Λ 0 0).toNat ?_ (fun i hi ihi => ?_) 0 (Nat.zero_le _) _ _ ⟨hR1, qR.rf, Fr.rf⟩
    · intro ρ1 m1 hinv
      obtain ⟨hR1, hq1, hF1⟩ := hinv
      have hL1 := hL.q hq1
      have hLn1 := hq1.ln hLn
      have hS1 := isS_q hL hq1 hld
      have hG1 := hG.fr hF1
      refine tz_iload4 (n := 39) (g_at ck_X10_turned 22 rfl) rfl ?_
      refine tz_aload0 (n := 40) (g_at ck_X10_turned 23 rfl) rfl (g_ne kd_1) ?_
      refine tz_getOv (n := 43) (a := ld) fk_X10_20 kd_1 (by first | exact hLn2 | exact hLn1 | exact hLn) (g_at ck_X10_turned 24 rfl) rfl ?_
      refine tz_getIw (n := 46) (kz := 0) fk_X10_139 (isS_of (by first | exact hL2 | exact hL1 | exact hL) hld).k0 (g_at ck_X10_turned 25 rfl) rfl rfl ?_
      rw [hG1.n0]
      refine tz_icmp_ge (n := 49) (tgt := 110) (g_at ck_X10_turned 26 rfl) rfl rfl ⟨by omega, by omega, by omega, by omega⟩ (fun h46 => ?_) (fun h46 => absurd h46 (by omega))
      refine tz_iload1 (n := 111) (g_at ck_X10_turned 56 rfl) rfl ?_
      refine tz_if_ne (n := 114) (tgt := 118) (g_at ck_X10_turned 57 rfl) rfl rfl ⟨hw.1, hw.2⟩ (fun h111 => ?_) (fun h111 => ?_)
      · skip
        refine tz_iload3 (n := 119) (g_at ck_X10_turned 60 rfl) rfl ?_
        exact tz_iret (g_at ck_X10_turned 61 rfl) rfl (rI_mk ⟨hq1, hR1, qM_trL hF1, hz2, by rw [if_neg h7, if_neg h111]⟩)
      · skip
        refine tz_iload2 (n := 115) (g_at ck_X10_turned 58 rfl) rfl ?_
        refine tz_goto (tgt := 119) (g_at ck_X10_turned 59 rfl) rfl ?_
        exact tz_iret (g_at ck_X10_turned 61 rfl) rfl (rI_mk ⟨hq1, hR1, qM_trL hF1, hz2, by rw [if_neg h7, if_pos h111]⟩)
    · intro ρ1 m1 hinv
      obtain ⟨hR1, hq1, hF1⟩ := hinv
      have hL1 := hL.q hq1
      have hLn1 := hq1.ln hLn
      have hS1 := isS_q hL hq1 hld
      have hG1 := hG.fr hF1
      have hc3 := hW.2.2.1 (i : Int) (by omega) (by omega)
      have hqi := cfN_rg hW (B := (tnB Λ hl tl κ s)) i (by omega)
      refine tz_iload4 (n := 39) (g_at ck_X10_turned 22 rfl) rfl ?_
      refine tz_aload0 (n := 40) (g_at ck_X10_turned 23 rfl) rfl (g_ne kd_1) ?_
      refine tz_getOv (n := 43) (a := ld) fk_X10_20 kd_1 (by first | exact hLn2 | exact hLn1 | exact hLn) (g_at ck_X10_turned 24 rfl) rfl ?_
      refine tz_getIw (n := 46) (kz := 0) fk_X10_139 (isS_of (by first | exact hL2 | exact hL1 | exact hL) hld).k0 (g_at ck_X10_turned 25 rfl) rfl rfl ?_
      rw [hG1.n0]
      refine tz_icmp_ge (n := 49) (tgt := 110) (g_at ck_X10_turned 26 rfl) rfl rfl ⟨by omega, by omega, by omega, by omega⟩ (fun h46 => absurd h46 (by omega)) (fun h46 => ?_)
      refine tz_iconst (n := 50) (g_at ck_X10_turned 27 rfl) rfl ?_
      refine tz_istore5 (n := 52) (g_at ck_X10_turned 28 rfl) rfl (by decide) g_hpI ?_
      refine g_for (fun j : Nat => ∀ ρ2 m2 : Mm, (MR m2 ∧ qR ρ ρ2 ∧ Fr (trL ld) m m2) → gT l γ μX10_turned 7 0 0 _ _ KK ρ2 m2 52 [some (vR 1), some (vI w), some (vI (cfR (tnB Λ hl tl κ s) (i : Int) (cfN Λ (tnB Λ hl tl κ s) i) j).1), some (vI (cfR (tnB Λ hl tl κ s) (i : Int) (cfN Λ (tnB Λ hl tl κ s) i) j).2), some (vI (i : Int)), some (vI (j : Int))] []) (Λ 3 (i : Int)).toNat ?_ (fun j hj ihj => ?_) 0 (Nat.zero_le _) _ _ ⟨hR1, hq1, hF1⟩
      · intro ρ2 m2 hinv
        obtain ⟨hR2, hq2, hF2⟩ := hinv
        have hL2 := hL.q hq2
        have hLn2 := hq2.ln hLn
        have hS2 := isS_q hL hq2 hld
        have hG2 := hG.fr hF2
        refine tz_iload5 (n := 54) (g_at ck_X10_turned 29 rfl) rfl ?_
        refine tz_aload0 (n := 55) (g_at ck_X10_turned 30 rfl) rfl (g_ne kd_1) ?_
        refine tz_getOv (n := 58) (a := ld) fk_X10_20 kd_1 (by first | exact hLn2 | exact hLn1 | exact hLn) (g_at ck_X10_turned 31 rfl) rfl ?_
        refine tz_getAv (n := 61) (a := (ld + 3)) fk_X10_194 (isS_of (by first | exact hL2 | exact hL1 | exact hL) hld).k0 (isS_of (by first | exact hL2 | exact hL1 | exact hL) hld).r0_4 (g_at ck_X10_turned 32 rfl) rfl ?_
        refine tz_iload4 (n := 63) (g_at ck_X10_turned 33 rfl) rfl ?_
        refine tz_iald (n := 64) (isS_of (by first | exact hL2 | exact hL1 | exact hL) hld).k3 (by omega) (g_at ck_X10_turned 34 rfl) rfl ?_
        rw [hG2.roads (i : Int) (by omega)]
        refine tz_icmp_ge (n := 67) (tgt := 104) (g_at ck_X10_turned 35 rfl) rfl rfl ⟨by omega, by omega, by omega, by omega⟩ (fun h64 => ?_) (fun h64 => absurd h64 (by omega))
        refine tz_iinc4 (n := 107) (g_at ck_X10_turned 54 rfl) rfl (by decide) g_hpI ?_
        refine tz_goto (tgt := 37) (g_at ck_X10_turned 55 rfl) rfl ?_
        refine tz_drop5 ?_
        exact ihi _ _ ⟨hR2, hq2, hF2⟩
      · intro ρ2 m2 hinv
        obtain ⟨hR2, hq2, hF2⟩ := hinv
        have hL2 := hL.q hq2
        have hLn2 := hq2.ln hLn
        have hS2 := isS_q hL hq2 hld
        have hG2 := hG.fr hF2
        have hqj := cfR_rg (B := (tnB Λ hl tl κ s)) (c := (i : Int)) hqi j
        refine tz_iload5 (n := 54) (g_at ck_X10_turned 29 rfl) rfl ?_
        refine tz_aload0 (n := 55) (g_at ck_X10_turned 30 rfl) rfl (g_ne kd_1) ?_
        refine tz_getOv (n := 58) (a := ld) fk_X10_20 kd_1 (by first | exact hLn2 | exact hLn1 | exact hLn) (g_at ck_X10_turned 31 rfl) rfl ?_
        refine tz_getAv (n := 61) (a := (ld + 3)) fk_X10_194 (isS_of (by first | exact hL2 | exact hL1 | exact hL) hld).k0 (isS_of (by first | exact hL2 | exact hL1 | exact hL) hld).r0_4 (g_at ck_X10_turned 32 rfl) rfl ?_
        refine tz_iload4 (n := 63) (g_at ck_X10_turned 33 rfl) rfl ?_
        refine tz_iald (n := 64) (isS_of (by first | exact hL2 | exact hL1 | exact hL) hld).k3 (by omega) (g_at ck_X10_turned 34 rfl) rfl ?_
        rw [hG2.roads (i : Int) (by omega)]
        refine tz_icmp_ge (n := 67) (tgt := 104) (g_at ck_X10_turned 35 rfl) rfl rfl ⟨by omega, by omega, by omega, by omega⟩ (fun h64 => absurd h64 (by omega)) (fun h64 => ?_)
        refine tz_aload0 (n := 68) (g_at ck_X10_turned 36 rfl) rfl (g_ne kd_1) ?_
        refine tz_iload4 (n := 70) (g_at ck_X10_turned 37 rfl) rfl ?_
        refine tz_iload5 (n := 72) (g_at ck_X10_turned 38 rfl) rfl ?_
        refine tz_cvI2 (n := 75) (μ' := μX10_couldBeTurned) (cb' := 0) (sb' := 0) ml_X10_342 mo_X10_couldBeTurned mv_X10_couldBeTurned np_X10_couldBeTurned kd_1 (g_at ck_X10_turned 39 rfl) (sp_couldBe hL2 hLn2 hS2 hR2 hW hG2 (hN.fr hld hF2) hσ (hK.fr hld hF2) hκ (by omega) (by omega)) rfl rfl rfl ⟨by decide, by decide⟩ (Nat.le_of_ble_eq_true rfl) (by decide) (by decide) (fun x72 ρ9 m72 hq => ?_)
        obtain ⟨hq72, hR2, hF72, rfl⟩ := hq
        have ht01 := tnB_01 (Λ := Λ) (hl := hl) (tl := tl) (κ := κ) (s := s) (c := (i : Int)) (r := (j : Int))
        refine tz_if_eq (n := 78) (tgt := 98) (g_at ck_X10_turned 40 rfl) rfl rfl (by omega) (fun h75 => ?_) (fun h75 => ?_)
        · skip
          refine tz_iinc5 (n := 101) (g_at ck_X10_turned 52 rfl) rfl (by decide) g_hpI ?_
          refine tz_goto (tgt := 52) (g_at ck_X10_turned 53 rfl) rfl ?_
          have e9 : cfR (tnB Λ hl tl κ s) (i : Int) (cfN Λ (tnB Λ hl tl κ s) i) (j + 1) = cfR (tnB Λ hl tl κ s) (i : Int) (cfN Λ (tnB Λ hl tl κ s) i) j := if_pos h75
          exact gT_eq (ihj _ _ ⟨hR2, hq2.tr hq72, hF2.tr hF72⟩) rfl (by rw [e9]; rfl)
        · skip
          refine tz_iload2 (n := 79) (g_at ck_X10_turned 41 rfl) rfl ?_
          refine tz_if_ne (n := 82) (tgt := 93) (g_at ck_X10_turned 42 rfl) rfl rfl (by omega) (fun h79 => ?_) (fun h79 => ?_)
          · skip
            refine tz_iload3 (n := 94) (g_at ck_X10_turned 49 rfl) rfl ?_
            refine tz_istore3 (n := 95) (g_at ck_X10_turned 50 rfl) rfl (by decide) g_hpI ?_
            refine tz_iinc2 (n := 98) (g_at ck_X10_turned 51 rfl) rfl (by decide) g_hpI ?_
            refine tz_iinc5 (n := 101) (g_at ck_X10_turned 52 rfl) rfl (by decide) g_hpI ?_
            refine tz_goto (tgt := 52) (g_at ck_X10_turned 53 rfl) rfl ?_
            have e9 : cfR (tnB Λ hl tl κ s) (i : Int) (cfN Λ (tnB Λ hl tl κ s) i) (j + 1) = ((cfR (tnB Λ hl tl κ s) (i : Int) (cfN Λ (tnB Λ hl tl κ s) i) j).1 + 1, (cfR (tnB Λ hl tl κ s) (i : Int) (cfN Λ (tnB Λ hl tl κ s) i) j).2) := cfS_2 h75 h79
            exact gT_eq (ihj _ _ ⟨hR2, hq2.tr hq72, hF2.tr hF72⟩) rfl (by rw [e9]; rfl)
          · skip
            refine tz_bipush (n := 84) (g_at ck_X10_turned 43 rfl) rfl rfl ?_
            refine tz_iload4 (n := 86) (g_at ck_X10_turned 44 rfl) rfl ?_
            refine tz_imul (n := 87) (g_at ck_X10_turned 45 rfl) rfl ?_
            refine tz_iload5 (n := 89) (g_at ck_X10_turned 46 rfl) rfl ?_
            refine tz_iadd (n := 90) (g_at ck_X10_turned 47 rfl) rfl ?_
            refine tz_goto (tgt := 94) (g_at ck_X10_turned 48 rfl) rfl ?_
            refine tz_istore3 (n := 95) (g_at ck_X10_turned 50 rfl) rfl (by decide) g_hpI ?_
            refine tz_iinc2 (n := 98) (g_at ck_X10_turned 51 rfl) rfl (by decide) g_hpI ?_
            refine tz_iinc5 (n := 101) (g_at ck_X10_turned 52 rfl) rfl (by decide) g_hpI ?_
            refine tz_goto (tgt := 52) (g_at ck_X10_turned 53 rfl) rfl ?_
            have e9 : cfR (tnB Λ hl tl κ s) (i : Int) (cfN Λ (tnB Λ hl tl κ s) i) (j + 1) = ((cfR (tnB Λ hl tl κ s) (i : Int) (cfN Λ (tnB Λ hl tl κ s) i) j).1 + 1, 10 * (i : Int) + (j : Int)) := cfS_1 h75 h79
            exact gT_eq (ihj _ _ ⟨hR2, hq2.tr hq72, hF2.tr hF72⟩) rfl (by rw [e9]; rfl)
  · skip
    refine tz_aload0 (n := 11) (g_at ck_X10_turned 6 rfl) rfl (g_ne kd_1) ?_
    refine tz_getOv (n := 14) (a := 46) fk_X10_53 kd_1 (ly_1_8 hL) (g_at ck_X10_turned 7 rfl) rfl ?_
    refine tz_aload0 (n := 15) (g_at ck_X10_turned 8 rfl) rfl (g_ne kd_1) ?_
    refine tz_cvR0 (n := 18) (μ' := μX10_setOut) (cb' := 0) (sb' := 0) ml_X10_251 mo_X10_setOut mv_X10_setOut np_X10_setOut kd_1 (g_at ck_X10_turned 9 rfl) (sp_setOut hL hLn hS hR1 hW hG hN) rfl rfl rfl ⟨by decide, by decide⟩ (Nat.le_of_ble_eq_true rfl) (by decide) (by decide) (fun x15 ρ9 m15 hq => ?_)
    obtain ⟨rfl, rfl, hR3, hT15, hF15⟩ := hq
    have hQ15 := qM_trL (hF15.sub (trL_be (ld := ld)))
    have hG15 := hG.fr (hF15.sub trL_be)
    have hL := LY_wr (r := 62) (k := 0) (x := ld) hL (by decide)
    have hLt : wr ρ 62 0 ld 62 0 = ld := wr_same
    have hLn : wr ρ 62 0 ld 1 3 = ld := (by rw [wr_ne (by decide)]; exact hLn)
    have hS : isS (wr ρ 62 0 ld) ld := isS_of hL hld
    have hqr15 := qR_62 (ρ := ρ) (x := ld)
    refine tz_cvI1 (n := 21) (μ' := μX5_isSo) (cb' := 0) (sb' := 0) ml_X10_338 mo_X5_isSo mv_X5_isSo np_X5_isSo (isE_46 hL).k0 (g_at ck_X10_turned 10 rfl) (sp_isSo hL hLt hS hR3 hW hG15 hT15 hσ (by decide) (hK.q hld hQ15) hκ) rfl rfl rfl ⟨by decide, by decide⟩ (Nat.le_of_ble_eq_true rfl) (by decide) (by decide) (fun x18 ρ9 m18 hq => ?_)
    obtain ⟨rfl, hR4, hx18, hF18⟩ := hq
    have h01 := soP_01 (Λ := Λ) (hl := hl) (tl := tl) (κ := κ) (σ := sig0 s)
    refine tz_if_eq (n := 24) (tgt := 28) (g_at ck_X10_turned 11 rfl) rfl rfl (by omega) (fun h21 => ?_) (fun h21 => ?_)
    · skip
      refine tz_iconst (n := 29) (g_at ck_X10_turned 14 rfl) rfl ?_
      exact tz_iret (g_at ck_X10_turned 15 rfl) rfl (rI_mk ⟨hqr15, hR4, hQ15.tr (qM_trL hF18), hz2, by rw [if_pos h7]; omega⟩)
    · skip
      refine tz_iconst (n := 25) (g_at ck_X10_turned 12 rfl) rfl ?_
      refine tz_goto (tgt := 29) (g_at ck_X10_turned 13 rfl) rfl ?_
      exact tz_iret (g_at ck_X10_turned 15 rfl) rfl (rI_mk ⟨hqr15, hR4, hQ15.tr (qM_trL hF18), hz2, by rw [if_pos h7]; omega⟩)
