/-! If one thing were changed now. -/
theorem wr_self {ρ : Mm} {a k x : Int} (h : ρ a k = x) : wr ρ a k x = ρ := funext fun r => funext fun j => by
  unfold wr
  split
  · rename_i e
    rw [e.1, e.2]
    exact h.symm
  · rfl
theorem WS_arm {Λ σ : Mm} {b c r : Int} (hW : WL Λ) (h : WS Λ b σ) (hc : 0 ≤ c ∧ c < Λ 0 0) (hr : 0 ≤ r ∧ r < Λ 3 c) : WS Λ b (wr σ 0 (17 + c) r) := by
  have hn := hW.1
  have hn8 := hW.2.1
  refine ⟨?_, fun q a d => ?_, fun q a d => ?_, fun j a d => ?_⟩
  · rw [wr_at, if_neg (by omega)]
    exact h.1
  · rw [wr_at, if_neg (by omega), wr_at, if_neg (by omega), wr_ne (by decide)]
    exact h.2.1 q a d
  · have := h.2.2.1 q a d
    rw [wr_at, wr_at, if_neg (show ¬ 26 + q = 17 + c by omega)]
    by_cases e : q = c
    · subst e
      rw [if_pos rfl]
      omega
    · rw [if_neg (by omega)]
      exact this
  · rw [wr_ne (by decide)]
    exact h.2.2.2 j a d
theorem sp_byTurn {l : Launch} {γ : Gh} {ρ m : Mm} {p c r k : Int} {ld : Int} {Λ : Mm} {hl tl : List Int} (hL : LY ρ) (hLn : ρ 1 3 = ld) (hS : isS ρ ld) (hR : MR m) (hW : WL Λ) (hG : LandC m ld Λ hl tl) {s : Int → Int} (hN : MomC m 39 s) (hσ : WS Λ 0 (sig0 s)) (hLt : ρ 62 0 = ld) (hp : 0 ≤ p ∧ p < Λ 0 1) (hc : 0 ≤ c ∧ c < Λ 0 0) (hr : 0 ≤ r ∧ r < Λ 3 c) (hk : -1 ≤ k ∧ k ≤ 1000) : gE l γ μX10_daysByTurn 6 0 0 (rI KK fun x ρ9 m9 => ρ = ρ9 ∧ MR m9 ∧ Fr (trL ld) m m9 ∧ (s (17 + c) = r → x = k + 1) ∧ (s (17 + c) ≠ r → isFst (homeAt Λ hl tl (wr (sig0 s) 0 (17 + c) r) p) (k + 1).toNat x)) xN KK ρ m [vR 1, vI p, vI c, vI r, vI k] := by
  refine gE.ofw cl_X10.2 ?_ rfl rfl (Nat.le_of_ble_eq_true rfl)
  show gT l γ μX10_daysByTurn 6 0 0 _ _ KK ρ m 0 [some (vR 1), some (vI p), some (vI c), some (vI r), some (vI k)] []
  have hn1 := hW.1
  have hn8 := hW.2.1
  have hld := hG.ld9
  have hc3 := hW.2.2.1 c hc.1 hc.2
  have ha1 : 0 ≤ s (17 + c) ∧ (0 < Λ 3 c → s (17 + c) < Λ 3 c) := ⟨(hσ.2.2.1 c hc.1 hc.2).1, (hσ.2.2.1 c hc.1 hc.2).2.1⟩
  refine tz_aload0 (n := 1) (g_at ck_X10_daysByTurn 0 rfl) rfl (g_ne kd_1) ?_
  refine tz_getOv (n := 4) (a := 39) fk_X10_39 kd_1 (ly_1_6 hL) (g_at ck_X10_daysByTurn 1 rfl) rfl ?_
  refine tz_getAv (n := 7) (a := 42) fk_X10_197 (isM_39 hL).k0 (isM_39 hL).r0_3 (g_at ck_X10_daysByTurn 2 rfl) rfl ?_
  refine tz_iload2 (n := 8) (g_at ck_X10_daysByTurn 3 rfl) rfl ?_
  refine tz_iald (n := 9) (isM_39 hL).k3 (by omega) (g_at ck_X10_daysByTurn 4 rfl) rfl ?_
  rw [nowA hN c (by omega)]
  refine tz_iload3 (n := 10) (g_at ck_X10_daysByTurn 5 rfl) rfl ?_
  refine tz_icmp_ne (n := 13) (tgt := 18) (g_at ck_X10_daysByTurn 6 rfl) rfl rfl ⟨by omega, by omega, by omega, by omega⟩ (fun h10 => ?_) (fun h10 => ?_)
  · skip
    refine tz_aload0 (n := 19) (g_at ck_X10_daysByTurn 11 rfl) rfl (g_ne kd_1) ?_
    refine tz_cvR0 (n := 22) (μ' := μX10_setOut) (cb' := 0) (sb' := 0) ml_X10_251 mo_X10_setOut mv_X10_setOut np_X10_setOut kd_1 (g_at ck_X10_daysByTurn 12 rfl) (sp_setOut hL hLn hS hR hW hG hN) rfl rfl rfl ⟨by decide, by decide⟩ (Nat.le_of_ble_eq_true rfl) (by decide) (by decide) (fun x19 ρ9 m19 hq => ?_)
    obtain ⟨rfl, rfl, hR1, hT19, hF19⟩ := hq
    have hQ19 := qM_trL (hF19.sub (trL_be (ld := ld)))
    have hG19 := hG.fr (hF19.sub trL_be)
    have hL := LY_wr (r := 62) (k := 0) (x := ld) hL (by decide)
    have hLt : wr ρ 62 0 ld 62 0 = ld := wr_same
    have hLn : wr ρ 62 0 ld 1 3 = ld := (by rw [wr_ne (by decide)]; exact hLn)
    have hS : isS (wr ρ 62 0 ld) ld := isS_of hL hld
    refine tz_getOv (n := 25) (a := 63) fk_X10_258 kd_62 (ly_62_1 hL) (g_at ck_X10_daysByTurn 13 rfl) rfl ?_
    refine tz_getAv (n := 28) (a := 66) fk_X10_197 (isM_63 hL).k0 (isM_63 hL).r0_3 (g_at ck_X10_daysByTurn 14 rfl) rfl ?_
    refine tz_iload2 (n := 29) (g_at ck_X10_daysByTurn 15 rfl) rfl ?_
    refine tz_iload3 (n := 30) (g_at ck_X10_daysByTurn 16 rfl) rfl ?_
    refine tz_iastr (n := 31) (isM_63 hL).k3 (by omega) (g_at ck_X10_daysByTurn 17 rfl) rfl hR1 (by omega) (fun hR2 => ?_)
    refine tz_aload0 (n := 32) (g_at ck_X10_daysByTurn 18 rfl) rfl (g_ne kd_1) ?_
    refine tz_getOv (n := 35) (a := 62) fk_X10_74 kd_1 (ly_1_14 hL) (g_at ck_X10_daysByTurn 19 rfl) rfl ?_
    refine tz_iload1 (n := 36) (g_at ck_X10_daysByTurn 20 rfl) rfl ?_
    refine tz_iload4 (n := 38) (g_at ck_X10_daysByTurn 21 rfl) rfl ?_
    refine tz_cvI2 (n := 41) (μ' := μX8_daysToHome) (cb' := 0) (sb' := 0) ml_X10_324 mo_X8_daysToHome mv_X8_daysToHome np_X8_daysToHome kd_62 (g_at ck_X10_daysByTurn 22 rfl) (sp_toHome hL hLt hS hR2 hW (hG19.fr (Fr.rf.wr (trL_66 66 List.mem_cons_self))) (hT19.setA (by omega)) (WS_arm hW hσ hc hr) (by decide) (by omega) (by omega)) rfl rfl rfl ⟨by decide, by decide⟩ (Nat.le_of_ble_eq_true rfl) (by decide) (by decide) (fun x38 ρ9 m38 hq => ?_)
    obtain ⟨rfl, hR3, hX38, hF38⟩ := hq
    exact tz_iret (g_at ck_X10_daysByTurn 23 rfl) rfl (rI_mk ⟨(wr_self (by assumption)).symm, hR3, ((hF19.sub trL_be).wr (trL_66 66 List.mem_cons_self)).tr hF38, fun h9 => absurd h9 h10, fun _ => hX38⟩)
  · skip
    refine tz_iload4 (n := 15) (g_at ck_X10_daysByTurn 7 rfl) rfl ?_
    refine tz_iconst (n := 16) (g_at ck_X10_daysByTurn 8 rfl) rfl ?_
    refine tz_iadd (n := 17) (g_at ck_X10_daysByTurn 9 rfl) rfl ?_
    exact tz_iret (g_at ck_X10_daysByTurn 10 rfl) rfl (rI_mk ⟨rfl, hR, Fr.rf, fun _ => rfl, fun h9 => absurd h10 h9⟩)
