/-! Calls that look ahead: they change only what is theirs. -/
def qR (ρ ρ9 : Mm) : Prop := ∀ a k : Int, ¬ (a = 62 ∧ k = 0) → ¬ (a = 71 ∧ k = 0) → ρ9 a k = ρ a k
def qM (ld : Int) (m m9 : Mm) : Prop := ∀ a : Int, (a < 62 ∨ 83 < a) → a ≠ ld + 8 → a ≠ ld + 11 → m9 a = m a
theorem qR.rf {ρ : Mm} : qR ρ ρ := fun _ _ _ _ => rfl
theorem qR_62 {ρ : Mm} {x : Int} : qR ρ (wr ρ 62 0 x) := fun a k h _ => if_neg h
theorem qR_71 {ρ : Mm} {x : Int} : qR ρ (wr ρ 71 0 x) := fun a k _ h => if_neg h
theorem qR.tr {a b c : Mm} (h : qR a b) (k : qR b c) : qR a c := fun x y h1 h2 => (k x y h1 h2).trans (h x y h1 h2)
theorem qM.rf {ld : Int} {m : Mm} : qM ld m m := fun _ _ _ _ => rfl
theorem qM.tr {ld : Int} {a b c : Mm} (h : qM ld a b) (k : qM ld b c) : qM ld a c := fun x h1 h2 h3 => (k x h1 h2 h3).trans (h x h1 h2 h3)
theorem qM_trL {ld : Int} {m m9 : Mm} (h : Fr (trL ld) m m9) : qM ld m m9 := fun a h1 h2 h3 => h a fun h9 => by
  unfold trL at h9
  simp only [List.mem_cons, List.not_mem_nil, or_false] at h9
  omega
theorem trL_be {ld : Int} : ∀ x ∈ ([63, 64, 65, 66, 67, 68, 69] : List Int), x ∈ trL ld := fun x hx => by
  unfold trL
  simp only [List.mem_cons, List.not_mem_nil, or_false] at hx ⊢
  omega
def isFN (P : Nat → Prop) (n : Nat) (x : Int) : Prop := (x = -1 ∧ ∀ j : Nat, j < n → ¬ P j) ∨ ∃ i : Nat, x = (i : Int) ∧ i < n ∧ P i ∧ ∀ j : Nat, j < i → ¬ P j
theorem isFN_eq {P : Nat → Prop} {n : Nat} {x y : Int} (h : isFN P n x) (k : isFN P n y) : x = y := by
  rcases h with ⟨h1, h2⟩ | ⟨i, h1, h2, h3, h4⟩
  · rcases k with ⟨k1, k2⟩ | ⟨j, k1, k2, k3, k4⟩
    · omega
    · exact absurd k3 (h2 j k2)
  · rcases k with ⟨k1, k2⟩ | ⟨j, k1, k2, k3, k4⟩
    · exact absurd h3 (k2 i h2)
    · by_cases c : i < j
      · exact absurd h3 (k4 i c)
      · by_cases d : j < i
        · exact absurd k3 (h4 j d)
        · omega
theorem cdR_C {E : String} {Λ : Mm} {c r : Int} (h : exN E (cdC Λ c)) : exN E (cdR Λ c r) := by
  have e : cdC Λ c = cdR Λ c r := by
    unfold cdC at h ⊢
    unfold cdR
    by_cases k : 0 ≤ c ∧ c < Λ 0 0
    · rw [if_pos k] at h
      rcases h with h | h
      · exact absurd h.2 (by decide)
      · exact absurd h.2 (by decide)
    · rw [if_neg k, if_neg (fun h9 => k ⟨h9.1, h9.2.1⟩)]
  rw [← e]
  exact h
theorem WS.day {Λ σ : Mm} {b : Int} (h : WS Λ b σ) : 0 ≤ σ 0 0 := h.1.1
theorem sp_needR {l : Launch} {γ : Gh} {ρ m : Mm} {c r : Int} (hc : -2147483648 ≤ c ∧ c < 2147483648) (hr : -2147483648 ≤ r ∧ r < 2147483648) {ld : Int} {Λ : Mm} {hl tl : List Int} (hL : LY ρ) (hLn : ρ 1 3 = ld) (hS : isS ρ ld) (hR : MR m) (hW : WL Λ) (hG : LandC m ld Λ hl tl) : gE l γ μX10_needRoad 7 2 12 (rV KK fun ρ9 m9 => ρ = ρ9 ∧ MR m9 ∧ m = m9 ∧ cdR Λ c r = 0) (xC ρ m (cdR Λ c r)) KK ρ m [vR 1, vI c, vI r] := by
  refine gE.ofw cl_X10.2 ?_ rfl rfl (Nat.le_of_ble_eq_true rfl)
  show gT l γ μX10_needRoad 7 2 12 _ _ KK ρ m 0 [some (vR 1), some (vI c), some (vI r)] []
  have hn := hW.1
  refine tz_aload0 (n := 1) (g_at ck_X10_needRoad 0 rfl) rfl (g_ne kd_1) ?_
  refine tz_iload1 (n := 2) (g_at ck_X10_needRoad 1 rfl) rfl ?_
  refine tz_cvxV1 (n := 5) (μ' := μX10_needCrossing) (cb' := 1) (sb' := 6) ml_X10_185 mo_X10_needCrossing mv_X10_needCrossing np_X10_needCrossing kd_1 (g_at ck_X10_needRoad 2 rfl) (sp_needC ⟨hc.1, hc.2⟩ hL hLn hS hR hW hG) rfl rfl rfl ⟨by decide, by decide⟩ (Nat.le_of_ble_eq_true rfl) (by decide) (by decide) (g_in (g_m5 (List.mem_of_getElem? (i := 41) rfl)) rfl) (fun E9 ρ9 m9 h9 => g_gX_out rfl h9.1 h9.2.1 (cdR_C h9.2.2)) (fun ρ9 m2 hq => ?_)
  obtain ⟨rfl, hR1, rfl, hz2⟩ := hq
  have hc2 := cdC_0 hz2
  have hc3 := hW.2.2.1 c hc2.1 hc2.2
  refine tz_iload2 (n := 6) (g_at ck_X10_needRoad 3 rfl) rfl ?_
  refine tz_if_lt (n := 9) (tgt := 22) (g_at ck_X10_needRoad 4 rfl) rfl rfl ⟨hr.1, hr.2⟩ (fun h6 => ?_) (fun h6 => ?_)
  · skip
    exact tz_throw tw_N (i9 := 17) st_17 (g_at ck_X10_needRoad 12 rfl) (g_at ck_X10_needRoad 13 rfl) (Or.inr ⟨(g_at ck_X10_needRoad 14 rfl), rfl⟩) (g_at ck_X10_needRoad 15 rfl) (g_at ck_X10_needRoad 16 rfl) rfl ⟨by decide, by decide, by decide⟩ (Nat.le_of_ble_eq_true rfl) ⟨rfl, rfl, rfl, exN_1 (by unfold cdR; rw [if_neg (by omega)])⟩
  · skip
    refine tz_iload2 (n := 10) (g_at ck_X10_needRoad 5 rfl) rfl ?_
    refine tz_aload0 (n := 11) (g_at ck_X10_needRoad 6 rfl) rfl (g_ne kd_1) ?_
    refine tz_getOv (n := 14) (a := ld) fk_X10_20 kd_1 hLn (g_at ck_X10_needRoad 7 rfl) rfl ?_
    refine tz_getAv (n := 17) (a := (ld + 3)) fk_X10_194 hS.k0 hS.r0_4 (g_at ck_X10_needRoad 8 rfl) rfl ?_
    refine tz_iload1 (n := 18) (g_at ck_X10_needRoad 9 rfl) rfl ?_
    refine tz_iald (n := 19) hS.k3 (by omega) (g_at ck_X10_needRoad 10 rfl) rfl ?_
    rw [hG.roads c (by omega)]
    refine tz_icmp_lt (n := 22) (tgt := 33) (g_at ck_X10_needRoad 11 rfl) rfl rfl ⟨hr.1, hr.2, by omega, by omega⟩ (fun h19 => ?_) (fun h19 => ?_)
    · skip
      exact tz_vret (g_at ck_X10_needRoad 17 rfl) rfl (rV_mk ⟨rfl, hR1, rfl, by unfold cdR; rw [if_pos (by omega)]⟩)
    · skip
      exact tz_throw tw_N (i9 := 17) st_17 (g_at ck_X10_needRoad 12 rfl) (g_at ck_X10_needRoad 13 rfl) (Or.inr ⟨(g_at ck_X10_needRoad 14 rfl), rfl⟩) (g_at ck_X10_needRoad 15 rfl) (g_at ck_X10_needRoad 16 rfl) rfl ⟨by decide, by decide, by decide⟩ (Nat.le_of_ble_eq_true rfl) ⟨rfl, rfl, rfl, exN_1 (by unfold cdR; rw [if_neg (by omega)])⟩
theorem sp_setOut {l : Launch} {γ : Gh} {ρ m : Mm} {ld : Int} {Λ : Mm} {hl tl : List Int} (hL : LY ρ) (hLn : ρ 1 3 = ld) (hS : isS ρ ld) (hR : MR m) (hW : WL Λ) (hG : LandC m ld Λ hl tl) {s : Int → Int} (hN : MomC m 39 s) : gE l γ μX10_setOut 4 0 0 (rR KK fun x ρ9 m9 => 62 = x ∧ wr ρ 62 0 ld = ρ9 ∧ MR m9 ∧ TripC m9 (sig0 s) ∧ Fr [63, 64, 65, 66, 67, 68, 69] m m9) xN KK ρ m [vR 1] := by
  refine gE.ofw cl_X10.2 ?_ rfl rfl (Nat.le_of_ble_eq_true rfl)
  show gT l γ μX10_setOut 4 0 0 _ _ KK ρ m 0 [some (vR 1)] []
  refine tz_aload0 (n := 1) (g_at ck_X10_setOut 0 rfl) rfl (g_ne kd_1) ?_
  refine tz_getOv (n := 4) (a := 62) fk_X10_74 kd_1 (ly_1_14 hL) (g_at ck_X10_setOut 1 rfl) rfl ?_
  refine tz_aload0 (n := 5) (g_at ck_X10_setOut 2 rfl) rfl (g_ne kd_1) ?_
  refine tz_getOv (n := 8) (a := ld) fk_X10_20 kd_1 hLn (g_at ck_X10_setOut 3 rfl) rfl ?_
  refine tz_aload0 (n := 9) (g_at ck_X10_setOut 4 rfl) rfl (g_ne kd_1) ?_
  refine tz_getOv (n := 12) (a := 39) fk_X10_39 kd_1 (ly_1_6 hL) (g_at ck_X10_setOut 5 rfl) rfl ?_
  refine tz_cvV2 (n := 15) (μ' := μX8_begin) (cb' := 0) (sb' := 0) ml_X10_423 mo_X8_begin mv_X8_begin np_X8_begin kd_62 (g_at ck_X10_setOut 6 rfl) (sp_begin hL hS hR hN) rfl rfl rfl ⟨by decide, by decide⟩ (Nat.le_of_ble_eq_true rfl) (by decide) (by decide) (fun ρ9 m12 hq => ?_)
  obtain ⟨rfl, hR1, hT12, hF12⟩ := hq
  have hL := LY_wr (r := 62) (k := 0) (x := ld) hL (by decide)
  refine tz_aload0 (n := 16) (g_at ck_X10_setOut 7 rfl) rfl (g_ne kd_1) ?_
  refine tz_getOv (n := 19) (a := 62) fk_X10_74 kd_1 (ly_1_14 hL) (g_at ck_X10_setOut 8 rfl) rfl ?_
  exact tz_aret (g_at ck_X10_setOut 9 rfl) rfl (rR_mk ⟨rfl, rfl, hR1, hT12, hF12⟩)
theorem sp_then {l : Launch} {γ : Gh} {ρ m : Mm} {p n w : Int} (hp : -2147483648 ≤ p ∧ p < 2147483648) (hn : -2147483648 ≤ n ∧ n < 2147483648) (hw : -2147483648 ≤ w ∧ w < 2147483648) {ld : Int} {Λ : Mm} {hl tl : List Int} (hL : LY ρ) (hLn : ρ 1 3 = ld) (hS : isS ρ ld) (hR : MR m) (hW : WL Λ) (hG : LandC m ld Λ hl tl) {s : Int → Int} (hN : MomC m 39 s) (hσ : WS Λ 0 (sig0 s)) : gE l γ μX10_then 7 3 18 (rI KK fun x ρ9 m9 => qR ρ ρ9 ∧ MR m9 ∧ qM ld m m9 ∧ sq (cdP Λ p) (sq (cdW w 2) (cdD n 0 100)) = 0 ∧ (if w = 0 then (daysP Λ hl tl (sig0 s) n.toNat) 0 (1 + p) else if w = 1 then (daysP Λ hl tl (sig0 s) n.toNat) 0 (9 + p) else (daysP Λ hl tl (sig0 s) n.toNat) 1 p) = x) (xC ρ m (sq (cdP Λ p) (sq (cdW w 2) (cdD n 0 100)))) KK ρ m [vR 1, vI p, vI n, vI w] := by
  refine gE.ofw cl_X10.2 ?_ rfl rfl (Nat.le_of_ble_eq_true rfl)
  show gT l γ μX10_then 7 3 18 _ _ KK ρ m 0 [some (vR 1), some (vI p), some (vI n), some (vI w)] []
  have hn1 := hW.1
  have hn8 := hW.2.1
  have hld := hG.ld9
  refine tz_aload0 (n := 1) (g_at ck_X10_then 0 rfl) rfl (g_ne kd_1) ?_
  refine tz_iload1 (n := 2) (g_at ck_X10_then 1 rfl) rfl ?_
  refine tz_cvxV1 (n := 5) (μ' := μX10_needPerson) (cb' := 2) (sb' := 12) ml_X10_221 mo_X10_needPerson mv_X10_needPerson np_X10_needPerson kd_1 (g_at ck_X10_then 2 rfl) (sp_needP ⟨hp.1, hp.2⟩ hL hLn hS hR hW hG) rfl rfl rfl ⟨by decide, by decide⟩ (Nat.le_of_ble_eq_true rfl) (by decide) (by decide) (g_in (g_m5 (List.mem_of_getElem? (i := 68) rfl)) rfl) (fun E9 ρ9 m9 h9 => g_gX_out rfl h9.1 h9.2.1 (sq_1 h9.2.2)) (fun ρ9 m2 hq => ?_)
  obtain ⟨rfl, hR1, rfl, hz2⟩ := hq
  have hp2 := cdP_0 hz2
  refine tz_iload3 (n := 6) (g_at ck_X10_then 3 rfl) rfl ?_
  refine tz_iconst (n := 7) (g_at ck_X10_then 4 rfl) rfl ?_
  refine tz_csxV2 (n := 10) (μ' := μX10_needWhat) (cb' := 1) (sb' := 6) ml_X10_135 mo_X10_needWhat ms_X10_needWhat np_X10_needWhat (g_at ck_X10_then 5 rfl) (sp_needW ⟨hw.1, hw.2⟩ ⟨(by decide), (by decide)⟩ hR1) rfl rfl ⟨by decide, by decide⟩ (Nat.le_of_ble_eq_true rfl) (by decide) (by decide) (g_in (g_m4 (List.mem_of_getElem? (i := 228) rfl)) rfl) (fun E9 ρ9 m9 h9 => g_gX_out rfl h9.1 h9.2.1 (sq_2 hz2 (sq_1 h9.2.2))) (fun ρ9 m7 hq => ?_)
  obtain ⟨rfl, hR2, rfl, hz7⟩ := hq
  have hw2 := cdW_0 hz7
  refine tz_iload2 (n := 11) (g_at ck_X10_then 6 rfl) rfl ?_
  refine tz_iconst (n := 12) (g_at ck_X10_then 7 rfl) rfl ?_
  refine tz_bipush (n := 14) (g_at ck_X10_then 8 rfl) rfl rfl ?_
  refine tz_csxV3 (n := 17) (μ' := μX10_needDays) (cb' := 0) (sb' := 0) ml_X10_270 mo_X10_needDays ms_X10_needDays np_X10_needDays (g_at ck_X10_then 9 rfl) (sp_needD ⟨hn.1, hn.2⟩ ⟨(by decide), (by decide)⟩ ⟨(by decide), (by decide)⟩ hR2) rfl rfl ⟨by decide, by decide⟩ (Nat.le_of_ble_eq_true rfl) (by decide) (by decide) (g_in (g_m5 (List.mem_of_getElem? (i := 145) rfl)) rfl) (fun E9 ρ9 m9 h9 => g_gX_out rfl h9.1 h9.2.1 (sq_2 hz2 (sq_2 hz7 h9.2.2))) (fun ρ9 m14 hq => ?_)
  obtain ⟨rfl, hR3, rfl, hz14⟩ := hq
  have hn2 := cdD_0 hz14
  refine tz_aload0 (n := 18) (g_at ck_X10_then 10 rfl) rfl (g_ne kd_1) ?_
  refine tz_cvR0 (n := 21) (μ' := μX10_setOut) (cb' := 0) (sb' := 0) ml_X10_251 mo_X10_setOut mv_X10_setOut np_X10_setOut kd_1 (g_at ck_X10_then 11 rfl) (sp_setOut hL hLn hS hR3 hW hG hN) rfl rfl rfl ⟨by decide, by decide⟩ (Nat.le_of_ble_eq_true rfl) (by decide) (by decide) (fun x18 ρ9 m18 hq => ?_)
  obtain ⟨rfl, rfl, hR4, hT18, hF18⟩ := hq
  have hQ18 := qM_trL (hF18.sub (trL_be (ld := ld)))
  have hG18 := hG.fr (hF18.sub trL_be)
  have hL := LY_wr (r := 62) (k := 0) (x := ld) hL (by decide)
  have hLt : wr ρ 62 0 ld 62 0 = ld := wr_same
  have hLn : wr ρ 62 0 ld 1 3 = ld := (by rw [wr_ne (by decide)]; exact hLn)
  have hS : isS (wr ρ 62 0 ld) ld := isS_of hL hld
  refine tz_iload2 (n := 22) (g_at ck_X10_then 12 rfl) rfl ?_
  refine tz_cvV1 (n := 25) (μ' := μX8_go) (cb' := 0) (sb' := 0) ml_X10_255 mo_X8_go mv_X8_go np_X8_go kd_62 (g_at ck_X10_then 13 rfl) (sp_go hL hLt hS hR4 hW hG18 hT18 hσ (by decide) (by omega)) rfl rfl rfl ⟨by decide, by decide⟩ (Nat.le_of_ble_eq_true rfl) (by decide) (by decide) (fun ρ9 m22 hq => ?_)
  obtain ⟨rfl, hR5, hT22, hF22⟩ := hq
  have hQ22 := hQ18.tr (qM_trL hF22)
  refine tz_iload3 (n := 26) (g_at ck_X10_then 14 rfl) rfl ?_
  refine tz_if_ne (n := 29) (tgt := 42) (g_at ck_X10_then 15 rfl) rfl rfl ⟨hw.1, hw.2⟩ (fun h26 => ?_) (fun h26 => ?_)
  · skip
    refine tz_iload3 (n := 43) (g_at ck_X10_then 23 rfl) rfl ?_
    refine tz_iconst (n := 44) (g_at ck_X10_then 24 rfl) rfl ?_
    refine tz_icmp_ne (n := 47) (tgt := 62) (g_at ck_X10_then 25 rfl) rfl rfl ⟨hw.1, hw.2, (by decide), (by decide)⟩ (fun h44 => ?_) (fun h44 => ?_)
    · skip
      refine tz_aload0 (n := 63) (g_at ck_X10_then 33 rfl) rfl (g_ne kd_1) ?_
      refine tz_getOv (n := 66) (a := 62) fk_X10_74 kd_1 (ly_1_14 hL) (g_at ck_X10_then 34 rfl) rfl ?_
      refine tz_getAv (n := 69) (a := 68) fk_X10_274 kd_62 (ly_62_2 hL) (g_at ck_X10_then 35 rfl) rfl ?_
      refine tz_iload1 (n := 70) (g_at ck_X10_then 36 rfl) rfl ?_
      refine tz_iald (n := 71) kd_68 (by omega) (g_at ck_X10_then 37 rfl) rfl ?_
      rw [hT22.stp p (by omega)]
      exact tz_iret (g_at ck_X10_then 38 rfl) rfl (rI_mk ⟨qR_62, hR5, hQ22, sq_0 hz2 (sq_0 hz7 hz14), by simp (disch := omega) only [if_pos, if_neg]⟩)
    · skip
      refine tz_aload0 (n := 48) (g_at ck_X10_then 26 rfl) rfl (g_ne kd_1) ?_
      refine tz_getOv (n := 51) (a := 62) fk_X10_74 kd_1 (ly_1_14 hL) (g_at ck_X10_then 27 rfl) rfl ?_
      refine tz_getOv (n := 54) (a := 63) fk_X10_258 kd_62 (ly_62_1 hL) (g_at ck_X10_then 28 rfl) rfl ?_
      refine tz_getAv (n := 57) (a := 65) fk_X10_230 (isM_63 hL).k0 (isM_63 hL).r0_2 (g_at ck_X10_then 29 rfl) rfl ?_
      refine tz_iload1 (n := 58) (g_at ck_X10_then 30 rfl) rfl ?_
      refine tz_iald (n := 59) (isM_63 hL).k2 (by omega) (g_at ck_X10_then 31 rfl) rfl ?_
      rw [hT22.pur p (by omega)]
      refine tz_goto (tgt := 71) (g_at ck_X10_then 32 rfl) rfl ?_
      exact tz_iret (g_at ck_X10_then 38 rfl) rfl (rI_mk ⟨qR_62, hR5, hQ22, sq_0 hz2 (sq_0 hz7 hz14), by simp (disch := omega) only [if_pos, if_neg]⟩)
  · skip
    refine tz_aload0 (n := 30) (g_at ck_X10_then 16 rfl) rfl (g_ne kd_1) ?_
    refine tz_getOv (n := 33) (a := 62) fk_X10_74 kd_1 (ly_1_14 hL) (g_at ck_X10_then 17 rfl) rfl ?_
    refine tz_getOv (n := 36) (a := 63) fk_X10_258 kd_62 (ly_62_1 hL) (g_at ck_X10_then 18 rfl) rfl ?_
    refine tz_getAv (n := 39) (a := 64) fk_X10_224 (isM_63 hL).k0 (isM_63 hL).r0_1 (g_at ck_X10_then 19 rfl) rfl ?_
    refine tz_iload1 (n := 40) (g_at ck_X10_then 20 rfl) rfl ?_
    refine tz_iald (n := 41) (isM_63 hL).k1 (by omega) (g_at ck_X10_then 21 rfl) rfl ?_
    rw [hT22.whr p (by omega)]
    exact tz_iret (g_at ck_X10_then 22 rfl) rfl (rI_mk ⟨qR_62, hR5, hQ22, sq_0 hz2 (sq_0 hz7 hz14), by simp (disch := omega) only [if_pos, if_neg]⟩)
theorem sp_points {l : Launch} {γ : Gh} {ρ m : Mm} {c n : Int} (hc : -2147483648 ≤ c ∧ c < 2147483648) (hn : -2147483648 ≤ n ∧ n < 2147483648) {ld : Int} {Λ : Mm} {hl tl : List Int} (hL : LY ρ) (hLn : ρ 1 3 = ld) (hS : isS ρ ld) (hR : MR m) (hW : WL Λ) (hG : LandC m ld Λ hl tl) {s : Int → Int} (hN : MomC m 39 s) (hσ : WS Λ 0 (sig0 s)) : gE l γ μX10_points 7 2 12 (rI KK fun x ρ9 m9 => qR ρ ρ9 ∧ MR m9 ∧ qM ld m m9 ∧ sq (cdC Λ c) (cdD n 0 100) = 0 ∧ (daysP Λ hl tl (sig0 s) n.toNat) 0 (17 + c) = x) (xC ρ m (sq (cdC Λ c) (cdD n 0 100))) KK ρ m [vR 1, vI c, vI n] := by
  refine gE.ofw cl_X10.2 ?_ rfl rfl (Nat.le_of_ble_eq_true rfl)
  show gT l γ μX10_points 7 2 12 _ _ KK ρ m 0 [some (vR 1), some (vI c), some (vI n)] []
  have hn1 := hW.1
  have hn8 := hW.2.1
  have hld := hG.ld9
  refine tz_aload0 (n := 1) (g_at ck_X10_points 0 rfl) rfl (g_ne kd_1) ?_
  refine tz_iload1 (n := 2) (g_at ck_X10_points 1 rfl) rfl ?_
  refine tz_cvxV1 (n := 5) (μ' := μX10_needCrossing) (cb' := 1) (sb' := 6) ml_X10_185 mo_X10_needCrossing mv_X10_needCrossing np_X10_needCrossing kd_1 (g_at ck_X10_points 2 rfl) (sp_needC ⟨hc.1, hc.2⟩ hL hLn hS hR hW hG) rfl rfl rfl ⟨by decide, by decide⟩ (Nat.le_of_ble_eq_true rfl) (by decide) (by decide) (g_in (g_m5 (List.mem_of_getElem? (i := 41) rfl)) rfl) (fun E9 ρ9 m9 h9 => g_gX_out rfl h9.1 h9.2.1 (sq_1 h9.2.2)) (fun ρ9 m2 hq => ?_)
  obtain ⟨rfl, hR1, rfl, hz2⟩ := hq
  have hc2 := cdC_0 hz2
  refine tz_iload2 (n := 6) (g_at ck_X10_points 3 rfl) rfl ?_
  refine tz_iconst (n := 7) (g_at ck_X10_points 4 rfl) rfl ?_
  refine tz_bipush (n := 9) (g_at ck_X10_points 5 rfl) rfl rfl ?_
  refine tz_csxV3 (n := 12) (μ' := μX10_needDays) (cb' := 0) (sb' := 0) ml_X10_270 mo_X10_needDays ms_X10_needDays np_X10_needDays (g_at ck_X10_points 6 rfl) (sp_needD ⟨hn.1, hn.2⟩ ⟨(by decide), (by decide)⟩ ⟨(by decide), (by decide)⟩ hR1) rfl rfl ⟨by decide, by decide⟩ (Nat.le_of_ble_eq_true rfl) (by decide) (by decide) (g_in (g_m5 (List.mem_of_getElem? (i := 145) rfl)) rfl) (fun E9 ρ9 m9 h9 => g_gX_out rfl h9.1 h9.2.1 (sq_2 hz2 h9.2.2)) (fun ρ9 m9 hq => ?_)
  obtain ⟨rfl, hR2, rfl, hz9⟩ := hq
  have hn2 := cdD_0 hz9
  refine tz_aload0 (n := 13) (g_at ck_X10_points 7 rfl) rfl (g_ne kd_1) ?_
  refine tz_cvR0 (n := 16) (μ' := μX10_setOut) (cb' := 0) (sb' := 0) ml_X10_251 mo_X10_setOut mv_X10_setOut np_X10_setOut kd_1 (g_at ck_X10_points 8 rfl) (sp_setOut hL hLn hS hR2 hW hG hN) rfl rfl rfl ⟨by decide, by decide⟩ (Nat.le_of_ble_eq_true rfl) (by decide) (by decide) (fun x13 ρ9 m13 hq => ?_)
  obtain ⟨rfl, rfl, hR3, hT13, hF13⟩ := hq
  have hQ13 := qM_trL (hF13.sub (trL_be (ld := ld)))
  have hG13 := hG.fr (hF13.sub trL_be)
  have hL := LY_wr (r := 62) (k := 0) (x := ld) hL (by decide)
  have hLt : wr ρ 62 0 ld 62 0 = ld := wr_same
  have hLn : wr ρ 62 0 ld 1 3 = ld := (by rw [wr_ne (by decide)]; exact hLn)
  have hS : isS (wr ρ 62 0 ld) ld := isS_of hL hld
  refine tz_iload2 (n := 17) (g_at ck_X10_points 9 rfl) rfl ?_
  refine tz_cvV1 (n := 20) (μ' := μX8_go) (cb' := 0) (sb' := 0) ml_X10_255 mo_X8_go mv_X8_go np_X8_go kd_62 (g_at ck_X10_points 10 rfl) (sp_go hL hLt hS hR3 hW hG13 hT13 hσ (by decide) (by omega)) rfl rfl rfl ⟨by decide, by decide⟩ (Nat.le_of_ble_eq_true rfl) (by decide) (by decide) (fun ρ9 m17 hq => ?_)
  obtain ⟨rfl, hR4, hT17, hF17⟩ := hq
  have hQ17 := hQ13.tr (qM_trL hF17)
  refine tz_aload0 (n := 21) (g_at ck_X10_points 11 rfl) rfl (g_ne kd_1) ?_
  refine tz_getOv (n := 24) (a := 62) fk_X10_74 kd_1 (ly_1_14 hL) (g_at ck_X10_points 12 rfl) rfl ?_
  refine tz_getOv (n := 27) (a := 63) fk_X10_258 kd_62 (ly_62_1 hL) (g_at ck_X10_points 13 rfl) rfl ?_
  refine tz_getAv (n := 30) (a := 66) fk_X10_197 (isM_63 hL).k0 (isM_63 hL).r0_3 (g_at ck_X10_points 14 rfl) rfl ?_
  refine tz_iload1 (n := 31) (g_at ck_X10_points 15 rfl) rfl ?_
  refine tz_iald (n := 32) (isM_63 hL).k3 (by omega) (g_at ck_X10_points 16 rfl) rfl ?_
  rw [hT17.arm c (by omega)]
  exact tz_iret (g_at ck_X10_points 17 rfl) rfl (rI_mk ⟨qR_62, hR4, hQ17, sq_0 hz2 hz9, rfl⟩)
