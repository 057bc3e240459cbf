/-! The reference: the game. -/
def gnT (Λ : Mm) (s : Int → Int) (p o x y : Int) : Mm := gm0 Λ s o y (gm0 Λ s p x (sig0 s))
def gnV (Λ : Mm) (hl tl : List Int) (s : Int → Int) (p o x y : Int) : Int := gmG Λ hl tl (gnT Λ s p o x y) p (0 - x) 8 - daysP Λ hl tl (gnT Λ s p o x y) 8 1 p
theorem trnP_comm {Λ σ : Mm} {c d k : Int} : trnP Λ c k (trnP Λ d k σ) = trnP Λ d k (trnP Λ c k σ) := by
  by_cases e : c = d
  · rw [e]
  · unfold trnP
    by_cases h1 : Λ 3 c ≤ 0
    · rw [if_pos h1, if_pos h1]
    · by_cases h2 : Λ 3 d ≤ 0
      · rw [if_neg h1, if_pos h2, if_pos h2, if_neg h1]
      · rw [if_neg h1, if_neg h2, if_neg h2, if_neg h1]
        funext a j
        simp only [wr, true_and, and_true]
        rw [if_neg (show ¬ 17 + c = 17 + d by omega), if_neg (show ¬ 17 + d = 17 + c by omega)]
        by_cases e1 : a = 0 ∧ j = 17 + c
        · rw [if_pos e1, if_neg (by omega), if_pos e1]
        · rw [if_neg e1, if_neg e1]
theorem gm0_comm {Λ σ : Mm} {s : Int → Int} {p o x y : Int} : gm0 Λ s o y (gm0 Λ s p x σ) = gm0 Λ s p x (gm0 Λ s o y σ) := by
  unfold gm0
  by_cases h1 : x = 1 <;> by_cases h2 : y = 1 <;> simp only [h1, h2, if_true, if_false]
  exact trnP_comm
theorem gnT_comm {Λ : Mm} {s : Int → Int} {p o x y : Int} : gnT Λ s p o x y = gnT Λ s o p y x := gm0_comm
theorem gm_cases {k : Int} (h : 0 ≤ k ∧ k < 4) : (k = 0 ∨ k = 1 ∨ k = 2 ∨ k = 3) := by omega
theorem gmA_V {Λ : Mm} {hl tl : List Int} {s : Int → Int} {p o k : Int} (h : 0 ≤ k ∧ k < 4) : gmA Λ hl tl s p o k = gnV Λ hl tl s p o (k / 2) (k % 2) ∧ gmB Λ hl tl s p o k = gnV Λ hl tl s o p (k % 2) (k / 2) := by
  have e : bShr k 1 = k / 2 ∧ bAnd k 1 = k % 2 := by
    rcases gm_cases h with rfl | rfl | rfl | rfl <;> decide
  unfold gmA gmB gmT gnV
  rw [e.1, e.2, ← gnT_comm (p := p) (o := o) (x := k / 2) (y := k % 2), Int.zero_sub, Int.zero_sub]
  exact ⟨rfl, rfl⟩
theorem rs_iff {Λ : Mm} {hl tl : List Int} {s : Int → Int} {p o k : Int} (h : 0 ≤ k ∧ k < 4) : rsB (gmA Λ hl tl s p o) (gmB Λ hl tl s p o) k ≠ 0 ↔ (gnV Λ hl tl s p o (1 - k / 2) (k % 2) ≤ gnV Λ hl tl s p o (k / 2) (k % 2) ∧ gnV Λ hl tl s o p (1 - k % 2) (k / 2) ≤ gnV Λ hl tl s o p (k % 2) (k / 2)) := by
  have e2 : gmA Λ hl tl s p o (bXor k 2) = gnV Λ hl tl s p o (1 - k / 2) (k % 2) ∧ gmB Λ hl tl s p o (bXor k 1) = gnV Λ hl tl s o p (1 - k % 2) (k / 2) := by
    have g : 0 ≤ bXor k 2 ∧ bXor k 2 < 4 ∧ bXor k 2 / 2 = 1 - k / 2 ∧ bXor k 2 % 2 = k % 2 ∧ 0 ≤ bXor k 1 ∧ bXor k 1 < 4 ∧ bXor k 1 / 2 = k / 2 ∧ bXor k 1 % 2 = 1 - k % 2 := by
      rcases gm_cases h with rfl | rfl | rfl | rfl <;> decide
    obtain ⟨g1, g2, g3, g4, g5, g6, g7, g8⟩ := g
    rw [(gmA_V ⟨g1, g2⟩).1, (gmA_V ⟨g5, g6⟩).2, g3, g4, g7, g8]
    exact ⟨rfl, rfl⟩
  unfold rsB
  rw [e2.1, e2.2, (gmA_V h).1, (gmA_V h).2]
  constructor
  · exact fun h9 => ite10 h9
  · intro h9
    rw [if_pos h9]
    decide
theorem rs_d {k : Int} (h : 0 ≤ k ∧ k < 4) : 10 * bShr k 1 + bAnd k 1 = 10 * (k / 2) + k % 2 := by
  rcases gm_cases h with rfl | rfl | rfl | rfl <;> decide
theorem rs_inv {A B : Int → Int} : ∀ n : Nat, n ≤ 4 → 0 ≤ (rsN A B n).1 ∧ (rsN A B n).1 ≤ n ∧ ((rsN A B n).1 = 0 ↔ (rsN A B n).2 = -1) ∧ -1 ≤ (rsN A B n).2 ∧ (rsN A B n).2 ≤ 11
  | 0, _ => by show 0 ≤ (0 : Int) ∧ (0 : Int) ≤ ((0 : Nat) : Int) ∧ ((0 : Int) = 0 ↔ (-1 : Int) = -1) ∧ (-1 : Int) ≤ -1 ∧ (-1 : Int) ≤ 11; omega
  | n + 1, h => by
    have ih := rs_inv (A := A) (B := B) n (by omega)
    have e : rsN A B (n + 1) = rsS A B (n : Int) (rsN A B n) := rfl
    rw [e]
    unfold rsS
    rw [rs_d (k := (n : Int)) (by omega)]
    split
    · omega
    · by_cases e9 : (rsN A B n).1 = 0
      · rw [if_pos e9]
        show 0 ≤ (rsN A B n).1 + 1 ∧ (rsN A B n).1 + 1 ≤ ((n + 1 : Nat) : Int) ∧ ((rsN A B n).1 + 1 = 0 ↔ 10 * ((n : Int) / 2) + (n : Int) % 2 = -1) ∧ -1 ≤ 10 * ((n : Int) / 2) + (n : Int) % 2 ∧ 10 * ((n : Int) / 2) + (n : Int) % 2 ≤ 11
        omega
      · rw [if_neg e9]
        show 0 ≤ (rsN A B n).1 + 1 ∧ (rsN A B n).1 + 1 ≤ ((n + 1 : Nat) : Int) ∧ ((rsN A B n).1 + 1 = 0 ↔ (rsN A B n).2 = -1) ∧ -1 ≤ (rsN A B n).2 ∧ (rsN A B n).2 ≤ 11
        omega
theorem gnT_WS {Λ : Mm} {s : Int → Int} {p o x y : Int} (hW : WL Λ) (hσ : WS Λ 0 (sig0 s)) (hp : 0 ≤ p ∧ p < Λ 0 1) (ho : 0 ≤ o ∧ o < Λ 0 1) : WS Λ 0 (gnT Λ s p o x y) := by
  have h1 := sig0_WS_n hσ hp
  have h2 := sig0_WS_n hσ ho
  exact gm0_WS hW ⟨h2.1, h2.2.1⟩ (gm0_WS hW ⟨h1.1, h1.2.1⟩ hσ)
theorem gnV_rg {Λ : Mm} {hl tl : List Int} {s : Int → Int} {p o x y : Int} (hW : WL Λ) (hσ : WS Λ 0 (sig0 s)) (hp : 0 ≤ p ∧ p < Λ 0 1) (ho : 0 ≤ o ∧ o < Λ 0 1) (hx : 0 ≤ x ∧ x ≤ 1) : -1000 ≤ gnV Λ hl tl s p o x y ∧ gnV Λ hl tl s p o x y ≤ 1000 := by
  have h1 := gmG_rg (Λ := Λ) (hl := hl) (tl := tl) (τ := gnT Λ s p o x y) (q := p) (v := 0 - x) 8
  have h2 := (daysP_WS (hl := hl) (tl := tl) hW (gnT_WS (x := x) (y := y) hW hσ hp ho) (Int.le_refl 0) 8).2.1 p hp.1 hp.2
  unfold gnV
  omega
theorem mp_turnsOn {l : Launch} {γ : Gh} {ρ m : Mm} {p B : Int} {s : Int → Int} {Λ e σ : Mm} {hl tl : List Int} (hL : LY ρ) (hR : MR m) (hW : WL Λ) (hM : MLand m Λ hl tl) (hs : MRow m s) (hT : MT m 35 Λ e σ) (hσ : WS Λ B σ) (hp : 0 ≤ p ∧ p < Λ 0 1) (hc : 0 ≤ s (1 + p) ∧ s (1 + p) < Λ 0 0) : gE l γ μX11_turnsOn 0 0 0 (rV KK fun ρ9 m9 => ρ = ρ9 ∧ MR m9 ∧ MT m9 35 Λ e (trnP Λ (s (1 + p)) 1 σ) ∧ FD 35 m m9) xN KK ρ m [vR 84, vI p] := by
  refine gE.ofw cl_X11.2 ?_ rfl rfl (Nat.le_of_ble_eq_true rfl)
  show gT l γ μX11_turnsOn 0 0 0 _ _ KK ρ m 0 [some (vR 84), some (vI p), none] []
  have hn1 := hW.1
  have hn8 := hW.2.1
  have hcw := hW.2.2.1 _ hc.1 hc.2
  have r87 := (hM.2.2.1 _ hc.1 hc.2).2.2
  have hc1 := hσ.2.2.1 _ hc.1 hc.2
  refine tz_aload0 (n := 1) (g_at ck_X11_turnsOn 0 rfl) rfl (g_ne kd_84) ?_
  refine tz_getAv (n := 4) (a := 103) fk_X11_75 kd_84 (ly_84_43 hL) (g_at ck_X11_turnsOn 1 rfl) rfl ?_
  refine tz_iconst (n := 5) (g_at ck_X11_turnsOn 2 rfl) rfl ?_
  refine tz_iload1 (n := 6) (g_at ck_X11_turnsOn 3 rfl) rfl ?_
  refine tz_iadd (n := 7) (g_at ck_X11_turnsOn 4 rfl) rfl ?_
  refine tz_iald (n := 8) kd_103 (by omega) (g_at ck_X11_turnsOn 5 rfl) rfl ?_
  rw [hs (1 + p) (by omega) (by omega)]
  refine tz_istore2 (n := 9) (g_at ck_X11_turnsOn 6 rfl) rfl (by decide) g_hpI ?_
  refine tz_aload0 (n := 10) (g_at ck_X11_turnsOn 7 rfl) rfl (g_ne kd_84) ?_
  refine tz_getAv (n := 13) (a := 87) fk_X11_23 kd_84 (ly_84_7 hL) (g_at ck_X11_turnsOn 8 rfl) rfl ?_
  refine tz_iload2 (n := 14) (g_at ck_X11_turnsOn 9 rfl) rfl ?_
  refine tz_iald (n := 15) kd_87 (by omega) (g_at ck_X11_turnsOn 10 rfl) rfl ?_
  rw [r87]
  refine tz_if_le (n := 18) (tgt := 45) (g_at ck_X11_turnsOn 11 rfl) rfl rfl (by omega) (fun h15 => ?_) (fun h15 => ?_)
  · skip
    exact tz_vret (g_at ck_X11_turnsOn 31 rfl) rfl (rV_mk ⟨rfl, hR, by rw [trnP, if_pos h15]; exact hT, FD.rf⟩)
  · skip
    refine tz_aload0 (n := 19) (g_at ck_X11_turnsOn 12 rfl) rfl (g_ne kd_84) ?_
    refine tz_getAv (n := 22) (a := 103) fk_X11_75 kd_84 (ly_84_43 hL) (g_at ck_X11_turnsOn 13 rfl) rfl ?_
    refine tz_bipush (n := 24) (g_at ck_X11_turnsOn 14 rfl) rfl rfl ?_
    refine tz_iload2 (n := 25) (g_at ck_X11_turnsOn 15 rfl) rfl ?_
    refine tz_iadd (n := 26) (g_at ck_X11_turnsOn 16 rfl) rfl ?_
    rw [show 52 + s (1 + p) = 35 + (17 + s (1 + p)) by omega]
    refine tz_aload0 (n := 27) (g_at ck_X11_turnsOn 17 rfl) rfl (g_ne kd_84) ?_
    refine tz_getAv (n := 30) (a := 103) fk_X11_75 kd_84 (ly_84_43 hL) (g_at ck_X11_turnsOn 18 rfl) rfl ?_
    refine tz_bipush (n := 32) (g_at ck_X11_turnsOn 19 rfl) rfl rfl ?_
    refine tz_iload2 (n := 33) (g_at ck_X11_turnsOn 20 rfl) rfl ?_
    refine tz_iadd (n := 34) (g_at ck_X11_turnsOn 21 rfl) rfl ?_
    refine tz_iald (n := 35) kd_103 (by omega) (g_at ck_X11_turnsOn 22 rfl) rfl ?_
    rw [hT.r (k := 17 + s (1 + p)) (by omega) (by omega)]
    refine tz_iconst (n := 36) (g_at ck_X11_turnsOn 23 rfl) rfl ?_
    refine tz_iadd (n := 37) (g_at ck_X11_turnsOn 24 rfl) rfl ?_
    refine tz_aload0 (n := 38) (g_at ck_X11_turnsOn 25 rfl) rfl (g_ne kd_84) ?_
    refine tz_getAv (n := 41) (a := 87) fk_X11_23 kd_84 (ly_84_7 hL) (g_at ck_X11_turnsOn 26 rfl) rfl ?_
    refine tz_iload2 (n := 42) (g_at ck_X11_turnsOn 27 rfl) rfl ?_
    refine tz_iald (n := 43) kd_87 (by omega) (g_at ck_X11_turnsOn 28 rfl) rfl ?_
    rw [r87]
    refine tz_irem (n := 44) (g_at ck_X11_turnsOn 29 rfl) rfl (by omega) ?_
    rw [bRem_nn (by omega) (by omega)]
    have hm := Int.emod_nonneg (σ 0 (17 + s (1 + p)) + 1) (show Λ 3 (s (1 + p)) ≠ 0 by omega)
    have hm2 := Int.emod_lt_of_pos (σ 0 (17 + s (1 + p)) + 1) (show 0 < Λ 3 (s (1 + p)) by omega)
    refine tz_iastr (n := 45) kd_103 (by omega) (g_at ck_X11_turnsOn 30 rfl) rfl hR (by omega) (fun hR1 => ?_)
    exact tz_vret (g_at ck_X11_turnsOn 31 rfl) rfl (rV_mk ⟨rfl, hR1, by rw [trnP, if_neg h15]; exact MT_row hT (by omega), FD.rf.wr (by decide) fun _ => by omega⟩)
theorem gm0_y {Λ σ : Mm} {s : Int → Int} {p x : Int} (h : x = 1) : gm0 Λ s p x σ = trnP Λ (s (1 + p)) 1 σ := if_pos h
theorem gm0_n {Λ σ : Mm} {s : Int → Int} {p x : Int} (h : ¬ x = 1) : gm0 Λ s p x σ = σ := if_neg h
theorem mp_gains {l : Launch} {γ : Gh} {ρ m : Mm} {p o x y : Int} {s : Int → Int} {Λ : Mm} {hl tl : List Int} (hL : LY ρ) (hR : MR m) (hW : WL Λ) (hM : MLand m Λ hl tl) (hs : MRow m s) (hσ : WS Λ 0 (sig0 s)) (hz : m 84 51 = 0) (hp : 0 ≤ p ∧ p < Λ 0 1) (ho : 0 ≤ o ∧ o < Λ 0 1) (hx : 0 ≤ x ∧ x ≤ 1) (hy : 0 ≤ y ∧ y ≤ 1) : gE l γ μX11_gains 6 0 0 (rI KK fun x9 ρ9 m9 => ρ = ρ9 ∧ MR m9 ∧ FD 35 m m9 ∧ gnV Λ hl tl s p o x y = x9) xN KK ρ m [vR 84, vI p, vI o, vI x, vI y] := by
  refine gE.ofw cl_X11.2 ?_ rfl rfl (Nat.le_of_ble_eq_true rfl)
  show gT l γ μX11_gains 6 0 0 _ _ KK ρ m 0 [some (vR 84), some (vI p), some (vI o), some (vI x), some (vI y), none, none] []
  have hn1 := hW.1
  have hn8 := hW.2.1
  have wp0 := sig0_WS_n hσ hp
  have wo0 := sig0_WS_n hσ ho
  have whp : 0 ≤ s (1 + p) ∧ s (1 + p) < Λ 0 0 := ⟨wp0.1, wp0.2.1⟩
  have who : 0 ≤ s (1 + o) ∧ s (1 + o) < Λ 0 0 := ⟨wo0.1, wo0.2.1⟩
  have hσt := gnT_WS (x := x) (y := y) hW hσ hp ho
  refine tz_aload0 (n := 1) (g_at ck_X11_gains 0 rfl) rfl (g_ne kd_84) ?_
  refine tz_cvV0 (n := 4) (μ' := μX11_tries) (cb' := 0) (sb' := 0) ml_X11_356 mo_X11_tries mv_X11_tries np_X11_tries kd_84 (g_at ck_X11_gains 1 rfl) (mp_tries (Λ := Λ) hL hR hs) rfl rfl rfl ⟨by decide, by decide⟩ (Nat.le_of_ble_eq_true rfl) (by decide) (by decide) (fun ρ9 m1 hq => ?_)
  obtain ⟨rfl, hR1, hT1, hD1⟩ := hq
  refine g_cut (T := ∀ ma : Mm, (MR ma ∧ MT ma 35 Λ z00 (gm0 Λ s p x (sig0 s)) ∧ FD 35 m ma) → gT l γ μX11_gains 6 0 0 (rI KK fun x9 ρ9 m9 => ρ = ρ9 ∧ MR m9 ∧ FD 35 m m9 ∧ gnV Λ hl tl s p o x y = x9) xN KK ρ ma 14 [some (vR 84), some (vI p), some (vI o), some (vI x), some (vI y), none, none] []) (fun hj14 => ?_) ?_
  · skip
    refine tz_iload3 (n := 5) (g_at ck_X11_gains 2 rfl) rfl ?_
    refine tz_iconst (n := 6) (g_at ck_X11_gains 3 rfl) rfl ?_
    refine tz_icmp_ne (n := 9) (tgt := 14) (g_at ck_X11_gains 4 rfl) rfl rfl (by omega) (fun h6 => ?_) (fun h6 => ?_)
    · skip
      exact hj14 _ ⟨hR1, by rw [gm0_n h6]; exact hT1, hD1⟩
    · skip
      refine tz_aload0 (n := 10) (g_at ck_X11_gains 5 rfl) rfl (g_ne kd_84) ?_
      refine tz_iload1 (n := 11) (g_at ck_X11_gains 6 rfl) rfl ?_
      refine tz_cvV1 (n := 14) (μ' := μX11_turnsOn) (cb' := 0) (sb' := 0) ml_X11_471 mo_X11_turnsOn mv_X11_turnsOn np_X11_turnsOn kd_84 (g_at ck_X11_gains 7 rfl) (mp_turnsOn hL hR1 hW (hM.fr (hD1).1 mDay_91) ((mK.fd (hD1)).row hs) hT1 hσ hp (whp)) rfl rfl rfl ⟨by decide, by decide⟩ (Nat.le_of_ble_eq_true rfl) (by decide) (by decide) (fun ρ9 m11 hq => ?_)
      obtain ⟨rfl, hR2, hT11, hD11⟩ := hq
      exact hj14 _ ⟨hR2, by rw [gm0_y h6]; exact hT11, (hD1.tr hD11)⟩
  · intro ma hinv
    obtain ⟨hRa, hTa, hDa⟩ := hinv
    refine g_cut (T := ∀ mb : Mm, (MR mb ∧ MT mb 35 Λ z00 (gnT Λ s p o x y) ∧ FD 35 m mb) → gT l γ μX11_gains 6 0 0 (rI KK fun x9 ρ9 m9 => ρ = ρ9 ∧ MR m9 ∧ FD 35 m m9 ∧ gnV Λ hl tl s p o x y = x9) xN KK ρ mb 25 [some (vR 84), some (vI p), some (vI o), some (vI x), some (vI y), none, none] []) (fun hj25 => ?_) ?_
    · skip
      refine tz_iload4 (n := 16) (g_at ck_X11_gains 8 rfl) rfl ?_
      refine tz_iconst (n := 17) (g_at ck_X11_gains 9 rfl) rfl ?_
      refine tz_icmp_ne (n := 20) (tgt := 25) (g_at ck_X11_gains 10 rfl) rfl rfl (by omega) (fun h17 => ?_) (fun h17 => ?_)
      · skip
        exact hj25 _ ⟨hRa, by unfold gnT; rw [gm0_n h17]; exact hTa, hDa⟩
      · skip
        refine tz_aload0 (n := 21) (g_at ck_X11_gains 11 rfl) rfl (g_ne kd_84) ?_
        refine tz_iload2 (n := 22) (g_at ck_X11_gains 12 rfl) rfl ?_
        refine tz_cvV1 (n := 25) (μ' := μX11_turnsOn) (cb' := 0) (sb' := 0) ml_X11_471 mo_X11_turnsOn mv_X11_turnsOn np_X11_turnsOn kd_84 (g_at ck_X11_gains 13 rfl) (mp_turnsOn hL hRa hW (hM.fr (hDa).1 mDay_91) ((mK.fd (hDa)).row hs) hTa (show WS Λ 0 (gm0 Λ s p x (sig0 s)) from gm0_WS hW whp hσ) ho (who)) rfl rfl rfl ⟨by decide, by decide⟩ (Nat.le_of_ble_eq_true rfl) (by decide) (by decide) (fun ρ9 m22 hq => ?_)
        obtain ⟨rfl, hR3, hT22, hD22⟩ := hq
        exact hj25 _ ⟨hR3, by unfold gnT; rw [gm0_y h17]; exact hT22, hDa.tr hD22⟩
    · intro mb hinv
      obtain ⟨hRb, hTb, hDb⟩ := hinv
      refine tz_iconst (n := 26) (g_at ck_X11_gains 14 rfl) rfl ?_
      refine tz_iload3 (n := 27) (g_at ck_X11_gains 15 rfl) rfl ?_
      refine tz_isub (n := 28) (g_at ck_X11_gains 16 rfl) rfl ?_
      refine tz_istore5 (n := 30) (g_at ck_X11_gains 17 rfl) rfl (by decide) g_hpI ?_
      refine tz_iconst (n := 31) (g_at ck_X11_gains 18 rfl) rfl ?_
      refine tz_istore6 (n := 33) (g_at ck_X11_gains 19 rfl) rfl (by decide) g_hpI ?_
      refine g_for (fun i : Nat => ∀ m1 : Mm, (MR m1 ∧ MT m1 35 Λ z00 (daysP Λ hl tl (gnT Λ s p o x y) i) ∧ FD 35 m m1) → gT l γ μX11_gains 6 0 0 _ _ KK ρ m1 33 [some (vR 84), some (vI p), some (vI o), some (vI x), some (vI y), some (vI (gmG Λ hl tl (gnT Λ s p o x y) p (0 - x) i)), some (vI (i : Int))] []) 8 ?_ (fun i hi ihi => ?_) 0 (Nat.zero_le _) _ ⟨hRb, hTb, hDb⟩
      · intro m1 hinv
        obtain ⟨hRi, hTi, hDi⟩ := hinv
        have hσi := daysP_WS (hl := hl) (tl := tl) hW hσt (Int.le_refl 0) 8
        refine tz_iload6 (n := 35) (g_at ck_X11_gains 20 rfl) rfl ?_
        refine tz_bipush (n := 37) (g_at ck_X11_gains 21 rfl) rfl rfl ?_
        refine tz_icmp_ge (n := 40) (tgt := 72) (g_at ck_X11_gains 22 rfl) rfl rfl ⟨(by omega), (by omega), (by decide), (by decide)⟩ (fun h37 => ?_) (fun h37 => absurd h37 (by omega))
        refine tz_iload5 (n := 74) (g_at ck_X11_gains 39 rfl) rfl ?_
        refine tz_aload0 (n := 75) (g_at ck_X11_gains 40 rfl) rfl (g_ne kd_84) ?_
        refine tz_getAv (n := 78) (a := 107) fk_X11_87 kd_84 (ly_84_48 hL) (g_at ck_X11_gains 41 rfl) rfl ?_
        refine tz_iload1 (n := 79) (g_at ck_X11_gains 42 rfl) rfl ?_
        refine tz_iald (n := 80) kd_107 (by omega) (g_at ck_X11_gains 43 rfl) rfl ?_
        rw [hTi.st hW hσi (by omega) hp]
        refine tz_isub (n := 81) (g_at ck_X11_gains 44 rfl) rfl ?_
        exact tz_iret (g_at ck_X11_gains 45 rfl) rfl (rI_mk ⟨rfl, hRi, hDi, rfl⟩)
      · intro m1 hinv
        obtain ⟨hRi, hTi, hDi⟩ := hinv
        have hσi := daysP_WS (hl := hl) (tl := tl) hW hσt (Int.le_refl 0) i
        refine tz_iload6 (n := 35) (g_at ck_X11_gains 20 rfl) rfl ?_
        refine tz_bipush (n := 37) (g_at ck_X11_gains 21 rfl) rfl rfl ?_
        refine tz_icmp_ge (n := 40) (tgt := 72) (g_at ck_X11_gains 22 rfl) rfl rfl ⟨(by omega), (by omega), (by decide), (by decide)⟩ (fun h37 => absurd h37 (by omega)) (fun h37 => ?_)
        refine tz_aload0 (n := 41) (g_at ck_X11_gains 23 rfl) rfl (g_ne kd_84) ?_
        refine tz_bipush (n := 43) (g_at ck_X11_gains 24 rfl) rfl rfl ?_
        refine tz_cvV1 (n := 46) (μ' := μX11_dayGoes) (cb' := 0) (sb' := 0) ml_X11_353 mo_X11_dayGoes mv_X11_dayGoes np_X11_dayGoes kd_84 (g_at ck_X11_gains 25 rfl) (mp_dayGoes hL hRi hW (hM.fr hDi.1 mDay_91) hTi hσi (by omega) (Or.inr rfl) (hw_fr (hw_0 hz) hDi)) rfl rfl rfl ⟨by decide, by decide⟩ (Nat.le_of_ble_eq_true rfl) (by decide) (by decide) (fun ρ9 m43 hq => ?_)
        obtain ⟨rfl, hR4, hT43, hD43⟩ := hq
        have hT9 : MT m43 35 Λ z00 (daysP Λ hl tl (gnT Λ s p o x y) (i + 1)) := hT43
        have hD9 := hDi.tr hD43
        refine tz_iload5 (n := 48) (g_at ck_X11_gains 26 rfl) rfl ?_
        refine tz_aload0 (n := 49) (g_at ck_X11_gains 27 rfl) rfl (g_ne kd_84) ?_
        refine tz_bipush (n := 51) (g_at ck_X11_gains 28 rfl) rfl rfl ?_
        refine tz_iload1 (n := 52) (g_at ck_X11_gains 29 rfl) rfl ?_
        refine tz_cvI2 (n := 55) (μ' := μX11_isHome) (cb' := 0) (sb' := 0) ml_X11_345 mo_X11_isHome mv_X11_isHome np_X11_isHome kd_84 (g_at ck_X11_gains 30 rfl) (mp_isHome hL hR4 (Or.inr rfl) (by omega)) rfl rfl rfl ⟨by decide, by decide⟩ (Nat.le_of_ble_eq_true rfl) (by decide) (by decide) (fun x52 ρ9 m52 hq => ?_)
        obtain ⟨rfl, hR5, rfl, rfl⟩ := hq
        have hM9 := hM.fr hD9.1 mDay_91
        rw [hT9.r (k := 1 + p) (by omega) (by omega), hM9.2.2.2.2.1 p hp.1 hp.2]
        have h01 := hmB_01 (daysP Λ hl tl (gnT Λ s p o x y) (i + 1) 0 (1 + p)) (Λ 5 p)
        refine tz_if_eq (n := 58) (tgt := 62) (g_at ck_X11_gains 31 rfl) rfl rfl (by omega) (fun h55 => ?_) (fun h55 => ?_)
        · skip
          refine tz_iconst (n := 63) (g_at ck_X11_gains 34 rfl) rfl ?_
          refine tz_iadd (n := 64) (g_at ck_X11_gains 35 rfl) rfl ?_
          refine tz_istore5 (n := 66) (g_at ck_X11_gains 36 rfl) rfl (by decide) g_hpI ?_
          refine tz_iinc6 (n := 69) (g_at ck_X11_gains 37 rfl) rfl (by decide) g_hpI ?_
          refine tz_goto (tgt := 33) (g_at ck_X11_gains 38 rfl) rfl ?_
          have e9 : gmG Λ hl tl (gnT Λ s p o x y) p (0 - x) (i + 1) = (gmG Λ hl tl (gnT Λ s p o x y) p (0 - x) i) + 0 := congrArg (fun z9 => (gmG Λ hl tl (gnT Λ s p o x y) p (0 - x) i) + z9) (if_neg (hmB_0 h55))
          rw [e9] at ihi
          exact ihi _ ⟨hR5, hT9, hD9⟩
        · skip
          refine tz_iconst (n := 59) (g_at ck_X11_gains 32 rfl) rfl ?_
          refine tz_goto (tgt := 63) (g_at ck_X11_gains 33 rfl) rfl ?_
          refine tz_iadd (n := 64) (g_at ck_X11_gains 35 rfl) rfl ?_
          refine tz_istore5 (n := 66) (g_at ck_X11_gains 36 rfl) rfl (by decide) g_hpI ?_
          refine tz_iinc6 (n := 69) (g_at ck_X11_gains 37 rfl) rfl (by decide) g_hpI ?_
          refine tz_goto (tgt := 33) (g_at ck_X11_gains 38 rfl) rfl ?_
          have e9 : gmG Λ hl tl (gnT Λ s p o x y) p (0 - x) (i + 1) = (gmG Λ hl tl (gnT Λ s p o x y) p (0 - x) i) + 3 := congrArg (fun z9 => (gmG Λ hl tl (gnT Λ s p o x y) p (0 - x) i) + z9) (if_pos (hmB_1 h55))
          rw [e9] at ihi
          exact ihi _ ⟨hR5, hT9, hD9⟩
