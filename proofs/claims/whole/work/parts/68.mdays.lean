/-! The reference: a person's turn, a day, days. -/
theorem fol_arm {Λ σ : Mm} {p c : Int} (hp : 0 ≤ p ∧ p < 8) (hc : 0 ≤ c) : folP Λ p c σ 0 (17 + c) = σ 0 (17 + c) := by
  unfold folP
  split
  · rfl
  · simp only [wr, true_and, and_true, false_and, if_false, if_true, Int.reduceEq]
    rw [if_neg (by omega), if_neg (by omega)]
theorem told_V {m Λ σ : Mm} {p c : Int} : ∀ k, 0 ≤ k → k < 5 → wr (wr (wr (wr (wr m 108 0 (σ 0 (17 + c))) 108 1 (Λ 3 c)) 108 2 (σ 0 (9 + p))) 108 3 (cntAt σ c (Λ 0 1).toNat - 1)) 108 4 (σ 0 0) 108 k = tolV Λ σ p c k := fun k h1 h2 => by
  have hk : k = 0 ∨ k = 1 ∨ k = 2 ∨ k = 3 ∨ k = 4 := by omega
  rcases hk with rfl | rfl | rfl | rfl | rfl <;> rfl
theorem rule_no {m : Mm} {a : Int} {L : List Int} (h : MRule m a L) (e : a = -1) : L = [] := h.2.elim (fun h => h.1) fun h => absurd h.2.2.2.1 (by omega)
theorem rule_yes {m : Mm} {a : Int} {L : List Int} (h : MRule m a L) (e : ¬ a = -1) : L ≠ [] ∧ CodeC m a L := h.2.elim (fun h => absurd h.2 e) id
theorem l_108 : ∀ x ∈ ([108, 109] : List Int), x ≠ 103 ∧ x ≠ 105 ∧ x ≠ 106 ∧ x ≠ 107 := by decide
theorem l_91 : ∀ x ∈ ([108, 109] : List Int), 91 ≤ x := by decide
theorem l_mD : ∀ x ∈ ([108, 109] : List Int), x ∈ mDay ∧ x ≠ 103 := by decide
theorem l_109 : ∀ x ∈ ([109] : List Int), x ∈ ([108, 109] : List Int) := by decide
theorem mp_personGoes {l : Launch} {γ : Gh} {ρ m : Mm} {p : Int} {b B w : Int} {Λ e σ : Mm} {hl tl : List Int} (hL : LY ρ) (hR : MR m) (hW : WL Λ) (hM : MLand m Λ hl tl) (hT : MT m b Λ e σ) (hσ : WS Λ B σ) (hB : 0 ≤ B ∧ B < 100000) (hb : b = 0 ∨ b = 35) (hw : (m 84 51 = 0 → w ≠ 0) ∧ (m 84 51 ≠ 0 → w = 0)) (hp : 0 ≤ p ∧ p < Λ 0 1) (hx : 0 < Λ 3 (σ 0 (1 + p))) : gE l γ μX11_personGoes 2 0 0 (rV KK fun ρ9 m9 => ρ = ρ9 ∧ MR m9 ∧ MT m9 b Λ e (takP Λ hl tl w p σ) ∧ FD b m m9) xN KK ρ m [vR 84, vI b, vI p] := by
  refine gE.ofw cl_X11.2 ?_ rfl rfl (Nat.le_of_ble_eq_true rfl)
  show gT l γ μX11_personGoes 2 0 0 _ _ KK ρ m 0 [some (vR 84), some (vI b), some (vI p), none, none, none, none] []
  have hn := hW.1
  have hn8 := hW.2.1
  have hd0 := hσ.1
  have hp1 := hσ.2.1 p hp.1 hp.2
  have hc1 := hσ.2.2.1 (σ 0 (1 + p)) (by omega) (by omega)
  have hcw := hW.2.2.1 (σ 0 (1 + p)) (by omega) (by omega)
  have ha1 := hc1.2.1 hx
  have he := hW.2.2.2.1 (σ 0 (1 + p)) (σ 0 (17 + (σ 0 (1 + p)))) (by omega) (by omega) hc1.1 ha1
  have ht := hW.2.2.1 _ he.1 he.2
  have r1 : m 103 (b + 1 + p) = (σ 0 (1 + p)) := by rw [← hT.1 (1 + p) (by omega) (by omega), show b + 1 + p = b + (1 + p) by omega]
  have r2 : m 103 (b + 17 + (σ 0 (1 + p))) = (σ 0 (17 + (σ 0 (1 + p)))) := by rw [← hT.1 (17 + (σ 0 (1 + p))) (by omega) (by omega), show b + 17 + (σ 0 (1 + p)) = b + (17 + (σ 0 (1 + p))) by omega]
  have r3 : m 103 (b + 9 + p) = σ 0 (9 + p) := by rw [← hT.1 (9 + p) (by omega) (by omega), show b + 9 + p = b + (9 + p) by omega]
  have r4 : m 103 (b + 26 + (σ 0 (1 + p))) = σ 0 (26 + (σ 0 (1 + p))) := by rw [← hT.1 (26 + (σ 0 (1 + p))) (by omega) (by omega), show b + 26 + (σ 0 (1 + p)) = b + (26 + (σ 0 (1 + p))) by omega]
  have r0 : m 103 (b + 0) = σ 0 0 := hT.1 0 (by decide) (by decide)
  have r87 : m 87 (σ 0 (1 + p)) = Λ 3 (σ 0 (1 + p)) := (hM.2.2.1 (σ 0 (1 + p)) (by omega) (by omega)).2.2
  have r88 : m 88 (5 * (σ 0 (1 + p)) + (σ 0 (17 + (σ 0 (1 + p))))) = (Λ 4 ((σ 0 (1 + p)) * 5 + (σ 0 (17 + (σ 0 (1 + p)))))) := hM.2.2.2.1 (σ 0 (1 + p)) (σ 0 (17 + (σ 0 (1 + p)))) (by omega) (by omega) hc1.1 ha1
  have r85 : m 85 (Λ 4 ((σ 0 (1 + p)) * 5 + (σ 0 (17 + (σ 0 (1 + p)))))) = Λ 1 (Λ 4 ((σ 0 (1 + p)) * 5 + (σ 0 (17 + (σ 0 (1 + p)))))) := (hM.2.2.1 _ he.1 he.2).1
  have hN := hM.2.1
  have hcn := cntAt_rg σ (σ 0 (1 + p)) (Λ 0 1).toNat
  have hwh : ∀ p9 : Int, 0 ≤ p9 → p9 < ((Λ 0 1).toNat : Int) → m 103 (b + 1 + p9) = σ 0 (1 + p9) := fun p9 h1 h2 => by rw [← hT.1 (1 + p9) (by omega) (by omega), show b + 1 + p9 = b + (1 + p9) by omega]
  have h01 := shutB_01 (σ 0 (26 + (σ 0 (1 + p)))) (σ 0 (17 + (σ 0 (1 + p))))
  have htv := tvL_rg tl (tolV Λ σ p (σ 0 (1 + p)))
  refine g_cut (T := ∀ m1 : Mm, (MR m1 ∧ Fr [108, 109] m m1 ∧ ∀ k, 0 ≤ k → k < 5 → m1 108 k = (tolV Λ σ p (σ 0 (1 + p))) k) → gT l γ μX11_personGoes 2 0 0 (rV KK fun ρ9 m9 => ρ = ρ9 ∧ MR m9 ∧ MT m9 b Λ e (takP Λ hl tl w p σ) ∧ FD b m m9) xN KK ρ m1 92 [some (vR 84), some (vI b), some (vI p), some (vI (σ 0 (1 + p))), some (vI (σ 0 (17 + (σ 0 (1 + p))))), none, none] []) (fun hj92 => ?_) ?_
  · skip
    refine tz_aload0 (n := 1) (g_at ck_X11_personGoes 0 rfl) rfl (g_ne kd_84) ?_
    refine tz_getAv (n := 4) (a := 103) fk_X11_75 kd_84 (ly_84_43 hL) (g_at ck_X11_personGoes 1 rfl) rfl ?_
    refine tz_iload1 (n := 5) (g_at ck_X11_personGoes 2 rfl) rfl ?_
    refine tz_iconst (n := 6) (g_at ck_X11_personGoes 3 rfl) rfl ?_
    refine tz_iadd (n := 7) (g_at ck_X11_personGoes 4 rfl) rfl ?_
    refine tz_iload2 (n := 8) (g_at ck_X11_personGoes 5 rfl) rfl ?_
    refine tz_iadd (n := 9) (g_at ck_X11_personGoes 6 rfl) rfl ?_
    refine tz_iald (n := 10) kd_103 (by omega) (g_at ck_X11_personGoes 7 rfl) rfl ?_
    rw [r1]
    refine tz_istore3 (n := 11) (g_at ck_X11_personGoes 8 rfl) rfl (by decide) g_hpI ?_
    refine tz_aload0 (n := 12) (g_at ck_X11_personGoes 9 rfl) rfl (g_ne kd_84) ?_
    refine tz_getAv (n := 15) (a := 103) fk_X11_75 kd_84 (ly_84_43 hL) (g_at ck_X11_personGoes 10 rfl) rfl ?_
    refine tz_iload1 (n := 16) (g_at ck_X11_personGoes 11 rfl) rfl ?_
    refine tz_bipush (n := 18) (g_at ck_X11_personGoes 12 rfl) rfl rfl ?_
    refine tz_iadd (n := 19) (g_at ck_X11_personGoes 13 rfl) rfl ?_
    refine tz_iload3 (n := 20) (g_at ck_X11_personGoes 14 rfl) rfl ?_
    refine tz_iadd (n := 21) (g_at ck_X11_personGoes 15 rfl) rfl ?_
    refine tz_iald (n := 22) kd_103 (by omega) (g_at ck_X11_personGoes 16 rfl) rfl ?_
    rw [r2]
    refine tz_istore4 (n := 24) (g_at ck_X11_personGoes 17 rfl) rfl (by decide) g_hpI ?_
    refine tz_aload0 (n := 25) (g_at ck_X11_personGoes 18 rfl) rfl (g_ne kd_84) ?_
    refine tz_getAv (n := 28) (a := 108) fk_X11_90 kd_84 (ly_84_49 hL) (g_at ck_X11_personGoes 19 rfl) rfl ?_
    refine tz_iconst (n := 29) (g_at ck_X11_personGoes 20 rfl) rfl ?_
    refine tz_iload4 (n := 31) (g_at ck_X11_personGoes 21 rfl) rfl ?_
    refine tz_iastr (n := 32) kd_108 (by omega) (g_at ck_X11_personGoes 22 rfl) rfl hR (by omega) (fun hR1 => ?_)
    refine tz_aload0 (n := 33) (g_at ck_X11_personGoes 23 rfl) rfl (g_ne kd_84) ?_
    refine tz_getAv (n := 36) (a := 108) fk_X11_90 kd_84 (ly_84_49 hL) (g_at ck_X11_personGoes 24 rfl) rfl ?_
    refine tz_iconst (n := 37) (g_at ck_X11_personGoes 25 rfl) rfl ?_
    refine tz_aload0 (n := 38) (g_at ck_X11_personGoes 26 rfl) rfl (g_ne kd_84) ?_
    refine tz_getAv (n := 41) (a := 87) fk_X11_23 kd_84 (ly_84_7 hL) (g_at ck_X11_personGoes 27 rfl) rfl ?_
    refine tz_iload3 (n := 42) (g_at ck_X11_personGoes 28 rfl) rfl ?_
    refine tz_iald (n := 43) kd_87 (by omega) (g_at ck_X11_personGoes 29 rfl) rfl ?_
    rw [wr_ne (show (87 : Int) ≠ 108 by decide), r87]
    refine tz_iastr (n := 44) kd_108 (by omega) (g_at ck_X11_personGoes 30 rfl) rfl hR1 (by omega) (fun hR2 => ?_)
    refine tz_aload0 (n := 45) (g_at ck_X11_personGoes 31 rfl) rfl (g_ne kd_84) ?_
    refine tz_getAv (n := 48) (a := 108) fk_X11_90 kd_84 (ly_84_49 hL) (g_at ck_X11_personGoes 32 rfl) rfl ?_
    refine tz_iconst (n := 49) (g_at ck_X11_personGoes 33 rfl) rfl ?_
    refine tz_aload0 (n := 50) (g_at ck_X11_personGoes 34 rfl) rfl (g_ne kd_84) ?_
    refine tz_getAv (n := 53) (a := 103) fk_X11_75 kd_84 (ly_84_43 hL) (g_at ck_X11_personGoes 35 rfl) rfl ?_
    refine tz_iload1 (n := 54) (g_at ck_X11_personGoes 36 rfl) rfl ?_
    refine tz_bipush (n := 56) (g_at ck_X11_personGoes 37 rfl) rfl rfl ?_
    refine tz_iadd (n := 57) (g_at ck_X11_personGoes 38 rfl) rfl ?_
    refine tz_iload2 (n := 58) (g_at ck_X11_personGoes 39 rfl) rfl ?_
    refine tz_iadd (n := 59) (g_at ck_X11_personGoes 40 rfl) rfl ?_
    refine tz_iald (n := 60) kd_103 (by omega) (g_at ck_X11_personGoes 41 rfl) rfl ?_
    rw [wr_ne (show (103 : Int) ≠ 108 by decide), wr_ne (show (103 : Int) ≠ 108 by decide), r3]
    refine tz_iastr (n := 61) kd_108 (by omega) (g_at ck_X11_personGoes 42 rfl) rfl hR2 (by omega) (fun hR3 => ?_)
    refine tz_aload0 (n := 62) (g_at ck_X11_personGoes 43 rfl) rfl (g_ne kd_84) ?_
    refine tz_getAv (n := 65) (a := 108) fk_X11_90 kd_84 (ly_84_49 hL) (g_at ck_X11_personGoes 44 rfl) rfl ?_
    refine tz_iconst (n := 66) (g_at ck_X11_personGoes 45 rfl) rfl ?_
    refine tz_aload0 (n := 67) (g_at ck_X11_personGoes 46 rfl) rfl (g_ne kd_84) ?_
    refine tz_iload1 (n := 68) (g_at ck_X11_personGoes 47 rfl) rfl ?_
    refine tz_iload3 (n := 69) (g_at ck_X11_personGoes 48 rfl) rfl ?_
    refine tz_cvI2 (n := 72) (μ' := μX11_standAt) (cb' := 0) (sb' := 0) ml_X11_326 mo_X11_standAt mv_X11_standAt np_X11_standAt kd_84 (g_at ck_X11_personGoes 49 rfl) (mp_standAt hL hR3 (by rw [wr_ne (show (84 : Int) ≠ 108 by decide), wr_ne (show (84 : Int) ≠ 108 by decide), wr_ne (show (84 : Int) ≠ 108 by decide)]; omega) hb (by omega)) rfl rfl rfl ⟨by decide, by decide⟩ (Nat.le_of_ble_eq_true rfl) (by decide) (by decide) (fun x69 ρ9 m69 hq => ?_)
    obtain ⟨rfl, hR4, rfl, rfl⟩ := hq
    refine tz_csI1 (n := 75) (μ' := μX11_bits) (cb' := 0) (sb' := 0) ml_X11_329 mo_X11_bits ms_X11_bits np_X11_bits (g_at ck_X11_personGoes 50 rfl) (mp_bits hR4) rfl rfl ⟨by decide, by decide⟩ (Nat.le_of_ble_eq_true rfl) (by decide) (by decide) (fun x72 ρ9 m72 hq => ?_)
    obtain ⟨rfl, hR5, rfl, rfl⟩ := hq
    simp only [wr_ne (show (84 : Int) ≠ 108 by decide), wr_ne (show (103 : Int) ≠ 108 by decide), hN]
    rw [bm_cnt (σ := σ) (by omega) hwh]
    refine tz_iconst (n := 76) (g_at ck_X11_personGoes 51 rfl) rfl ?_
    refine tz_isub (n := 77) (g_at ck_X11_personGoes 52 rfl) rfl ?_
    refine tz_iastr (n := 78) kd_108 (by omega) (g_at ck_X11_personGoes 53 rfl) rfl hR5 (by omega) (fun hR6 => ?_)
    refine tz_aload0 (n := 79) (g_at ck_X11_personGoes 54 rfl) rfl (g_ne kd_84) ?_
    refine tz_getAv (n := 82) (a := 108) fk_X11_90 kd_84 (ly_84_49 hL) (g_at ck_X11_personGoes 55 rfl) rfl ?_
    refine tz_iconst (n := 83) (g_at ck_X11_personGoes 56 rfl) rfl ?_
    refine tz_aload0 (n := 84) (g_at ck_X11_personGoes 57 rfl) rfl (g_ne kd_84) ?_
    refine tz_getAv (n := 87) (a := 103) fk_X11_75 kd_84 (ly_84_43 hL) (g_at ck_X11_personGoes 58 rfl) rfl ?_
    refine tz_iload1 (n := 88) (g_at ck_X11_personGoes 59 rfl) rfl ?_
    refine tz_iconst (n := 89) (g_at ck_X11_personGoes 60 rfl) rfl ?_
    refine tz_iadd (n := 90) (g_at ck_X11_personGoes 61 rfl) rfl ?_
    refine tz_iald (n := 91) kd_103 (by omega) (g_at ck_X11_personGoes 62 rfl) rfl ?_
    rw [wr_ne (show (103 : Int) ≠ 108 by decide), wr_ne (show (103 : Int) ≠ 108 by decide), wr_ne (show (103 : Int) ≠ 108 by decide), wr_ne (show (103 : Int) ≠ 108 by decide), r0]
    refine tz_iastr (n := 92) kd_108 (by omega) (g_at ck_X11_personGoes 63 rfl) rfl hR6 (by omega) (fun hR7 => ?_)
    exact hj92 _ ⟨hR7, (((((Fr.rf.wr (by decide)).wr (by decide)).wr (by decide)).wr (by decide)).wr (by decide)), told_V⟩
  · intro m1 hinv
    obtain ⟨hR1, hF1, hV1⟩ := hinv
    have hM1 := hM.fr hF1 l_91
    have e84 : m1 84 = m 84 := hF1 84 (by decide)
    refine g_cut (T := ∀ m2 : Mm, (MR m2 ∧ Fr [108, 109] m m2 ∧ (∀ k, 0 ≤ k → k < 5 → m2 108 k = (tolV Λ σ p (σ 0 (1 + p))) k) ∧ ¬ hvL hl (tolV Λ σ p (σ 0 (1 + p))) ≤ 0) → gT l γ μX11_personGoes 2 0 0 (rV KK fun ρ9 m9 => ρ = ρ9 ∧ MR m9 ∧ MT m9 b Λ e (takP Λ hl tl w p σ) ∧ FD b m m9) xN KK ρ m2 112 [some (vR 84), some (vI b), some (vI p), some (vI (σ 0 (1 + p))), some (vI (σ 0 (17 + (σ 0 (1 + p))))), none, none] []) (fun hj112 => ?_) ?_
    · skip
      refine tz_aload0 (n := 93) (g_at ck_X11_personGoes 64 rfl) rfl (g_ne kd_84) ?_
      refine tz_getIw (n := 96) (kz := 3) fk_X11_9 kd_84 (g_at ck_X11_personGoes 65 rfl) rfl rfl ?_
      refine tz_iconst (n := 97) (g_at ck_X11_personGoes 66 rfl) rfl ?_
      rw [e84]
      refine tz_icmp_eq (n := 100) (tgt := 112) (g_at ck_X11_personGoes 67 rfl) rfl rfl ⟨(hR _ _).1, (hR _ _).2, by decide, by decide⟩ (fun h97 => ?_) (fun h97 => ?_)
      · skip
        exact hj112 _ ⟨hR1, hF1, hV1, by rw [show hl = [] from rule_no hM.2.2.2.2.2.1 h97]; exact (by decide : ¬ (1 : Int) ≤ 0)⟩
      · skip
        refine tz_aload0 (n := 101) (g_at ck_X11_personGoes 68 rfl) rfl (g_ne kd_84) ?_
        refine tz_aload0 (n := 102) (g_at ck_X11_personGoes 69 rfl) rfl (g_ne kd_84) ?_
        refine tz_getIw (n := 105) (kz := 3) fk_X11_9 kd_84 (g_at ck_X11_personGoes 70 rfl) rfl rfl ?_
        rw [← e84] at h97
        have hr9 := rule_yes hM1.2.2.2.2.2.1 h97
        refine tz_cvI1 (n := 108) (μ' := μX11_reckons) (cb' := 0) (sb' := 0) ml_X11_332 mo_X11_reckons mv_X11_reckons np_X11_reckons kd_84 (g_at ck_X11_personGoes 71 rfl) (mp_reckons hL hR1 hr9.2 hM1.2.2.2.2.2.1.1 hr9.1 hV1) rfl rfl rfl ⟨by decide, by decide⟩ (Nat.le_of_ble_eq_true rfl) (by decide) (by decide) (fun x105 ρ9 m105 hq => ?_)
        obtain ⟨rfl, hR8, hx105, hF105, hr105⟩ := hq
        refine tz_if_gt (n := 111) (tgt := 112) (g_at ck_X11_personGoes 72 rfl) rfl rfl hr105 (fun h108 => ?_) (fun h108 => ?_)
        · skip
          exact hj112 _ ⟨hR8, hF1.tr (hF105.sub l_109), fun k h1 h2 => by rw [hF105 108 (by decide)]; exact hV1 k h1 h2, by rw [hvL_told hr9.1, hx105]; omega⟩
        · skip
          exact tz_vret (g_at ck_X11_personGoes 73 rfl) rfl (rV_mk ⟨rfl, hR8, by rw [takP_no (by rw [hvL_told hr9.1, hx105]; omega)]; exact (hT.fr (hF1.tr (hF105.sub l_109)) l_108), FD.of (hF1.tr (hF105.sub l_109)) l_mD⟩)
    · intro m2 hinv
      obtain ⟨hR2, hF2, hV2, hne⟩ := hinv
      have hM2 := hM.fr hF2 l_91
      have e842 : m2 84 = m 84 := hF2 84 (by decide)
      refine g_cut (T := ∀ m3 : Mm, (MR m3 ∧ Fr [108, 109] m m3) → gT l γ μX11_personGoes 2 0 0 (rV KK fun ρ9 m9 => ρ = ρ9 ∧ MR m9 ∧ MT m9 b Λ e (takP Λ hl tl w p σ) ∧ FD b m m9) xN KK ρ m3 138 [some (vR 84), some (vI b), some (vI p), some (vI (σ 0 (1 + p))), some (vI (σ 0 (17 + (σ 0 (1 + p))))), none, none] [vI (tvL tl (tolV Λ σ p (σ 0 (1 + p))))]) (fun hj138 => ?_) ?_
      · skip
        refine tz_aload0 (n := 113) (g_at ck_X11_personGoes 74 rfl) rfl (g_ne kd_84) ?_
        refine tz_getIw (n := 116) (kz := 4) fk_X11_13 kd_84 (g_at ck_X11_personGoes 75 rfl) rfl rfl ?_
        refine tz_iconst (n := 117) (g_at ck_X11_personGoes 76 rfl) rfl ?_
        rw [e842]
        refine tz_icmp_ne (n := 120) (tgt := 124) (g_at ck_X11_personGoes 77 rfl) rfl rfl ⟨(hR _ _).1, (hR _ _).2, by decide, by decide⟩ (fun h117 => ?_) (fun h117 => ?_)
        · skip
          refine tz_aload0 (n := 125) (g_at ck_X11_personGoes 80 rfl) rfl (g_ne kd_84) ?_
          refine tz_aload0 (n := 126) (g_at ck_X11_personGoes 81 rfl) rfl (g_ne kd_84) ?_
          refine tz_getIw (n := 129) (kz := 4) fk_X11_13 kd_84 (g_at ck_X11_personGoes 82 rfl) rfl rfl ?_
          rw [← e842] at h117
          have hr8 := rule_yes hM2.2.2.2.2.2.2 h117
          refine tz_cvI1 (n := 132) (μ' := μX11_reckons) (cb' := 0) (sb' := 0) ml_X11_332 mo_X11_reckons mv_X11_reckons np_X11_reckons kd_84 (g_at ck_X11_personGoes 83 rfl) (mp_reckons hL hR2 hr8.2 hM2.2.2.2.2.2.2.1 hr8.1 hV2) rfl rfl rfl ⟨by decide, by decide⟩ (Nat.le_of_ble_eq_true rfl) (by decide) (by decide) (fun x129 ρ9 m129 hq => ?_)
          obtain ⟨rfl, hR9, hx129, hF129, hr129⟩ := hq
          refine tz_iconst (n := 133) (g_at ck_X11_personGoes 84 rfl) rfl ?_
          refine tz_bipush (n := 135) (g_at ck_X11_personGoes 85 rfl) rfl rfl ?_
          rw [← hx129] at hr129 ⊢
          refine tz_csI3 (n := 138) (μ' := μX11_bounded) (cb' := 0) (sb' := 0) ml_X11_335 mo_X11_bounded ms_X11_bounded np_X11_bounded (g_at ck_X11_personGoes 86 rfl) (mp_bounded hR9 hr129) rfl rfl ⟨by decide, by decide⟩ (Nat.le_of_ble_eq_true rfl) (by decide) (by decide) (fun x135 ρ9 m135 hq => ?_)
          obtain ⟨rfl, hR10, rfl, rfl⟩ := hq
          have e9 : tvL tl (tolV Λ σ p (σ 0 (1 + p))) = clamp9 (evC tl (tolV Λ σ p (σ 0 (1 + p)))) := if_neg hr8.1
          have h9 := hj138 _ ⟨hR10, hF2.tr (hF129.sub l_109)⟩
          rw [e9] at h9
          exact h9
        · skip
          refine tz_iconst (n := 121) (g_at ck_X11_personGoes 78 rfl) rfl ?_
          refine tz_goto (tgt := 138) (g_at ck_X11_personGoes 79 rfl) rfl ?_
          have e9 : tvL tl (tolV Λ σ p (σ 0 (1 + p))) = 1 := if_pos (rule_no hM.2.2.2.2.2.2 h117)
          have h9 := hj138 _ ⟨hR2, hF2⟩
          rw [e9] at h9
          exact h9
      · intro m3 hinv
        obtain ⟨hR3, hF3⟩ := hinv
        have hM3 := hM.fr hF3 l_91
        have hT3 := hT.fr hF3 l_108
        have e843 : m3 84 = m 84 := hF3 84 (by decide)
        have e103 : m3 103 = m 103 := hF3 103 (by decide)
        have e85 : m3 85 = m 85 := hF3 85 (by decide)
        have e88 : m3 88 = m 88 := hF3 88 (by decide)
        refine tz_istore5 (n := 140) (g_at ck_X11_personGoes 87 rfl) rfl (by decide) g_hpI ?_
        refine tz_aload0 (n := 141) (g_at ck_X11_personGoes 88 rfl) rfl (g_ne kd_84) ?_
        refine tz_getAv (n := 144) (a := 88) fk_X11_26 kd_84 (ly_84_8 hL) (g_at ck_X11_personGoes 89 rfl) rfl ?_
        refine tz_iconst (n := 145) (g_at ck_X11_personGoes 90 rfl) rfl ?_
        refine tz_iload3 (n := 146) (g_at ck_X11_personGoes 91 rfl) rfl ?_
        refine tz_imul (n := 147) (g_at ck_X11_personGoes 92 rfl) rfl ?_
        refine tz_iload4 (n := 149) (g_at ck_X11_personGoes 93 rfl) rfl ?_
        refine tz_iadd (n := 150) (g_at ck_X11_personGoes 94 rfl) rfl ?_
        refine tz_iald (n := 151) kd_88 (by omega) (g_at ck_X11_personGoes 95 rfl) rfl ?_
        rw [e88, r88]
        refine tz_istore6 (n := 153) (g_at ck_X11_personGoes 96 rfl) rfl (by decide) g_hpI ?_
        refine g_cut (T := ∀ m4 : Mm, (MR m4 ∧ MT m4 b Λ e (folP Λ p (σ 0 (1 + p)) σ) ∧ FD b m m4) → gT l γ μX11_personGoes 2 0 0 (rV KK fun ρ9 m9 => ρ = ρ9 ∧ MR m9 ∧ MT m9 b Λ e (takP Λ hl tl w p σ) ∧ FD b m m9) xN KK ρ m4 260 [some (vR 84), some (vI b), some (vI p), some (vI (σ 0 (1 + p))), some (vI (σ 0 (17 + (σ 0 (1 + p))))), some (vI (tvL tl (tolV Λ σ p (σ 0 (1 + p))))), none] []) (fun hj260 => ?_) ?_
        · skip
          refine tz_aload0 (n := 154) (g_at ck_X11_personGoes 97 rfl) rfl (g_ne kd_84) ?_
          refine tz_iload1 (n := 155) (g_at ck_X11_personGoes 98 rfl) rfl ?_
          refine tz_iload3 (n := 156) (g_at ck_X11_personGoes 99 rfl) rfl ?_
          refine tz_iload4 (n := 158) (g_at ck_X11_personGoes 100 rfl) rfl ?_
          refine tz_cvI3 (n := 161) (μ' := μX11_isShut) (cb' := 0) (sb' := 0) ml_X11_338 mo_X11_isShut mv_X11_isShut np_X11_isShut kd_84 (g_at ck_X11_personGoes 101 rfl) (mp_isShut hL hR3 hb (by omega)) rfl rfl rfl ⟨by decide, by decide⟩ (Nat.le_of_ble_eq_true rfl) (by decide) (by decide) (fun x158 ρ9 m158 hq => ?_)
          obtain ⟨rfl, hR11, rfl, rfl⟩ := hq
          rw [e103, r4]
          refine tz_if_ne (n := 164) (tgt := 260) (g_at ck_X11_personGoes 102 rfl) rfl rfl (by omega) (fun h161 => ?_) (fun h161 => ?_)
          · skip
            refine tz_drop6 ?_
            exact hj260 _ ⟨hR11, by rw [folP_no1 h161]; exact hT3, FD.of hF3 l_mD⟩
          · skip
            refine tz_aload0 (n := 165) (g_at ck_X11_personGoes 103 rfl) rfl (g_ne kd_84) ?_
            refine tz_getAv (n := 168) (a := 103) fk_X11_75 kd_84 (ly_84_43 hL) (g_at ck_X11_personGoes 104 rfl) rfl ?_
            refine tz_iload1 (n := 169) (g_at ck_X11_personGoes 105 rfl) rfl ?_
            refine tz_bipush (n := 171) (g_at ck_X11_personGoes 106 rfl) rfl rfl ?_
            refine tz_iadd (n := 172) (g_at ck_X11_personGoes 107 rfl) rfl ?_
            refine tz_iload2 (n := 173) (g_at ck_X11_personGoes 108 rfl) rfl ?_
            refine tz_iadd (n := 174) (g_at ck_X11_personGoes 109 rfl) rfl ?_
            refine tz_iald (n := 175) kd_103 (by omega) (g_at ck_X11_personGoes 110 rfl) rfl ?_
            rw [e103, r3]
            refine tz_aload0 (n := 176) (g_at ck_X11_personGoes 111 rfl) rfl (g_ne kd_84) ?_
            refine tz_getAv (n := 179) (a := 85) fk_X11_16 kd_84 (ly_84_5 hL) (g_at ck_X11_personGoes 112 rfl) rfl ?_
            refine tz_iload6 (n := 181) (g_at ck_X11_personGoes 113 rfl) rfl ?_
            refine tz_iald (n := 182) kd_85 (by omega) (g_at ck_X11_personGoes 114 rfl) rfl ?_
            rw [e85, r85]
            refine tz_icmp_lt (n := 185) (tgt := 260) (g_at ck_X11_personGoes 115 rfl) rfl rfl (by omega) (fun h182 => ?_) (fun h182 => ?_)
            · skip
              refine tz_drop6 ?_
              exact hj260 _ ⟨hR11, by rw [folP_no2 h182]; exact hT3, FD.of hF3 l_mD⟩
            · skip
              refine tz_aload0 (n := 186) (g_at ck_X11_personGoes 116 rfl) rfl (g_ne kd_84) ?_
              refine tz_getAv (n := 189) (a := 103) fk_X11_75 kd_84 (ly_84_43 hL) (g_at ck_X11_personGoes 117 rfl) rfl ?_
              refine tz_iload1 (n := 190) (g_at ck_X11_personGoes 118 rfl) rfl ?_
              refine tz_iconst (n := 191) (g_at ck_X11_personGoes 119 rfl) rfl ?_
              refine tz_iadd (n := 192) (g_at ck_X11_personGoes 120 rfl) rfl ?_
              refine tz_iload2 (n := 193) (g_at ck_X11_personGoes 121 rfl) rfl ?_
              refine tz_iadd (n := 194) (g_at ck_X11_personGoes 122 rfl) rfl ?_
              refine tz_iload6 (n := 196) (g_at ck_X11_personGoes 123 rfl) rfl ?_
              refine tz_iastr (n := 197) kd_103 (by omega) (g_at ck_X11_personGoes 124 rfl) rfl hR11 (by omega) (fun hR12 => ?_)
              refine tz_aload0 (n := 198) (g_at ck_X11_personGoes 125 rfl) rfl (g_ne kd_84) ?_
              refine tz_getAv (n := 201) (a := 103) fk_X11_75 kd_84 (ly_84_43 hL) (g_at ck_X11_personGoes 126 rfl) rfl ?_
              refine tz_iload1 (n := 202) (g_at ck_X11_personGoes 127 rfl) rfl ?_
              refine tz_bipush (n := 204) (g_at ck_X11_personGoes 128 rfl) rfl rfl ?_
              refine tz_iadd (n := 205) (g_at ck_X11_personGoes 129 rfl) rfl ?_
              refine tz_iload2 (n := 206) (g_at ck_X11_personGoes 130 rfl) rfl ?_
              refine tz_iadd (n := 207) (g_at ck_X11_personGoes 131 rfl) rfl ?_
              refine tz_dup2 (n := 208) (g_at ck_X11_personGoes 132 rfl) rfl ?_
              refine tz_iald (n := 209) kd_103 (by omega) (g_at ck_X11_personGoes 133 rfl) rfl ?_
              rw [wr_at, if_neg (by omega), e103, r3]
              refine tz_aload0 (n := 210) (g_at ck_X11_personGoes 134 rfl) rfl (g_ne kd_84) ?_
              refine tz_getAv (n := 213) (a := 85) fk_X11_16 kd_84 (ly_84_5 hL) (g_at ck_X11_personGoes 135 rfl) rfl ?_
              refine tz_iload6 (n := 215) (g_at ck_X11_personGoes 136 rfl) rfl ?_
              refine tz_iald (n := 216) kd_85 (by omega) (g_at ck_X11_personGoes 137 rfl) rfl ?_
              rw [wr_ne (show (85 : Int) ≠ 103 by decide), e85, r85]
              refine tz_isub (n := 217) (g_at ck_X11_personGoes 138 rfl) rfl ?_
              refine tz_iastr (n := 218) kd_103 (by omega) (g_at ck_X11_personGoes 139 rfl) rfl hR12 (by omega) (fun hR13 => ?_)
              refine tz_aload0 (n := 219) (g_at ck_X11_personGoes 140 rfl) rfl (g_ne kd_84) ?_
              refine tz_getAv (n := 222) (a := 105) fk_X11_81 kd_84 (ly_84_46 hL) (g_at ck_X11_personGoes 141 rfl) rfl ?_
              refine tz_iconst (n := 223) (g_at ck_X11_personGoes 142 rfl) rfl ?_
              refine tz_iload3 (n := 224) (g_at ck_X11_personGoes 143 rfl) rfl ?_
              refine tz_imul (n := 225) (g_at ck_X11_personGoes 144 rfl) rfl ?_
              refine tz_iload4 (n := 227) (g_at ck_X11_personGoes 145 rfl) rfl ?_
              refine tz_iadd (n := 228) (g_at ck_X11_personGoes 146 rfl) rfl ?_
              rw [show 5 * (σ 0 (1 + p)) + (σ 0 (17 + (σ 0 (1 + p)))) = (σ 0 (1 + p)) * 5 + (σ 0 (17 + (σ 0 (1 + p)))) by omega]
              refine tz_dup2 (n := 229) (g_at ck_X11_personGoes 147 rfl) rfl ?_
              refine tz_iald (n := 230) kd_105 (by omega) (g_at ck_X11_personGoes 148 rfl) rfl ?_
              rw [wr_ne (show (105 : Int) ≠ 103 by decide), wr_ne (show (105 : Int) ≠ 103 by decide), hT3.2.2.1 ((σ 0 (1 + p)) * 5 + (σ 0 (17 + (σ 0 (1 + p))))) (by omega) (by omega)]
              refine tz_iconst (n := 231) (g_at ck_X11_personGoes 149 rfl) rfl ?_
              refine tz_iadd (n := 232) (g_at ck_X11_personGoes 150 rfl) rfl ?_
              refine tz_wrap ?_
              rw [w32_w]
              refine tz_iastr (n := 233) kd_105 (by omega) (g_at ck_X11_personGoes 151 rfl) rfl hR13 (w32_rg _) (fun hR14 => ?_)
              refine tz_aload0 (n := 234) (g_at ck_X11_personGoes 152 rfl) rfl (g_ne kd_84) ?_
              refine tz_getAv (n := 237) (a := 106) fk_X11_84 kd_84 (ly_84_47 hL) (g_at ck_X11_personGoes 153 rfl) rfl ?_
              refine tz_iload6 (n := 239) (g_at ck_X11_personGoes 154 rfl) rfl ?_
              refine tz_dup2 (n := 240) (g_at ck_X11_personGoes 155 rfl) rfl ?_
              refine tz_iald (n := 241) kd_106 (by omega) (g_at ck_X11_personGoes 156 rfl) rfl ?_
              rw [wr_ne (show (106 : Int) ≠ 105 by decide), wr_ne (show (106 : Int) ≠ 103 by decide), wr_ne (show (106 : Int) ≠ 103 by decide), hT3.2.2.2 (Λ 4 ((σ 0 (1 + p)) * 5 + (σ 0 (17 + (σ 0 (1 + p)))))) (by omega) (by omega)]
              refine tz_aload0 (n := 242) (g_at ck_X11_personGoes 157 rfl) rfl (g_ne kd_84) ?_
              refine tz_getAv (n := 245) (a := 85) fk_X11_16 kd_84 (ly_84_5 hL) (g_at ck_X11_personGoes 158 rfl) rfl ?_
              refine tz_iload6 (n := 247) (g_at ck_X11_personGoes 159 rfl) rfl ?_
              refine tz_iald (n := 248) kd_85 (by omega) (g_at ck_X11_personGoes 160 rfl) rfl ?_
              rw [wr_ne (show (85 : Int) ≠ 105 by decide), wr_ne (show (85 : Int) ≠ 103 by decide), wr_ne (show (85 : Int) ≠ 103 by decide), e85, r85]
              refine tz_iadd (n := 249) (g_at ck_X11_personGoes 161 rfl) rfl ?_
              refine tz_wrap ?_
              rw [w32_w]
              refine tz_iastr (n := 250) kd_106 (by omega) (g_at ck_X11_personGoes 162 rfl) rfl hR14 (w32_rg _) (fun hR15 => ?_)
              refine tz_aload0 (n := 251) (g_at ck_X11_personGoes 163 rfl) rfl (g_ne kd_84) ?_
              refine tz_getAv (n := 254) (a := 107) fk_X11_87 kd_84 (ly_84_48 hL) (g_at ck_X11_personGoes 164 rfl) rfl ?_
              refine tz_iload2 (n := 255) (g_at ck_X11_personGoes 165 rfl) rfl ?_
              refine tz_dup2 (n := 256) (g_at ck_X11_personGoes 166 rfl) rfl ?_
              refine tz_iald (n := 257) kd_107 (by omega) (g_at ck_X11_personGoes 167 rfl) rfl ?_
              rw [wr_ne (show (107 : Int) ≠ 106 by decide), wr_ne (show (107 : Int) ≠ 105 by decide), wr_ne (show (107 : Int) ≠ 103 by decide), wr_ne (show (107 : Int) ≠ 103 by decide), hT3.2.1 p (by omega) (by omega)]
              refine tz_iconst (n := 258) (g_at ck_X11_personGoes 168 rfl) rfl ?_
              refine tz_iadd (n := 259) (g_at ck_X11_personGoes 169 rfl) rfl ?_
              refine tz_wrap ?_
              rw [w32_w]
              refine tz_iastr (n := 260) kd_107 (by omega) (g_at ck_X11_personGoes 170 rfl) rfl hR15 (w32_rg _) (fun hR16 => ?_)
              refine tz_drop6 ?_
              exact hj260 _ ⟨hR16, MT_fol hW hT3 hp ⟨by omega, by omega⟩ ⟨hc1.1, ha1⟩ rfl (by omega) h182, (((((FD.of hF3 l_mD).wr (by decide) (fun _ => by omega)).wr (by decide) (fun _ => by omega)).wr (by decide) (fun h9 => absurd h9 (by decide))).wr (by decide) (fun h9 => absurd h9 (by decide))).wr (by decide) (fun h9 => absurd h9 (by decide))⟩
        · intro m4 hinv
          obtain ⟨hR4, hT4, hD4⟩ := hinv
          have e844 : m4 84 = m 84 := hD4.1 84 (by decide)
          have e87 : m4 87 = m 87 := hD4.1 87 (by decide)
          refine tz_aload0 (n := 261) (g_at ck_X11_personGoes 171 rfl) rfl (g_ne kd_84) ?_
          refine tz_getZw (n := 264) (kz := 51) fk_X11_342 kd_84 (g_at ck_X11_personGoes 172 rfl) rfl rfl ?_
          rw [e844]
          refine tz_if_ne (n := 267) (tgt := 290) (g_at ck_X11_personGoes 173 rfl) rfl rfl (hR _ _) (fun h264 => ?_) (fun h264 => ?_)
          · skip
            exact tz_vret (g_at ck_X11_personGoes 190 rfl) rfl (rV_mk ⟨rfl, hR4, by rw [takP_0 hne (hw.2 h264)]; exact hT4, hD4⟩)
          · skip
            refine tz_aload0 (n := 268) (g_at ck_X11_personGoes 174 rfl) rfl (g_ne kd_84) ?_
            refine tz_getAv (n := 271) (a := 103) fk_X11_75 kd_84 (ly_84_43 hL) (g_at ck_X11_personGoes 175 rfl) rfl ?_
            refine tz_iload1 (n := 272) (g_at ck_X11_personGoes 176 rfl) rfl ?_
            refine tz_bipush (n := 274) (g_at ck_X11_personGoes 177 rfl) rfl rfl ?_
            refine tz_iadd (n := 275) (g_at ck_X11_personGoes 178 rfl) rfl ?_
            refine tz_iload3 (n := 276) (g_at ck_X11_personGoes 179 rfl) rfl ?_
            refine tz_iadd (n := 277) (g_at ck_X11_personGoes 180 rfl) rfl ?_
            refine tz_iload4 (n := 279) (g_at ck_X11_personGoes 181 rfl) rfl ?_
            refine tz_iload5 (n := 281) (g_at ck_X11_personGoes 182 rfl) rfl ?_
            refine tz_iadd (n := 282) (g_at ck_X11_personGoes 183 rfl) rfl ?_
            refine tz_aload0 (n := 283) (g_at ck_X11_personGoes 184 rfl) rfl (g_ne kd_84) ?_
            refine tz_getAv (n := 286) (a := 87) fk_X11_23 kd_84 (ly_84_7 hL) (g_at ck_X11_personGoes 185 rfl) rfl ?_
            refine tz_iload3 (n := 287) (g_at ck_X11_personGoes 186 rfl) rfl ?_
            refine tz_iald (n := 288) kd_87 (by omega) (g_at ck_X11_personGoes 187 rfl) rfl ?_
            rw [e87, r87]
            refine tz_irem (n := 289) (g_at ck_X11_personGoes 188 rfl) rfl (by omega) ?_
            rw [bRem_nn (by omega) (by omega)]
            have hm := Int.emod_nonneg ((σ 0 (17 + (σ 0 (1 + p)))) + tvL tl (tolV Λ σ p (σ 0 (1 + p)))) (show Λ 3 (σ 0 (1 + p)) ≠ 0 by omega)
            have hm2 := Int.emod_lt_of_pos ((σ 0 (17 + (σ 0 (1 + p)))) + tvL tl (tolV Λ σ p (σ 0 (1 + p)))) (show 0 < Λ 3 (σ 0 (1 + p)) by omega)
            have hg : folP Λ p (σ 0 (1 + p)) σ 0 (17 + (σ 0 (1 + p))) = (σ 0 (17 + (σ 0 (1 + p)))) := fol_arm (by omega) hp1.1
            refine tz_iastr (n := 290) kd_103 (by omega) (g_at ck_X11_personGoes 189 rfl) rfl hR4 (by omega) (fun hR17 => ?_)
            exact tz_vret (g_at ck_X11_personGoes 190 rfl) rfl (rV_mk ⟨rfl, hR17, by rw [takP_1 hne (hw.1 (by omega)), trnP, if_neg (by omega), hg, show b + 17 + (σ 0 (1 + p)) = b + (17 + (σ 0 (1 + p))) by omega]; exact MT_row hT4 ⟨by omega, by omega⟩, hD4.wr (by decide) fun _ => by omega⟩)
theorem hmB_1 {a b : Int} (h : ¬ hmB a b = 0) : a = b := by unfold hmB at h; split at h; assumption; exact absurd rfl h
theorem hmB_0 {a b : Int} (h : hmB a b = 0) : ¬ a = b := fun h9 => absurd ((show hmB a b = 1 from if_pos h9).symm.trans h) (by decide)
theorem dayN_s {Λ σ : Mm} {hl tl : List Int} {w : Int} {i : Nat} : dayN Λ hl tl w σ (i + 1) = perP Λ hl tl w (i : Int) (dayN Λ hl tl w σ i) := rfl
theorem hw_fr {m m9 : Mm} {w : Int} {b : Int} (h : (m 84 51 = 0 → w ≠ 0) ∧ (m 84 51 ≠ 0 → w = 0)) (k : FD b m m9) : (m9 84 51 = 0 → w ≠ 0) ∧ (m9 84 51 ≠ 0 → w = 0) := by
  rw [k.1 84 (by decide)]
  exact h
theorem mp_dayGoes {l : Launch} {γ : Gh} {ρ m : Mm} {b B w : Int} {Λ e σ : Mm} {hl tl : List Int} (hL : LY ρ) (hR : MR m) (hW : WL Λ) (hM : MLand m Λ hl tl) (hT : MT m b Λ e σ) (hσ : WS Λ B σ) (hB : 0 ≤ B ∧ B < 99000) (hb : b = 0 ∨ b = 35) (hw : (m 84 51 = 0 → w ≠ 0) ∧ (m 84 51 ≠ 0 → w = 0)) : gE l γ μX11_dayGoes 3 0 0 (rV KK fun ρ9 m9 => ρ = ρ9 ∧ MR m9 ∧ MT m9 b Λ e (dayP Λ hl tl w σ) ∧ FD b m m9) xN KK ρ m [vR 84, vI b] := by
  refine gE.ofw cl_X11.2 ?_ rfl rfl (Nat.le_of_ble_eq_true rfl)
  show gT l γ μX11_dayGoes 3 0 0 _ _ KK ρ m 0 [some (vR 84), some (vI b), none] []
  have hn := hW.1
  have hn8 := hW.2.1
  refine tz_iconst (n := 1) (g_at ck_X11_dayGoes 0 rfl) rfl ?_
  refine tz_istore2 (n := 2) (g_at ck_X11_dayGoes 1 rfl) rfl (by decide) g_hpI ?_
  refine g_for (fun i : Nat => ∀ m1 : Mm, (MR m1 ∧ MT m1 b Λ e (dayN Λ hl tl w σ i) ∧ FD b m m1) → gT l γ μX11_dayGoes 3 0 0 _ _ KK ρ m1 2 [some (vR 84), some (vI b), some (vI (i : Int))] []) (Λ 0 1).toNat ?_ (fun i hi ihi => ?_) 0 (Nat.zero_le _) _ ⟨hR, hT, FD.rf⟩
  · intro m1 hinv
    obtain ⟨hR1, hT1, hD1⟩ := hinv
    have e84 : m1 84 = m 84 := hD1.1 84 (by decide)
    have hN := hM.2.1
    have hσ9 := dayN_WS (hl := hl) (tl := tl) (w := w) hW hσ hB.1 (Λ 0 1).toNat (Nat.le_refl _)
    have hd9 := hσ9.1
    have r0 : m1 103 (b + 0) = dayN Λ hl tl w σ (Λ 0 1).toNat 0 0 := hT1.1 0 (by decide) (by decide)
    refine tz_iload2 (n := 3) (g_at ck_X11_dayGoes 2 rfl) rfl ?_
    refine tz_aload0 (n := 4) (g_at ck_X11_dayGoes 3 rfl) rfl (g_ne kd_84) ?_
    refine tz_getIw (n := 7) (kz := 2) fk_X11_305 kd_84 (g_at ck_X11_dayGoes 4 rfl) rfl rfl ?_
    rw [e84, hN]
    refine tz_icmp_ge (n := 10) (tgt := 49) (g_at ck_X11_dayGoes 5 rfl) rfl rfl (by omega) (fun h7 => ?_) (fun h7 => absurd h7 (by omega))
    refine tz_aload0 (n := 50) (g_at ck_X11_dayGoes 29 rfl) rfl (g_ne kd_84) ?_
    refine tz_getAv (n := 53) (a := 103) fk_X11_75 kd_84 (ly_84_43 hL) (g_at ck_X11_dayGoes 30 rfl) rfl ?_
    refine tz_iload1 (n := 54) (g_at ck_X11_dayGoes 31 rfl) rfl ?_
    refine tz_iconst (n := 55) (g_at ck_X11_dayGoes 32 rfl) rfl ?_
    refine tz_iadd (n := 56) (g_at ck_X11_dayGoes 33 rfl) rfl ?_
    refine tz_dup2 (n := 57) (g_at ck_X11_dayGoes 34 rfl) rfl ?_
    refine tz_iald (n := 58) kd_103 (by omega) (g_at ck_X11_dayGoes 35 rfl) rfl ?_
    rw [r0]
    refine tz_iconst (n := 59) (g_at ck_X11_dayGoes 36 rfl) rfl ?_
    refine tz_iadd (n := 60) (g_at ck_X11_dayGoes 37 rfl) rfl ?_
    refine tz_iastr (n := 61) kd_103 (by omega) (g_at ck_X11_dayGoes 38 rfl) rfl hR1 (by omega) (fun hR1 => ?_)
    exact tz_vret (g_at ck_X11_dayGoes 39 rfl) rfl (rV_mk ⟨rfl, hR1, MT_row hT1 (by decide), hD1.wr (by decide) fun _ => by omega⟩)
  · intro m1 hinv
    obtain ⟨hR1, hT1, hD1⟩ := hinv
    have e84 : m1 84 = m 84 := hD1.1 84 (by decide)
    have hN := hM.2.1
    have hM1 := hM.fr hD1.1 mDay_91
    have hσ1 := dayN_WS (hl := hl) (tl := tl) (w := w) hW hσ hB.1 i (by omega)
    have hp1 := hσ1.2.1 (i : Int) (by omega) (by omega)
    have r1 : m1 103 (b + 1 + (i : Int)) = ((dayN Λ hl tl w σ i) 0 (1 + (i : Int))) := by rw [← hT1.1 (1 + (i : Int)) (by omega) (by omega), show b + 1 + (i : Int) = b + (1 + (i : Int)) by omega]
    have r5 := hM1.2.2.2.2.1 (i : Int) (by omega) (by omega)
    have r87 := (hM1.2.2.1 ((dayN Λ hl tl w σ i) 0 (1 + (i : Int))) (by omega) (by omega)).2.2
    have h01 := hmB_01 ((dayN Λ hl tl w σ i) 0 (1 + (i : Int))) (Λ 5 (i : Int))
    have hcw := hW.2.2.1 ((dayN Λ hl tl w σ i) 0 (1 + (i : Int))) (by omega) (by omega)
    refine tz_iload2 (n := 3) (g_at ck_X11_dayGoes 2 rfl) rfl ?_
    refine tz_aload0 (n := 4) (g_at ck_X11_dayGoes 3 rfl) rfl (g_ne kd_84) ?_
    refine tz_getIw (n := 7) (kz := 2) fk_X11_305 kd_84 (g_at ck_X11_dayGoes 4 rfl) rfl rfl ?_
    rw [e84, hN]
    refine tz_icmp_ge (n := 10) (tgt := 49) (g_at ck_X11_dayGoes 5 rfl) rfl rfl (by omega) (fun h7 => absurd h7 (by omega)) (fun h7 => ?_)
    refine tz_aload0 (n := 11) (g_at ck_X11_dayGoes 6 rfl) rfl (g_ne kd_84) ?_
    refine tz_iload1 (n := 12) (g_at ck_X11_dayGoes 7 rfl) rfl ?_
    refine tz_iload2 (n := 13) (g_at ck_X11_dayGoes 8 rfl) rfl ?_
    refine tz_cvI2 (n := 16) (μ' := μX11_isHome) (cb' := 0) (sb' := 0) ml_X11_345 mo_X11_isHome mv_X11_isHome np_X11_isHome kd_84 (g_at ck_X11_dayGoes 9 rfl) (mp_isHome hL hR1 hb (by omega)) rfl rfl rfl ⟨by decide, by decide⟩ (Nat.le_of_ble_eq_true rfl) (by decide) (by decide) (fun x13 ρ9 m13 hq => ?_)
    obtain ⟨rfl, hR2, rfl, rfl⟩ := hq
    rw [r1, r5]
    refine tz_if_ne (n := 19) (tgt := 43) (g_at ck_X11_dayGoes 10 rfl) rfl rfl (by omega) (fun h16 => ?_) (fun h16 => ?_)
    · skip
      refine tz_iinc2 (n := 46) (g_at ck_X11_dayGoes 27 rfl) rfl (by decide) g_hpI ?_
      refine tz_goto (tgt := 2) (g_at ck_X11_dayGoes 28 rfl) rfl ?_
      have e9 : dayN Λ hl tl w σ (i + 1) = (dayN Λ hl tl w σ i) := perP_home (hmB_1 h16)
      exact ihi _ ⟨hR2, by rw [e9]; exact hT1, hD1⟩
    · skip
      refine tz_aload0 (n := 20) (g_at ck_X11_dayGoes 11 rfl) rfl (g_ne kd_84) ?_
      refine tz_getAv (n := 23) (a := 87) fk_X11_23 kd_84 (ly_84_7 hL) (g_at ck_X11_dayGoes 12 rfl) rfl ?_
      refine tz_aload0 (n := 24) (g_at ck_X11_dayGoes 13 rfl) rfl (g_ne kd_84) ?_
      refine tz_getAv (n := 27) (a := 103) fk_X11_75 kd_84 (ly_84_43 hL) (g_at ck_X11_dayGoes 14 rfl) rfl ?_
      refine tz_iload1 (n := 28) (g_at ck_X11_dayGoes 15 rfl) rfl ?_
      refine tz_iconst (n := 29) (g_at ck_X11_dayGoes 16 rfl) rfl ?_
      refine tz_iadd (n := 30) (g_at ck_X11_dayGoes 17 rfl) rfl ?_
      refine tz_iload2 (n := 31) (g_at ck_X11_dayGoes 18 rfl) rfl ?_
      refine tz_iadd (n := 32) (g_at ck_X11_dayGoes 19 rfl) rfl ?_
      refine tz_iald (n := 33) kd_103 (by omega) (g_at ck_X11_dayGoes 20 rfl) rfl ?_
      rw [r1]
      refine tz_iald (n := 34) kd_87 (by omega) (g_at ck_X11_dayGoes 21 rfl) rfl ?_
      rw [r87]
      refine tz_if_le (n := 37) (tgt := 43) (g_at ck_X11_dayGoes 22 rfl) rfl rfl (by omega) (fun h34 => ?_) (fun h34 => ?_)
      · skip
        refine tz_iinc2 (n := 46) (g_at ck_X11_dayGoes 27 rfl) rfl (by decide) g_hpI ?_
        refine tz_goto (tgt := 2) (g_at ck_X11_dayGoes 28 rfl) rfl ?_
        have e9 : dayN Λ hl tl w σ (i + 1) = (dayN Λ hl tl w σ i) := perP_none h34
        exact ihi _ ⟨hR2, by rw [e9]; exact hT1, hD1⟩
      · skip
        refine tz_aload0 (n := 38) (g_at ck_X11_dayGoes 23 rfl) rfl (g_ne kd_84) ?_
        refine tz_iload1 (n := 39) (g_at ck_X11_dayGoes 24 rfl) rfl ?_
        refine tz_iload2 (n := 40) (g_at ck_X11_dayGoes 25 rfl) rfl ?_
        refine tz_cvV2 (n := 43) (μ' := μX11_personGoes) (cb' := 0) (sb' := 0) ml_X11_349 mo_X11_personGoes mv_X11_personGoes np_X11_personGoes kd_84 (g_at ck_X11_dayGoes 26 rfl) (mp_personGoes hL hR2 hW hM1 hT1 hσ1 (by omega) hb (hw_fr hw hD1) (by omega) (by omega)) rfl rfl rfl ⟨by decide, by decide⟩ (Nat.le_of_ble_eq_true rfl) (by decide) (by decide) (fun ρ9 m40 hq => ?_)
        obtain ⟨rfl, hR3, hT40, hD40⟩ := hq
        refine tz_iinc2 (n := 46) (g_at ck_X11_dayGoes 27 rfl) rfl (by decide) g_hpI ?_
        refine tz_goto (tgt := 2) (g_at ck_X11_dayGoes 28 rfl) rfl ?_
        have e9 : dayN Λ hl tl w σ (i + 1) = takP Λ hl tl w (i : Int) (dayN Λ hl tl w σ i) := perP_tak (hmB_0 h16) h34
        exact ihi _ ⟨hR3, by rw [e9]; exact hT40, hD1.tr hD40⟩
def daysPw (Λ : Mm) (hl tl : List Int) (w : Int) (σ : Mm) (n : Nat) : Mm := fd (fun _ s => dayP Λ hl tl w s) σ n
theorem daysPw_1 {Λ σ : Mm} {hl tl : List Int} {n : Nat} : daysPw Λ hl tl 1 σ n = daysP Λ hl tl σ n := rfl
theorem daysPw_WS {Λ σ : Mm} {b w : Int} {hl tl : List Int} (hW : WL Λ) (h : WS Λ b σ) (hb : 0 ≤ b) : ∀ n : Nat, WS Λ (b + 9 * n) (daysPw Λ hl tl w σ n)
  | 0 => by
    show WS Λ (b + 9 * 0) σ
    rw [Int.mul_zero, Int.add_zero]
    exact h
  | n + 1 => (dayP_WS (w := w) hW (daysPw_WS hW h hb n) (by omega)).up (by omega)
/-- how far tries has come -/
def TR4 (m m1 : Mm) (a b c d : Int) : Prop := FD 35 m m1 ∧ (∀ k, 0 ≤ k → k < a → m1 103 (35 + k) = m 103 k) ∧ (∀ j, 0 ≤ j → j < b → m1 105 j = 0) ∧ (∀ j, 0 ≤ j → j < c → m1 106 j = 0) ∧ ∀ j, 0 ≤ j → j < d → m1 107 j = 0
theorem TR4.s1 {m m1 : Mm} {i : Nat} (h : TR4 m m1 i 0 0 0) (hi : i < 35) : TR4 m (wr m1 103 (35 + (i : Int)) (m1 103 (i : Int))) ((i + 1 : Nat) : Int) 0 0 0 := by
  refine ⟨h.1.wr (by decide) fun _ => by omega, fun k h1 h2 => ?_, fun j h1 h2 => absurd h2 (by omega), fun j h1 h2 => absurd h2 (by omega), fun j h1 h2 => absurd h2 (by omega)⟩
  rw [wr_at]
  by_cases e : k = (i : Int)
  · rw [if_pos (by omega), e]
    exact h.1.2 _ (Or.inl (by omega))
  · rw [if_neg (by omega)]
    exact h.2.1 k h1 (by omega)
theorem TR4.s2 {m m1 : Mm} {i : Nat} (h : TR4 m m1 35 i 0 0) : TR4 m (wr m1 105 (i : Int) 0) 35 ((i + 1 : Nat) : Int) 0 0 := by
  refine ⟨h.1.wr (by decide) fun h9 => absurd h9 (by decide), fun k h1 h2 => by rw [wr_ne (by decide)]; exact h.2.1 k h1 h2, fun j h1 h2 => ?_, fun j h1 h2 => absurd h2 (by omega), fun j h1 h2 => absurd h2 (by omega)⟩
  rw [wr_at]
  split
  · rfl
  · exact h.2.2.1 j h1 (by omega)
theorem TR4.s3 {m m1 : Mm} {i : Nat} (h : TR4 m m1 35 45 i 0) : TR4 m (wr m1 106 (i : Int) 0) 35 45 ((i + 1 : Nat) : Int) 0 := by
  refine ⟨h.1.wr (by decide) fun h9 => absurd h9 (by decide), fun k h1 h2 => by rw [wr_ne (by decide)]; exact h.2.1 k h1 h2, fun k h1 h2 => by rw [wr_ne (by decide)]; exact h.2.2.1 k h1 h2, fun j h1 h2 => ?_, fun j h1 h2 => absurd h2 (by omega)⟩
  rw [wr_at]
  split
  · rfl
  · exact h.2.2.2.1 j h1 (by omega)
theorem TR4.s4 {m m1 : Mm} {i : Nat} (h : TR4 m m1 35 45 9 i) : TR4 m (wr m1 107 (i : Int) 0) 35 45 9 ((i + 1 : Nat) : Int) := by
  refine ⟨h.1.wr (by decide) fun h9 => absurd h9 (by decide), fun k h1 h2 => by rw [wr_ne (by decide)]; exact h.2.1 k h1 h2, fun k h1 h2 => by rw [wr_ne (by decide)]; exact h.2.2.1 k h1 h2, fun k h1 h2 => by rw [wr_ne (by decide)]; exact h.2.2.2.1 k h1 h2, fun j h1 h2 => ?_⟩
  rw [wr_at]
  split
  · rfl
  · exact h.2.2.2.2 j h1 (by omega)
def z00 : Mm := fun _ _ => 0
def MRow (m : Mm) (s : Int → Int) : Prop := ∀ k, 0 ≤ k → k < 35 → m 103 k = s k
theorem tkR_0 {Λ : Mm} {s : Int → Int} {c a : Int} : ∀ n : Nat, tkR Λ (sig0 s) c a 0 n = 0
  | 0 => rfl
  | n + 1 => by
    show (if Λ 4 (a * 5 + (n : Int)) = c then tkR Λ (sig0 s) c a 0 n + 0 else tkR Λ (sig0 s) c a 0 n) = 0
    rw [tkR_0 n]
    split <;> rfl
theorem tkN_0 {Λ : Mm} {s : Int → Int} {c : Int} : ∀ n : Nat, tkN Λ (sig0 s) c n = 0
  | 0 => rfl
  | n + 1 => by
    show tkR Λ (sig0 s) c (n : Int) (tkN Λ (sig0 s) c n) (Λ 3 (n : Int)).toNat = 0
    rw [tkN_0 n, tkR_0]
theorem TR4.mt {m m1 Λ : Mm} {s : Int → Int} (h : TR4 m m1 35 45 9 8) (hs : MRow m s) : MT m1 35 Λ z00 (sig0 s) := by
  refine ⟨fun k h1 h2 => (h.2.1 k h1 h2).trans (hs k h1 h2), fun p h1 h2 => (h.2.2.2.2 p h1 h2).trans rfl, fun p h1 h2 => (h.2.2.1 p h1 h2).trans rfl, fun p h1 h2 => ?_⟩
  rw [h.2.2.2.1 p h1 h2, tkN_0, Int.zero_mul]
  rfl
theorem mp_daysGo {l : Launch} {γ : Gh} {ρ m : Mm} {n w B : Int} {Λ e σ : Mm} {hl tl : List Int} (hL : LY ρ) (hR : MR m) (hW : WL Λ) (hM : MLand m Λ hl tl) (hT : MT m 35 Λ e σ) (hσ : WS Λ B σ) (hB : 0 ≤ B ∧ B < 2000) (hw : (m 84 51 = 0 → w ≠ 0) ∧ (m 84 51 ≠ 0 → w = 0)) (hk : 0 ≤ n ∧ n ≤ 9999) : gE l γ μX11_daysGo 4 0 0 (rV KK fun ρ9 m9 => ρ = ρ9 ∧ MR m9 ∧ MT m9 35 Λ e (daysPw Λ hl tl w σ n.toNat) ∧ FD 35 m m9) xN KK ρ m [vR 84, vI n] := by
  refine gE.ofw cl_X11.2 ?_ rfl rfl (Nat.le_of_ble_eq_true rfl)
  show gT l γ μX11_daysGo 4 0 0 _ _ KK ρ m 0 [some (vR 84), some (vI n), none] []
  refine tz_iconst (n := 1) (g_at ck_X11_daysGo 0 rfl) rfl ?_
  refine tz_istore2 (n := 2) (g_at ck_X11_daysGo 1 rfl) rfl (by decide) g_hpI ?_
  refine g_for (fun i : Nat => ∀ m1 : Mm, (MR m1 ∧ MT m1 35 Λ e (daysPw Λ hl tl w σ i) ∧ FD 35 m m1) → gT l γ μX11_daysGo 4 0 0 _ _ KK ρ m1 2 [some (vR 84), some (vI n), some (vI (i : Int))] []) n.toNat ?_ (fun i hi ihi => ?_) 0 (Nat.zero_le _) _ ⟨hR, hT, FD.rf⟩
  · intro m1 hinv
    obtain ⟨hR1, hT1, hD1⟩ := hinv
    refine tz_iload2 (n := 3) (g_at ck_X11_daysGo 2 rfl) rfl ?_
    refine tz_iload1 (n := 4) (g_at ck_X11_daysGo 3 rfl) rfl ?_
    refine tz_icmp_ge (n := 7) (tgt := 19) (g_at ck_X11_daysGo 4 rfl) rfl rfl (by omega) (fun h4 => ?_) (fun h4 => absurd h4 (by omega))
    exact tz_vret (g_at ck_X11_daysGo 10 rfl) rfl (rV_mk ⟨rfl, hR1, hT1, hD1⟩)
  · intro m1 hinv
    obtain ⟨hR1, hT1, hD1⟩ := hinv
    have hσ1 := daysPw_WS (hl := hl) (tl := tl) (w := w) hW hσ hB.1 i
    refine tz_iload2 (n := 3) (g_at ck_X11_daysGo 2 rfl) rfl ?_
    refine tz_iload1 (n := 4) (g_at ck_X11_daysGo 3 rfl) rfl ?_
    refine tz_icmp_ge (n := 7) (tgt := 19) (g_at ck_X11_daysGo 4 rfl) rfl rfl (by omega) (fun h4 => absurd h4 (by omega)) (fun h4 => ?_)
    refine tz_aload0 (n := 8) (g_at ck_X11_daysGo 5 rfl) rfl (g_ne kd_84) ?_
    refine tz_bipush (n := 10) (g_at ck_X11_daysGo 6 rfl) rfl rfl ?_
    refine tz_cvV1 (n := 13) (μ' := μX11_dayGoes) (cb' := 0) (sb' := 0) ml_X11_353 mo_X11_dayGoes mv_X11_dayGoes np_X11_dayGoes kd_84 (g_at ck_X11_daysGo 7 rfl) (mp_dayGoes hL hR1 hW (hM.fr hD1.1 mDay_91) hT1 hσ1 (by omega) (Or.inr rfl) (hw_fr hw hD1)) rfl rfl rfl ⟨by decide, by decide⟩ (Nat.le_of_ble_eq_true rfl) (by decide) (by decide) (fun ρ9 m10 hq => ?_)
    obtain ⟨rfl, hR1, hT10, hD10⟩ := hq
    refine tz_iinc2 (n := 16) (g_at ck_X11_daysGo 8 rfl) rfl (by decide) g_hpI ?_
    refine tz_goto (tgt := 2) (g_at ck_X11_daysGo 9 rfl) rfl ?_
    exact ihi _ ⟨hR1, hT10, hD1.tr hD10⟩
theorem mp_tries {l : Launch} {γ : Gh} {ρ m : Mm} {s : Int → Int} {Λ : Mm} (hL : LY ρ) (hR : MR m) (hs : MRow m s) : gE l γ μX11_tries 0 0 0 (rV KK fun ρ9 m9 => ρ = ρ9 ∧ MR m9 ∧ MT m9 35 Λ z00 (sig0 s) ∧ FD 35 m m9) xN KK ρ m [vR 84] := by
  refine gE.ofw cl_X11.2 ?_ rfl rfl (Nat.le_of_ble_eq_true rfl)
  show gT l γ μX11_tries 0 0 0 _ _ KK ρ m 0 [some (vR 84), none] []
  refine tz_iconst (n := 1) (g_at ck_X11_tries 0 rfl) rfl ?_
  refine tz_istore1 (n := 2) (g_at ck_X11_tries 1 rfl) rfl (by decide) g_hpR ?_
  refine g_for (fun i : Nat => ∀ m1 : Mm, (MR m1 ∧ TR4 m m1 i 0 0 0) → gT l γ μX11_tries 0 0 0 _ _ KK ρ m1 2 [some (vR 84), some (vI (i : Int))] []) 35 ?_ (fun i hi ihi => ?_) 0 (Nat.zero_le _) _ ⟨hR, FD.rf, fun _ h1 h2 => absurd h2 (by omega), fun _ h1 h2 => absurd h2 (by omega), fun _ h1 h2 => absurd h2 (by omega), fun _ h1 h2 => absurd h2 (by omega)⟩
  · intro m1 hinv
    obtain ⟨hR1, h1⟩ := hinv
    refine tz_iload1 (n := 3) (g_at ck_X11_tries 2 rfl) rfl ?_
    refine tz_bipush (n := 5) (g_at ck_X11_tries 3 rfl) rfl rfl ?_
    refine tz_icmp_ge (n := 8) (tgt := 29) (g_at ck_X11_tries 4 rfl) rfl rfl ⟨(by omega), (by omega), (by decide), (by decide)⟩ (fun h5 => ?_) (fun h5 => absurd h5 (by omega))
    refine tz_iconst (n := 30) (g_at ck_X11_tries 17 rfl) rfl ?_
    refine tz_istore1 (n := 31) (g_at ck_X11_tries 18 rfl) rfl (by decide) g_hpR ?_
    refine g_for (fun i : Nat => ∀ m2 : Mm, (MR m2 ∧ TR4 m m2 35 i 0 0) → gT l γ μX11_tries 0 0 0 _ _ KK ρ m2 31 [some (vR 84), some (vI (i : Int))] []) 45 ?_ (fun i hi ihi => ?_) 0 (Nat.zero_le _) _ ⟨hR1, h1⟩
    · intro m2 hinv
      obtain ⟨hR2, h2⟩ := hinv
      refine tz_iload1 (n := 32) (g_at ck_X11_tries 19 rfl) rfl ?_
      refine tz_bipush (n := 34) (g_at ck_X11_tries 20 rfl) rfl rfl ?_
      refine tz_icmp_ge (n := 37) (tgt := 50) (g_at ck_X11_tries 21 rfl) rfl rfl ⟨(by omega), (by omega), (by decide), (by decide)⟩ (fun h34 => ?_) (fun h34 => absurd h34 (by omega))
      refine tz_iconst (n := 51) (g_at ck_X11_tries 29 rfl) rfl ?_
      refine tz_istore1 (n := 52) (g_at ck_X11_tries 30 rfl) rfl (by decide) g_hpR ?_
      refine g_for (fun i : Nat => ∀ m3 : Mm, (MR m3 ∧ TR4 m m3 35 45 i 0) → gT l γ μX11_tries 0 0 0 _ _ KK ρ m3 52 [some (vR 84), some (vI (i : Int))] []) 9 ?_ (fun i hi ihi => ?_) 0 (Nat.zero_le _) _ ⟨hR2, h2⟩
      · intro m3 hinv
        obtain ⟨hR3, h3⟩ := hinv
        refine tz_iload1 (n := 53) (g_at ck_X11_tries 31 rfl) rfl ?_
        refine tz_bipush (n := 55) (g_at ck_X11_tries 32 rfl) rfl rfl ?_
        refine tz_icmp_ge (n := 58) (tgt := 71) (g_at ck_X11_tries 33 rfl) rfl rfl ⟨(by omega), (by omega), (by decide), (by decide)⟩ (fun h55 => ?_) (fun h55 => absurd h55 (by omega))
        refine tz_iconst (n := 72) (g_at ck_X11_tries 41 rfl) rfl ?_
        refine tz_istore1 (n := 73) (g_at ck_X11_tries 42 rfl) rfl (by decide) g_hpR ?_
        refine g_for (fun i : Nat => ∀ m4 : Mm, (MR m4 ∧ TR4 m m4 35 45 9 i) → gT l γ μX11_tries 0 0 0 _ _ KK ρ m4 73 [some (vR 84), some (vI (i : Int))] []) 8 ?_ (fun i hi ihi => ?_) 0 (Nat.zero_le _) _ ⟨hR3, h3⟩
        · intro m4 hinv
          obtain ⟨hR4, h4⟩ := hinv
          refine tz_iload1 (n := 74) (g_at ck_X11_tries 43 rfl) rfl ?_
          refine tz_bipush (n := 76) (g_at ck_X11_tries 44 rfl) rfl rfl ?_
          refine tz_icmp_ge (n := 79) (tgt := 92) (g_at ck_X11_tries 45 rfl) rfl rfl ⟨(by omega), (by omega), (by decide), (by decide)⟩ (fun h76 => ?_) (fun h76 => absurd h76 (by omega))
          exact tz_vret (g_at ck_X11_tries 53 rfl) rfl (rV_mk ⟨rfl, hR4, h4.mt hs, h4.1⟩)
        · intro m4 hinv
          obtain ⟨hR4, h4⟩ := hinv
          refine tz_iload1 (n := 74) (g_at ck_X11_tries 43 rfl) rfl ?_
          refine tz_bipush (n := 76) (g_at ck_X11_tries 44 rfl) rfl rfl ?_
          refine tz_icmp_ge (n := 79) (tgt := 92) (g_at ck_X11_tries 45 rfl) rfl rfl ⟨(by omega), (by omega), (by decide), (by decide)⟩ (fun h76 => absurd h76 (by omega)) (fun h76 => ?_)
          refine tz_aload0 (n := 80) (g_at ck_X11_tries 46 rfl) rfl (g_ne kd_84) ?_
          refine tz_getAv (n := 83) (a := 107) fk_X11_87 kd_84 (ly_84_48 hL) (g_at ck_X11_tries 47 rfl) rfl ?_
          refine tz_iload1 (n := 84) (g_at ck_X11_tries 48 rfl) rfl ?_
          refine tz_iconst (n := 85) (g_at ck_X11_tries 49 rfl) rfl ?_
          refine tz_iastr (n := 86) kd_107 (by omega) (g_at ck_X11_tries 50 rfl) rfl hR4 ⟨(by decide), (by decide)⟩ (fun hR1 => ?_)
          refine tz_iinc1 (n := 89) (g_at ck_X11_tries 51 rfl) rfl (by decide) g_hpR ?_
          refine tz_goto (tgt := 73) (g_at ck_X11_tries 52 rfl) rfl ?_
          exact ihi _ ⟨hR1, h4.s4⟩
      · intro m3 hinv
        obtain ⟨hR3, h3⟩ := hinv
        refine tz_iload1 (n := 53) (g_at ck_X11_tries 31 rfl) rfl ?_
        refine tz_bipush (n := 55) (g_at ck_X11_tries 32 rfl) rfl rfl ?_
        refine tz_icmp_ge (n := 58) (tgt := 71) (g_at ck_X11_tries 33 rfl) rfl rfl ⟨(by omega), (by omega), (by decide), (by decide)⟩ (fun h55 => absurd h55 (by omega)) (fun h55 => ?_)
        refine tz_aload0 (n := 59) (g_at ck_X11_tries 34 rfl) rfl (g_ne kd_84) ?_
        refine tz_getAv (n := 62) (a := 106) fk_X11_84 kd_84 (ly_84_47 hL) (g_at ck_X11_tries 35 rfl) rfl ?_
        refine tz_iload1 (n := 63) (g_at ck_X11_tries 36 rfl) rfl ?_
        refine tz_iconst (n := 64) (g_at ck_X11_tries 37 rfl) rfl ?_
        refine tz_iastr (n := 65) kd_106 (by omega) (g_at ck_X11_tries 38 rfl) rfl hR3 ⟨(by decide), (by decide)⟩ (fun hR2 => ?_)
        refine tz_iinc1 (n := 68) (g_at ck_X11_tries 39 rfl) rfl (by decide) g_hpR ?_
        refine tz_goto (tgt := 52) (g_at ck_X11_tries 40 rfl) rfl ?_
        exact ihi _ ⟨hR2, h3.s3⟩
    · intro m2 hinv
      obtain ⟨hR2, h2⟩ := hinv
      refine tz_iload1 (n := 32) (g_at ck_X11_tries 19 rfl) rfl ?_
      refine tz_bipush (n := 34) (g_at ck_X11_tries 20 rfl) rfl rfl ?_
      refine tz_icmp_ge (n := 37) (tgt := 50) (g_at ck_X11_tries 21 rfl) rfl rfl ⟨(by omega), (by omega), (by decide), (by decide)⟩ (fun h34 => absurd h34 (by omega)) (fun h34 => ?_)
      refine tz_aload0 (n := 38) (g_at ck_X11_tries 22 rfl) rfl (g_ne kd_84) ?_
      refine tz_getAv (n := 41) (a := 105) fk_X11_81 kd_84 (ly_84_46 hL) (g_at ck_X11_tries 23 rfl) rfl ?_
      refine tz_iload1 (n := 42) (g_at ck_X11_tries 24 rfl) rfl ?_
      refine tz_iconst (n := 43) (g_at ck_X11_tries 25 rfl) rfl ?_
      refine tz_iastr (n := 44) kd_105 (by omega) (g_at ck_X11_tries 26 rfl) rfl hR2 ⟨(by decide), (by decide)⟩ (fun hR3 => ?_)
      refine tz_iinc1 (n := 47) (g_at ck_X11_tries 27 rfl) rfl (by decide) g_hpR ?_
      refine tz_goto (tgt := 31) (g_at ck_X11_tries 28 rfl) rfl ?_
      exact ihi _ ⟨hR3, h2.s2⟩
  · intro m1 hinv
    obtain ⟨hR1, h1⟩ := hinv
    refine tz_iload1 (n := 3) (g_at ck_X11_tries 2 rfl) rfl ?_
    refine tz_bipush (n := 5) (g_at ck_X11_tries 3 rfl) rfl rfl ?_
    refine tz_icmp_ge (n := 8) (tgt := 29) (g_at ck_X11_tries 4 rfl) rfl rfl ⟨(by omega), (by omega), (by decide), (by decide)⟩ (fun h5 => absurd h5 (by omega)) (fun h5 => ?_)
    refine tz_aload0 (n := 9) (g_at ck_X11_tries 5 rfl) rfl (g_ne kd_84) ?_
    refine tz_getAv (n := 12) (a := 103) fk_X11_75 kd_84 (ly_84_43 hL) (g_at ck_X11_tries 6 rfl) rfl ?_
    refine tz_bipush (n := 14) (g_at ck_X11_tries 7 rfl) rfl rfl ?_
    refine tz_iload1 (n := 15) (g_at ck_X11_tries 8 rfl) rfl ?_
    refine tz_iadd (n := 16) (g_at ck_X11_tries 9 rfl) rfl ?_
    refine tz_aload0 (n := 17) (g_at ck_X11_tries 10 rfl) rfl (g_ne kd_84) ?_
    refine tz_getAv (n := 20) (a := 103) fk_X11_75 kd_84 (ly_84_43 hL) (g_at ck_X11_tries 11 rfl) rfl ?_
    refine tz_iload1 (n := 21) (g_at ck_X11_tries 12 rfl) rfl ?_
    refine tz_iald (n := 22) kd_103 (by omega) (g_at ck_X11_tries 13 rfl) rfl ?_
    refine tz_iastr (n := 23) kd_103 (by omega) (g_at ck_X11_tries 14 rfl) rfl hR1 ⟨(hR1 _ _).1, (hR1 _ _).2⟩ (fun hR4 => ?_)
    refine tz_iinc1 (n := 26) (g_at ck_X11_tries 15 rfl) rfl (by decide) g_hpR ?_
    refine tz_goto (tgt := 2) (g_at ck_X11_tries 16 rfl) rfl ?_
    exact ihi _ ⟨hR4, h1.s1 (by omega)⟩
theorem mp_goesTo {l : Launch} {γ : Gh} {ρ m : Mm} {n : Int} {w : Int} {s : Int → Int} {Λ : Mm} {hl tl : List Int} (hL : LY ρ) (hR : MR m) (hW : WL Λ) (hM : MLand m Λ hl tl) (hs : MRow m s) (hσ : WS Λ 0 (sig0 s)) (hw : (m 84 51 = 0 → w ≠ 0) ∧ (m 84 51 ≠ 0 → w = 0)) (hk : 0 ≤ n ∧ n ≤ 9999) : gE l γ μX11_goesTo 5 0 0 (rV KK fun ρ9 m9 => ρ = ρ9 ∧ MR m9 ∧ MT m9 35 Λ z00 (daysPw Λ hl tl w (sig0 s) n.toNat) ∧ FD 35 m m9) xN KK ρ m [vR 84, vI n] := by
  refine gE.ofw cl_X11.2 ?_ rfl rfl (Nat.le_of_ble_eq_true rfl)
  show gT l γ μX11_goesTo 5 0 0 _ _ KK ρ m 0 [some (vR 84), some (vI n)] []
  refine tz_aload0 (n := 1) (g_at ck_X11_goesTo 0 rfl) rfl (g_ne kd_84) ?_
  refine tz_cvV0 (n := 4) (μ' := μX11_tries) (cb' := 0) (sb' := 0) ml_X11_356 mo_X11_tries mv_X11_tries np_X11_tries kd_84 (g_at ck_X11_goesTo 1 rfl) (mp_tries (Λ := Λ) hL hR hs) rfl rfl rfl ⟨by decide, by decide⟩ (Nat.le_of_ble_eq_true rfl) (by decide) (by decide) (fun ρ9 m1 hq => ?_)
  obtain ⟨rfl, hR1, hT1, hD1⟩ := hq
  refine tz_aload0 (n := 5) (g_at ck_X11_goesTo 2 rfl) rfl (g_ne kd_84) ?_
  refine tz_iload1 (n := 6) (g_at ck_X11_goesTo 3 rfl) rfl ?_
  refine tz_cvV1 (n := 9) (μ' := μX11_daysGo) (cb' := 0) (sb' := 0) ml_X11_359 mo_X11_daysGo mv_X11_daysGo np_X11_daysGo kd_84 (g_at ck_X11_goesTo 4 rfl) (mp_daysGo hL hR1 hW (hM.fr hD1.1 mDay_91) hT1 hσ (by decide) (hw_fr hw hD1) hk) rfl rfl rfl ⟨by decide, by decide⟩ (Nat.le_of_ble_eq_true rfl) (by decide) (by decide) (fun ρ9 m6 hq => ?_)
  obtain ⟨rfl, hR2, hT6, hD6⟩ := hq
  exact tz_vret (g_at ck_X11_goesTo 5 rfl) rfl (rV_mk ⟨rfl, hR2, hT6, hD1.tr hD6⟩)
theorem bitsH_8 {f g : Int → Int} : ∀ {n : Nat}, n ≤ 8 → ∃ v : Nat, v < 2 ^ n ∧ bitsH f g n = (v : Int)
  | 0, _ => ⟨0, by decide, rfl⟩
  | n + 1, h => by
    obtain ⟨v, hv, e⟩ := bitsH_8 (f := f) (g := g) (n := n) (by omega)
    have p8 : 2 ^ n ≤ 2 ^ 8 := Nat.pow_le_pow_right (by decide) (by omega)
    have h9 : bitsH f g (n + 1) = if f (n : Int) = g (n : Int) then bOr (bitsH f g n) (bShl 1 (n : Int)) else bitsH f g n := rfl
    rw [h9, e]
    split
    · refine ⟨v ||| 2 ^ n, Nat.or_lt_two_pow (by rw [Nat.pow_succ]; omega) (by rw [Nat.pow_succ]; omega), ?_⟩
      rw [bShl_1 n (by omega), bOr_nn (by omega) (by omega)]
    · exact ⟨v, by rw [Nat.pow_succ]; omega, rfl⟩
theorem bOr_H {f g : Int → Int} {n : Nat} (h : n ≤ 8) : bOr (bitsH f g n) 0 = bitsH f g n := by
  obtain ⟨v, hv, e⟩ := bitsH_8 (f := f) (g := g) h
  have p8 : 2 ^ n ≤ 2 ^ 8 := Nat.pow_le_pow_right (by decide) h
  rw [e, bOr_0 (by omega)]
def pursM (m : Mm) (b : Int) (n : Nat) : Int := fd (fun p v => v + m 103 (b + 9 + (p : Int))) 0 n
theorem mp_homeOnes {l : Launch} {γ : Gh} {ρ m : Mm} {b : Int} (hL : LY ρ) (hR : MR m) (hn : 0 ≤ m 84 2 ∧ m 84 2 ≤ 8) (hb : b = 0 ∨ b = 35) : gE l γ μX11_homeOnes 1 0 0 (rI KK fun x ρ9 m9 => ρ = ρ9 ∧ MR m9 ∧ bitsH (fun p => m 103 (b + 1 + p)) (m 89) (m 84 2).toNat = x ∧ m = m9) xN KK ρ m [vR 84, vI b] := by
  refine gE.ofw cl_X11.2 ?_ rfl rfl (Nat.le_of_ble_eq_true rfl)
  show gT l γ μX11_homeOnes 1 0 0 _ _ KK ρ m 0 [some (vR 84), some (vI b), none, none] []
  refine tz_iconst (n := 1) (g_at ck_X11_homeOnes 0 rfl) rfl ?_
  refine tz_istore2 (n := 2) (g_at ck_X11_homeOnes 1 rfl) rfl (by decide) g_hpI ?_
  refine tz_iconst (n := 3) (g_at ck_X11_homeOnes 2 rfl) rfl ?_
  refine tz_istore3 (n := 4) (g_at ck_X11_homeOnes 3 rfl) rfl (by decide) g_hpI ?_
  refine g_for (fun i : Nat => gT l γ μX11_homeOnes 1 0 0 _ _ KK ρ m 4 [some (vR 84), some (vI b), some (vI (bitsH (fun p => m 103 (b + 1 + p)) (m 89) i)), some (vI (i : Int))] []) (m 84 2).toNat ?_ (fun i hi ihi => ?_) 0 (Nat.zero_le _)
  · skip
    refine tz_iload3 (n := 5) (g_at ck_X11_homeOnes 4 rfl) rfl ?_
    refine tz_aload0 (n := 6) (g_at ck_X11_homeOnes 5 rfl) rfl (g_ne kd_84) ?_
    refine tz_getIw (n := 9) (kz := 2) fk_X11_305 kd_84 (g_at ck_X11_homeOnes 6 rfl) rfl rfl ?_
    refine tz_icmp_ge (n := 12) (tgt := 37) (g_at ck_X11_homeOnes 7 rfl) rfl rfl (by omega) (fun h9 => ?_) (fun h9 => absurd h9 (by omega))
    refine tz_iload2 (n := 38) (g_at ck_X11_homeOnes 23 rfl) rfl ?_
    exact tz_iret (g_at ck_X11_homeOnes 24 rfl) rfl (rI_mk ⟨rfl, hR, rfl, rfl⟩)
  · skip
    refine tz_iload3 (n := 5) (g_at ck_X11_homeOnes 4 rfl) rfl ?_
    refine tz_aload0 (n := 6) (g_at ck_X11_homeOnes 5 rfl) rfl (g_ne kd_84) ?_
    refine tz_getIw (n := 9) (kz := 2) fk_X11_305 kd_84 (g_at ck_X11_homeOnes 6 rfl) rfl rfl ?_
    refine tz_icmp_ge (n := 12) (tgt := 37) (g_at ck_X11_homeOnes 7 rfl) rfl rfl (by omega) (fun h9 => absurd h9 (by omega)) (fun h9 => ?_)
    refine tz_iload2 (n := 13) (g_at ck_X11_homeOnes 8 rfl) rfl ?_
    refine tz_aload0 (n := 14) (g_at ck_X11_homeOnes 9 rfl) rfl (g_ne kd_84) ?_
    refine tz_iload1 (n := 15) (g_at ck_X11_homeOnes 10 rfl) rfl ?_
    refine tz_iload3 (n := 16) (g_at ck_X11_homeOnes 11 rfl) rfl ?_
    refine tz_cvI2 (n := 19) (μ' := μX11_isHome) (cb' := 0) (sb' := 0) ml_X11_345 mo_X11_isHome mv_X11_isHome np_X11_isHome kd_84 (g_at ck_X11_homeOnes 12 rfl) (mp_isHome hL hR hb (by omega)) rfl rfl rfl ⟨by decide, by decide⟩ (Nat.le_of_ble_eq_true rfl) (by decide) (by decide) (fun x16 ρ9 m16 hq => ?_)
    obtain ⟨rfl, hR1, rfl, rfl⟩ := hq
    have h01 := hmB_01 (m 103 (b + 1 + (i : Int))) (m 89 (i : Int))
    refine tz_if_eq (n := 22) (tgt := 28) (g_at ck_X11_homeOnes 13 rfl) rfl rfl (by omega) (fun h19 => ?_) (fun h19 => ?_)
    · skip
      refine tz_iconst (n := 29) (g_at ck_X11_homeOnes 18 rfl) rfl ?_
      refine tz_ior (n := 30) (g_at ck_X11_homeOnes 19 rfl) rfl ?_
      refine tz_istore2 (n := 31) (g_at ck_X11_homeOnes 20 rfl) rfl (by decide) g_hpI ?_
      refine tz_iinc3 (n := 34) (g_at ck_X11_homeOnes 21 rfl) rfl (by decide) g_hpI ?_
      refine tz_goto (tgt := 4) (g_at ck_X11_homeOnes 22 rfl) rfl ?_
      have e9 : bitsH (fun p => m 103 (b + 1 + p)) (m 89) (i + 1) = (bitsH (fun p => m 103 (b + 1 + p)) (m 89) i) := if_neg (hmB_0 h19)
      rw [bOr_H (by omega)]
      rw [e9] at ihi
      exact ihi
    · skip
      refine tz_iconst (n := 23) (g_at ck_X11_homeOnes 14 rfl) rfl ?_
      refine tz_iload3 (n := 24) (g_at ck_X11_homeOnes 15 rfl) rfl ?_
      refine tz_ishl (n := 25) (g_at ck_X11_homeOnes 16 rfl) rfl ?_
      refine tz_goto (tgt := 29) (g_at ck_X11_homeOnes 17 rfl) rfl ?_
      refine tz_ior (n := 30) (g_at ck_X11_homeOnes 19 rfl) rfl ?_
      refine tz_istore2 (n := 31) (g_at ck_X11_homeOnes 20 rfl) rfl (by decide) g_hpI ?_
      refine tz_iinc3 (n := 34) (g_at ck_X11_homeOnes 21 rfl) rfl (by decide) g_hpI ?_
      refine tz_goto (tgt := 4) (g_at ck_X11_homeOnes 22 rfl) rfl ?_
      have e9 : bitsH (fun p => m 103 (b + 1 + p)) (m 89) (i + 1) = bOr (bitsH (fun p => m 103 (b + 1 + p)) (m 89) i) (bShl 1 (i : Int)) := if_pos (hmB_1 h19)
      rw [e9] at ihi
      exact ihi
theorem pursM_rg {m : Mm} {b : Int} {N : Nat} (h : ∀ p : Nat, p < N → 0 ≤ m 103 (b + 9 + (p : Int)) ∧ m 103 (b + 9 + (p : Int)) ≤ 99) : ∀ {n : Nat}, n ≤ N → 0 ≤ pursM m b n ∧ pursM m b n ≤ 99 * n
  | 0, _ => ⟨Int.le_refl 0, Int.le_refl 0⟩
  | n + 1, hn => by
    have ih := pursM_rg h (n := n) (by omega)
    have := h n (by omega)
    show 0 ≤ pursM m b n + m 103 (b + 9 + (n : Int)) ∧ pursM m b n + m 103 (b + 9 + (n : Int)) ≤ _
    omega
theorem mp_purses {l : Launch} {γ : Gh} {ρ m : Mm} {b : Int} (hL : LY ρ) (hR : MR m) (hn : 0 ≤ m 84 2 ∧ m 84 2 ≤ 8) (hb : b = 0 ∨ b = 35) : gE l γ μX11_purses 0 0 0 (rI KK fun x ρ9 m9 => ρ = ρ9 ∧ MR m9 ∧ pursM m b (m 84 2).toNat = x ∧ m = m9) xN KK ρ m [vR 84, vI b] := by
  refine gE.ofw cl_X11.2 ?_ rfl rfl (Nat.le_of_ble_eq_true rfl)
  show gT l γ μX11_purses 0 0 0 _ _ KK ρ m 0 [some (vR 84), some (vI b), none, none] []
  refine tz_iconst (n := 1) (g_at ck_X11_purses 0 rfl) rfl ?_
  refine tz_istore2 (n := 2) (g_at ck_X11_purses 1 rfl) rfl (by decide) g_hpI ?_
  refine tz_iconst (n := 3) (g_at ck_X11_purses 2 rfl) rfl ?_
  refine tz_istore3 (n := 4) (g_at ck_X11_purses 3 rfl) rfl (by decide) g_hpI ?_
  refine g_for (fun i : Nat => gT l γ μX11_purses 0 0 0 _ _ KK ρ m 4 [some (vR 84), some (vI b), some (vI (pursM m b i)), some (vI (i : Int))] []) (m 84 2).toNat ?_ (fun i hi ihi => ?_) 0 (Nat.zero_le _)
  · skip
    refine tz_iload3 (n := 5) (g_at ck_X11_purses 4 rfl) rfl ?_
    refine tz_aload0 (n := 6) (g_at ck_X11_purses 5 rfl) rfl (g_ne kd_84) ?_
    refine tz_getIw (n := 9) (kz := 2) fk_X11_305 kd_84 (g_at ck_X11_purses 6 rfl) rfl rfl ?_
    refine tz_icmp_ge (n := 12) (tgt := 32) (g_at ck_X11_purses 7 rfl) rfl rfl (by omega) (fun h9 => ?_) (fun h9 => absurd h9 (by omega))
    refine tz_iload2 (n := 33) (g_at ck_X11_purses 21 rfl) rfl ?_
    exact tz_iret (g_at ck_X11_purses 22 rfl) rfl (rI_mk ⟨rfl, hR, rfl, rfl⟩)
  · skip
    refine tz_iload3 (n := 5) (g_at ck_X11_purses 4 rfl) rfl ?_
    refine tz_aload0 (n := 6) (g_at ck_X11_purses 5 rfl) rfl (g_ne kd_84) ?_
    refine tz_getIw (n := 9) (kz := 2) fk_X11_305 kd_84 (g_at ck_X11_purses 6 rfl) rfl rfl ?_
    refine tz_icmp_ge (n := 12) (tgt := 32) (g_at ck_X11_purses 7 rfl) rfl rfl (by omega) (fun h9 => absurd h9 (by omega)) (fun h9 => ?_)
    refine tz_iload2 (n := 13) (g_at ck_X11_purses 8 rfl) rfl ?_
    refine tz_aload0 (n := 14) (g_at ck_X11_purses 9 rfl) rfl (g_ne kd_84) ?_
    refine tz_getAv (n := 17) (a := 103) fk_X11_75 kd_84 (ly_84_43 hL) (g_at ck_X11_purses 10 rfl) rfl ?_
    refine tz_iload1 (n := 18) (g_at ck_X11_purses 11 rfl) rfl ?_
    refine tz_bipush (n := 20) (g_at ck_X11_purses 12 rfl) rfl rfl ?_
    refine tz_iadd (n := 21) (g_at ck_X11_purses 13 rfl) rfl ?_
    refine tz_iload3 (n := 22) (g_at ck_X11_purses 14 rfl) rfl ?_
    refine tz_iadd (n := 23) (g_at ck_X11_purses 15 rfl) rfl ?_
    refine tz_iald (n := 24) kd_103 (by omega) (g_at ck_X11_purses 16 rfl) rfl ?_
    refine tz_iadd (n := 25) (g_at ck_X11_purses 17 rfl) rfl ?_
    refine tz_istore2 (n := 26) (g_at ck_X11_purses 18 rfl) rfl (by decide) g_hpI ?_
    refine tz_iinc3 (n := 29) (g_at ck_X11_purses 19 rfl) rfl (by decide) g_hpI ?_
    refine tz_goto (tgt := 4) (g_at ck_X11_purses 20 rfl) rfl ?_
    exact ihi
