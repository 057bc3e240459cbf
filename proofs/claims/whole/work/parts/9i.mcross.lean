/-! The reference reads: how a line begins; crossings, roads. -/
noncomputable def bg9 (t : Int → Int) (n b a : Int) (s : PS) : PS := if b = 1 then fl9 t n 2 s else if a = 1 then fl9 t n 5 s else nx9 t n s
theorem nA_ok {t : Int → Int} {n k : Int} {s : PS} (g : s.1 = 1) (h : (nA9 t n k s).1 = 1) : nA9 t n k s = nx9 t n s ∧ tK t n (sP s) = 2 ∧ tV t n (sP s) ≤ k ∧ (nt9 t n k s).1 = 1 := by
  by_cases h1 : tK t n (sP s) = 2
  · by_cases h2 : 4 < tQ t n (sP s) - tA t n (sP s) ∨ k < tV t n (sP s)
    · rw [nA_2 g h1 h2] at h; exact absurd h fl_n
    · refine ⟨nA_k g h1 h2, h1, by omega, ?_⟩
      rw [nt_e g, if_pos h1, if_neg h2]
      exact g
  · rw [nA_1 g h1] at h; exact absurd h fl_n
theorem rC_e {t : Int → Int} {n : Int} {s : PS} {ν : Mm} (g : s.1 = 1) (h9 : ¬ 9 ≤ ν 0 0) : (rC9 t n s ν).1 = nA9 t n 1 (nA9 t n 9 (nx9 t n s)) ∧ ((rC9 t n s ν).1.1 = 1 → (rC9 t n s ν).2 = wr (wr (wr ν 1 (ν 0 0) (tV t n (sP (nx9 t n s)))) 2 (ν 0 0) (tV t n (sP (nx9 t n (nx9 t n s))))) 0 0 (ν 0 0 + 1)) := by
  have g1 : (nx9 t n s).1 = 1 := g
  unfold rC9
  rw [if_neg h9]
  by_cases h1 : (nt9 t n 9 (nx9 t n s)).1 = 1
  · have e1 : nA9 t n 9 (nx9 t n s) = nx9 t n (nx9 t n s) := (if_pos g1).trans (if_pos h1)
    have g2 : (nx9 t n (nx9 t n s)).1 = 1 := g
    rw [if_pos h1, e1]
    by_cases h2 : (nt9 t n 1 (nx9 t n (nx9 t n s))).1 = 1
    · rw [if_pos h2]
      exact ⟨((if_pos g2).trans (if_pos h2)).symm, fun _ => rfl⟩
    · rw [if_neg h2]
      exact ⟨((if_pos g2).trans (if_neg h2)).symm, fun h => absurd h h2⟩
  · have e1 : nA9 t n 9 (nx9 t n s) = nt9 t n 9 (nx9 t n s) := (if_pos g1).trans (if_neg h1)
    rw [if_neg h1, e1]
    exact ⟨(nA_b h1).symm, fun h => absurd h h1⟩
section
variable {t : Int → Int} {n : Int} {s : PS} {ν : Mm}
theorem rR_1 (h : ¬ (td9 t n (ν 0 0) (nx9 t n s)).1 = 1) : rR9 t n s ν = (td9 t n (ν 0 0) (nx9 t n s), ν) := if_neg h
theorem rR_2 (h : (td9 t n (ν 0 0) (nx9 t n s)).1 = 1) (h5 : 5 ≤ ν 3 (tV t n (sP (nx9 t n s)))) : rR9 t n s ν = (fl9 t n 4 (nx9 t n s), ν) := (if_pos h).trans (if_pos h5)
theorem rR_3 (h : (td9 t n (ν 0 0) (nx9 t n s)).1 = 1) (h5 : ¬ 5 ≤ ν 3 (tV t n (sP (nx9 t n s)))) (h2 : ¬ (td9 t n (ν 0 0) (nx9 t n (nx9 t n s))).1 = 1) : rR9 t n s ν = (td9 t n (ν 0 0) (nx9 t n (nx9 t n s)), ν) := (if_pos h).trans ((if_neg h5).trans (if_neg h2))
theorem rR_4 (h : (td9 t n (ν 0 0) (nx9 t n s)).1 = 1) (h5 : ¬ 5 ≤ ν 3 (tV t n (sP (nx9 t n s)))) (h2 : (td9 t n (ν 0 0) (nx9 t n (nx9 t n s))).1 = 1) (he : tV t n (sP (nx9 t n (nx9 t n s))) = tV t n (sP (nx9 t n s))) : rR9 t n s ν = (fl9 t n 4 (nx9 t n (nx9 t n s)), ν) := (if_pos h).trans ((if_neg h5).trans ((if_pos h2).trans (if_pos he)))
theorem rR_5 (h : (td9 t n (ν 0 0) (nx9 t n s)).1 = 1) (h5 : ¬ 5 ≤ ν 3 (tV t n (sP (nx9 t n s)))) (h2 : (td9 t n (ν 0 0) (nx9 t n (nx9 t n s))).1 = 1) (he : ¬ tV t n (sP (nx9 t n (nx9 t n s))) = tV t n (sP (nx9 t n s))) : rR9 t n s ν = (nx9 t n (nx9 t n (nx9 t n s)), wr (wr ν 4 (tV t n (sP (nx9 t n s)) * 5 + ν 3 (tV t n (sP (nx9 t n s)))) (tV t n (sP (nx9 t n (nx9 t n s))))) 3 (tV t n (sP (nx9 t n s))) (ν 3 (tV t n (sP (nx9 t n s))) + 1)) := (if_pos h).trans ((if_neg h5).trans ((if_pos h2).trans (if_neg he)))
end
theorem mp_begins {l : Launch} {γ : Gh} {ρ m : Mm} {b a : Int} {t : Int → Int} {n : Int} {s : PS} (hB : BY t) (hn : 0 ≤ n ∧ n ≤ 700) (hG : GS ρ m t n s) (hg : s.1 = 1) (hb : b = 0 ∨ b = 1) (ha : a = 0 ∨ a = 1) (hab : b = 0 ∨ a = 0) : gE l γ μX11_begins 2 0 0 (rI KK fun x ρ9 m9 => q23 ρ ρ9 ∧ MR m9 ∧ GS ρ9 m9 t n (bg9 t n b a s) ∧ FX [84] [13, 14, 17, 18, 19, 20, 21, 22] m m9 ∧ (bg9 t n b a s).1 = x) xN KK ρ m [vR 84, vI b, vI a] := by
  refine gE.ofw cl_X11.2 ?_ rfl rfl (Nat.le_of_ble_eq_true rfl)
  show gT l γ μX11_begins 2 0 0 _ _ KK ρ m 0 [some (vR 84), some (vI b), some (vI a)] []
  have hR := hG.1
  have hgd := gd9_1 (m 84 13)
  have hgg := hG.g hg
  refine tz_iload1 (n := 1) (g_at ck_X11_begins 0 rfl) rfl ?_
  refine tz_if_eq (n := 4) (tgt := 9) (g_at ck_X11_begins 1 rfl) rfl rfl (by omega) (fun h1 => ?_) (fun h1 => ?_)
  · skip
    refine tz_iload2 (n := 10) (g_at ck_X11_begins 5 rfl) rfl ?_
    refine tz_if_eq (n := 13) (tgt := 18) (g_at ck_X11_begins 6 rfl) rfl rfl (by omega) (fun h10 => ?_) (fun h10 => ?_)
    · skip
      refine tz_aload0 (n := 19) (g_at ck_X11_begins 10 rfl) rfl (g_ne kd_84) ?_
      refine tz_cvI0 (n := 22) (μ' := μX11_isGood) (cb' := 0) (sb' := 0) ml_X11_191 mo_X11_isGood mv_X11_isGood np_X11_isGood kd_84 (g_at ck_X11_begins 11 rfl) (mp_isGood hR) rfl rfl rfl ⟨by decide, by decide⟩ (Nat.le_of_ble_eq_true rfl) (by decide) (by decide) (fun x19 ρ9 m19 hq => ?_)
      obtain ⟨rfl, hR1, rfl, rfl⟩ := hq
      refine tz_if_ne (n := 25) (tgt := 27) (g_at ck_X11_begins 12 rfl) rfl rfl (by omega) (fun h22 => ?_) (fun h22 => absurd h22 (by omega))
      refine tz_aload0 (n := 28) (g_at ck_X11_begins 15 rfl) rfl (g_ne kd_84) ?_
      refine tz_cvV0 (n := 31) (μ' := μX11_goes) (cb' := 0) (sb' := 0) ml_X11_195 mo_X11_goes mv_X11_goes np_X11_goes kd_84 (g_at ck_X11_begins 16 rfl) (mp_goes hG.2.1 hR1 hB hn (show 0 ≤ tQ t n (sP s) ∧ tQ t n (sP s) ≤ n by have h8 := (hG.g hg).2.1; have h9 := tk_rg (t := t) hB h8; omega) hG.2.2.1 hG.2.2.2.1 (hG.g hg).1.2.2.1) rfl rfl rfl ⟨by decide, by decide⟩ (Nat.le_of_ble_eq_true rfl) (by decide) (by decide) (fun ρ9 m28 hq => ?_)
      obtain ⟨w28, rfl, hR2, hX28, hK28⟩ := hq
      have hq28 : q23 ρ (wr ρ 84 23 w28) := q23.w
      have hG28 := hG.nx hg hB hR2 hq28 hX28 (by decide) (by decide) hK28
      have hL := hG28.2.1
      refine tz_iconst (n := 32) (g_at ck_X11_begins 17 rfl) rfl ?_
      exact tz_bret (g_at ck_X11_begins 18 rfl) rfl (by decide) (rI_mk ⟨hq28, hR2, by rw [show bg9 t n b a s = nx9 t n s from (if_neg (by omega)).trans (if_neg (by omega))]; exact hG28, hX28.sub (by decide) (by decide), by rw [show bg9 t n b a s = nx9 t n s from (if_neg (by omega)).trans (if_neg (by omega))]; exact hg⟩)
    · skip
      refine tz_aload0 (n := 14) (g_at ck_X11_begins 7 rfl) rfl (g_ne kd_84) ?_
      refine tz_iconst (n := 15) (g_at ck_X11_begins 8 rfl) rfl ?_
      refine tz_cvV1 (n := 18) (μ' := μX11_wrong) (cb' := 0) (sb' := 0) ml_X11_198 mo_X11_wrong mv_X11_wrong np_X11_wrong kd_84 (g_at ck_X11_begins 9 rfl) (mp_wrong hB hn hG hg (by decide)) rfl rfl rfl ⟨by decide, by decide⟩ (Nat.le_of_ble_eq_true rfl) (by decide) (by decide) (fun ρ9 m15 hq => ?_)
      obtain ⟨rfl, hR3, hG15, hX15⟩ := hq
      have hfz15 := hG15.fl0
      have hgw15 := gd9_1 (m15 84 13)
      refine tz_aload0 (n := 19) (g_at ck_X11_begins 10 rfl) rfl (g_ne kd_84) ?_
      refine tz_cvI0 (n := 22) (μ' := μX11_isGood) (cb' := 0) (sb' := 0) ml_X11_191 mo_X11_isGood mv_X11_isGood np_X11_isGood kd_84 (g_at ck_X11_begins 11 rfl) (mp_isGood hR3) rfl rfl rfl ⟨by decide, by decide⟩ (Nat.le_of_ble_eq_true rfl) (by decide) (by decide) (fun x19 ρ9 m19 hq => ?_)
      obtain ⟨rfl, hR4, rfl, rfl⟩ := hq
      refine tz_if_ne (n := 25) (tgt := 27) (g_at ck_X11_begins 12 rfl) rfl rfl (by omega) (fun h22 => absurd h22 (by omega)) (fun h22 => ?_)
      refine tz_iconst (n := 26) (g_at ck_X11_begins 13 rfl) rfl ?_
      exact tz_bret (g_at ck_X11_begins 14 rfl) rfl (by decide) (rI_mk ⟨q23.rf, hR4, by rw [show bg9 t n b a s = fl9 t n 5 s from (if_neg (by omega)).trans (if_pos (by omega))]; exact hG15, hX15.sub (by decide) (by decide), by rw [show bg9 t n b a s = fl9 t n 5 s from (if_neg (by omega)).trans (if_pos (by omega))]; exact fl_0⟩)
  · skip
    refine tz_aload0 (n := 5) (g_at ck_X11_begins 2 rfl) rfl (g_ne kd_84) ?_
    refine tz_iconst (n := 6) (g_at ck_X11_begins 3 rfl) rfl ?_
    refine tz_cvV1 (n := 9) (μ' := μX11_wrong) (cb' := 0) (sb' := 0) ml_X11_198 mo_X11_wrong mv_X11_wrong np_X11_wrong kd_84 (g_at ck_X11_begins 4 rfl) (mp_wrong hB hn hG hg (by decide)) rfl rfl rfl ⟨by decide, by decide⟩ (Nat.le_of_ble_eq_true rfl) (by decide) (by decide) (fun ρ9 m6 hq => ?_)
    obtain ⟨rfl, hR5, hG6, hX6⟩ := hq
    have hfz6 := hG6.fl0
    have hgw6 := gd9_1 (m6 84 13)
    refine tz_iload2 (n := 10) (g_at ck_X11_begins 5 rfl) rfl ?_
    refine tz_if_eq (n := 13) (tgt := 18) (g_at ck_X11_begins 6 rfl) rfl rfl (by omega) (fun h10 => ?_) (fun h10 => absurd h10 (by omega))
    refine tz_aload0 (n := 19) (g_at ck_X11_begins 10 rfl) rfl (g_ne kd_84) ?_
    refine tz_cvI0 (n := 22) (μ' := μX11_isGood) (cb' := 0) (sb' := 0) ml_X11_191 mo_X11_isGood mv_X11_isGood np_X11_isGood kd_84 (g_at ck_X11_begins 11 rfl) (mp_isGood hR5) rfl rfl rfl ⟨by decide, by decide⟩ (Nat.le_of_ble_eq_true rfl) (by decide) (by decide) (fun x19 ρ9 m19 hq => ?_)
    obtain ⟨rfl, hR6, rfl, rfl⟩ := hq
    refine tz_if_ne (n := 25) (tgt := 27) (g_at ck_X11_begins 12 rfl) rfl rfl (by omega) (fun h22 => absurd h22 (by omega)) (fun h22 => ?_)
    refine tz_iconst (n := 26) (g_at ck_X11_begins 13 rfl) rfl ?_
    exact tz_bret (g_at ck_X11_begins 14 rfl) rfl (by decide) (rI_mk ⟨q23.rf, hR6, by rw [show bg9 t n b a s = fl9 t n 2 s from if_pos (by omega)]; exact hG6, hX6.sub (by decide) (by decide), by rw [show bg9 t n b a s = fl9 t n 2 s from if_pos (by omega)]; exact fl_0⟩)
theorem mp_readsCrossing {l : Launch} {γ : Gh} {ρ m : Mm} {t : Int → Int} {n : Int} {s : PS} {ν : Mm} (hB : BY t) (hn : 0 ≤ n ∧ n ≤ 700) (hG : GS ρ m t n (nx9 t n s)) (hg : s.1 = 1) (hN : NM m ν) (hw : WN ν) (h9c : ¬ 9 ≤ ν 0 0) : gE l γ μX11_readsCrossing 3 0 0 (rV KK fun ρ9 m9 => q23 ρ ρ9 ∧ MR m9 ∧ GS ρ9 m9 t n (rC9 t n s ν).1 ∧ ((rC9 t n s ν).1.1 = 1 → NM m9 (rC9 t n s ν).2 ∧ WN (rC9 t n s ν).2) ∧ FX [84, 93, 94, 95, 102] [13, 14, 17, 18, 19, 20, 21, 22, 24] m m9) xN KK ρ m [vR 84] := by
  refine gE.ofw cl_X11.2 ?_ rfl rfl (Nat.le_of_ble_eq_true rfl)
  show gT l γ μX11_readsCrossing 3 0 0 _ _ KK ρ m 0 [some (vR 84), none] []
  have hR := hG.1
  have hL := hG.2.1
  have hg1 : (nx9 t n s).1 = 1 := hg
  have hgg := hG.g hg1
  have hw0 := hw.1
  have hw1 := hw.2.1
  have hK1 := hgg.1
  refine tz_aload0 (n := 1) (g_at ck_X11_readsCrossing 0 rfl) rfl (g_ne kd_84) ?_
  refine tz_getIw (n := 4) (kz := 24) fk_X11_254 kd_84 (g_at ck_X11_readsCrossing 1 rfl) rfl rfl ?_
  rw [hN.1.1]
  refine tz_istore1 (n := 5) (g_at ck_X11_readsCrossing 2 rfl) rfl (by decide) g_hpR ?_
  refine tz_aload0 (n := 6) (g_at ck_X11_readsCrossing 3 rfl) rfl (g_ne kd_84) ?_
  refine tz_getAv (n := 9) (a := 93) fk_X11_44 kd_84 (ly_84_33 hL) (g_at ck_X11_readsCrossing 4 rfl) rfl ?_
  refine tz_iload1 (n := 10) (g_at ck_X11_readsCrossing 5 rfl) rfl ?_
  refine tz_aload0 (n := 11) (g_at ck_X11_readsCrossing 6 rfl) rfl (g_ne kd_84) ?_
  refine tz_iconst (n := 12) (g_at ck_X11_readsCrossing 7 rfl) rfl ?_
  refine tz_bipush (n := 14) (g_at ck_X11_readsCrossing 8 rfl) rfl rfl ?_
  refine tz_cvI2 (n := 17) (μ' := μX11_number) (cb' := 0) (sb' := 0) ml_X11_257 mo_X11_number mv_X11_number np_X11_number kd_84 (g_at ck_X11_readsCrossing 9 rfl) (mp_number hB hn hG (by decide)) rfl rfl rfl ⟨by decide, by decide⟩ (Nat.le_of_ble_eq_true rfl) (by decide) (by decide) (fun x14 ρ9 m14 hq => ?_)
  obtain ⟨hq14, hR1, hG14, hX14, hv14, hr14⟩ := hq
  have hL := hG14.2.1
  refine tz_iastr (n := 18) kd_93 (by omega) (g_at ck_X11_readsCrossing 10 rfl) rfl hR1 hr14 (fun hR2 => ?_)
  have hGa := hG14.x (L := [93]) (ks := []) hR2 rfl (FX.rf.w (by decide) (fun h9 => absurd h9 (by decide))) (by decide) (by decide)
  refine tz_aload0 (n := 19) (g_at ck_X11_readsCrossing 11 rfl) rfl (g_ne kd_84) ?_
  refine tz_getAv (n := 22) (a := 94) fk_X11_47 kd_84 (ly_84_34 hL) (g_at ck_X11_readsCrossing 12 rfl) rfl ?_
  refine tz_iload1 (n := 23) (g_at ck_X11_readsCrossing 13 rfl) rfl ?_
  refine tz_aload0 (n := 24) (g_at ck_X11_readsCrossing 14 rfl) rfl (g_ne kd_84) ?_
  refine tz_iconst (n := 25) (g_at ck_X11_readsCrossing 15 rfl) rfl ?_
  refine tz_iconst (n := 26) (g_at ck_X11_readsCrossing 16 rfl) rfl ?_
  refine tz_cvI2 (n := 29) (μ' := μX11_number) (cb' := 0) (sb' := 0) ml_X11_257 mo_X11_number mv_X11_number np_X11_number kd_84 (g_at ck_X11_readsCrossing 17 rfl) (mp_number hB hn hGa (by decide)) rfl rfl rfl ⟨by decide, by decide⟩ (Nat.le_of_ble_eq_true rfl) (by decide) (by decide) (fun x26 ρ9 m26 hq => ?_)
  obtain ⟨hq26, hR3, hG26, hX26, hv26, hr26⟩ := hq
  have hL := hG26.2.1
  refine tz_iastr (n := 30) kd_94 (by omega) (g_at ck_X11_readsCrossing 18 rfl) rfl hR3 hr26 (fun hR4 => ?_)
  refine tz_aload0 (n := 31) (g_at ck_X11_readsCrossing 19 rfl) rfl (g_ne kd_84) ?_
  refine tz_getAv (n := 34) (a := 95) fk_X11_50 kd_84 (ly_84_35 hL) (g_at ck_X11_readsCrossing 20 rfl) rfl ?_
  refine tz_iload1 (n := 35) (g_at ck_X11_readsCrossing 21 rfl) rfl ?_
  refine tz_iconst (n := 36) (g_at ck_X11_readsCrossing 22 rfl) rfl ?_
  refine tz_iastr (n := 37) kd_95 (by omega) (g_at ck_X11_readsCrossing 23 rfl) rfl hR4 ⟨(by decide), (by decide)⟩ (fun hR5 => ?_)
  refine tz_aload0 (n := 38) (g_at ck_X11_readsCrossing 24 rfl) rfl (g_ne kd_84) ?_
  refine tz_getAv (n := 41) (a := 102) fk_X11_72 kd_84 (ly_84_42 hL) (g_at ck_X11_readsCrossing 25 rfl) rfl ?_
  refine tz_iload1 (n := 42) (g_at ck_X11_readsCrossing 26 rfl) rfl ?_
  refine tz_iconst (n := 43) (g_at ck_X11_readsCrossing 27 rfl) rfl ?_
  refine tz_zastr (n := 44) kd_102 (by omega) (g_at ck_X11_readsCrossing 28 rfl) rfl hR5 (Or.inl rfl) (fun hR6 => ?_)
  have hGf := hG26.x (L := [94, 95, 102]) (ks := []) hR6 rfl (((FX.rf.w (by decide) (fun h9 => absurd h9 (by decide))).w (by decide) (fun h9 => absurd h9 (by decide))).w (by decide) (fun h9 => absurd h9 (by decide))) (by decide) (by decide)
  have hfb := hGf.b
  have hgd := gd9_1 ((wr (wr (wr m26 94 (ν 0 0) x26) 95 (ν 0 0) 0) 102 (ν 0 0) 0) 84 13)
  refine tz_aload0 (n := 45) (g_at ck_X11_readsCrossing 29 rfl) rfl (g_ne kd_84) ?_
  refine tz_cvI0 (n := 48) (μ' := μX11_isGood) (cb' := 0) (sb' := 0) ml_X11_191 mo_X11_isGood mv_X11_isGood np_X11_isGood kd_84 (g_at ck_X11_readsCrossing 30 rfl) (mp_isGood hR6) rfl rfl rfl ⟨by decide, by decide⟩ (Nat.le_of_ble_eq_true rfl) (by decide) (by decide) (fun x45 ρ9 m45 hq => ?_)
  obtain ⟨rfl, hR7, rfl, rfl⟩ := hq
  refine tz_if_eq (n := 51) (tgt := 61) (g_at ck_X11_readsCrossing 31 rfl) rfl rfl (by omega) (fun h48 => ?_) (fun h48 => ?_)
  · skip
    exact tz_vret (g_at ck_X11_readsCrossing 38 rfl) rfl (rV_mk ⟨hq14.tr hq26, hR7, by rw [(rC_e hg h9c).1]; exact hGf, fun h9 => absurd h9 (by rw [(rC_e hg h9c).1]; omega), (((((hX14.sub (by decide) (by decide)).w (by decide) (fun h9 => absurd h9 (by decide)) |>.tr (hX26.sub (by decide) (by decide))).w (by decide) (fun h9 => absurd h9 (by decide))).w (by decide) (fun h9 => absurd h9 (by decide))).w (by decide) (fun h9 => absurd h9 (by decide)))⟩)
  · skip
    have ok2 : (nA9 t n 1 (nA9 t n 9 (nx9 t n s))).1 = 1 := hfb.1.mpr (by omega)
    have ok1 : (nA9 t n 9 (nx9 t n s)).1 = 1 := by by_cases h8 : (nA9 t n 9 (nx9 t n s)).1 = 1; exact h8; rw [nA_b h8] at ok2; exact ok2
    have o1 := nA_ok hg1 ok1
    have ev1 := hv14 hg1 ok1
    have o2 := nA_ok ok1 ok2
    have ev2 := hv26 ok1 ok2
    rw [o1.1] at ev2 o2
    have hb1 := tv_rg o1.2.1
    have hb2 := tv_rg o2.2.1
    have hb1 : 0 ≤ tV t n (sP (nx9 t n s)) ∧ tV t n (sP (nx9 t n s)) ≤ 9 := by omega
    have hb2 : 0 ≤ tV t n (sP (nx9 t n (nx9 t n s))) ∧ tV t n (sP (nx9 t n (nx9 t n s))) ≤ 1 := by omega
    refine tz_aload0 (n := 52) (g_at ck_X11_readsCrossing 32 rfl) rfl (g_ne kd_84) ?_
    refine tz_dupR (n := 53) (g_at ck_X11_readsCrossing 33 rfl) rfl ?_
    refine tz_getIw (n := 56) (kz := 24) fk_X11_254 kd_84 (g_at ck_X11_readsCrossing 34 rfl) rfl rfl ?_
    rw [show ∀ a b c, (wr (wr (wr m26 94 (ν 0 0) a) 95 (ν 0 0) b) 102 (ν 0 0) c) 84 24 = ν 0 0 from fun a b c => by rw [wr_ne (by decide), wr_ne (by decide), wr_ne (by decide), hX26.2 24 (by decide), wr_ne (by decide), hX14.2 24 (by decide)]; exact hN.1.1]
    refine tz_iconst (n := 57) (g_at ck_X11_readsCrossing 35 rfl) rfl ?_
    refine tz_iadd (n := 58) (g_at ck_X11_readsCrossing 36 rfl) rfl ?_
    refine tz_putIr (n := 61) (kz := 24) fk_X11_254 kd_84 (g_at ck_X11_readsCrossing 37 rfl) rfl hR7 ⟨(by omega), (by omega)⟩ rfl (fun hR8 => ?_)
    exact tz_vret (g_at ck_X11_readsCrossing 38 rfl) rfl (rV_mk ⟨hq14.tr hq26, hR8, by rw [(rC_e hg h9c).1]; exact hGf.x (L := [84]) (ks := [24]) hR8 rfl (FX.rf.w (by decide) (fun _ => by decide)) (by decide) (by decide), fun h9 => by rw [(rC_e hg h9c).2 h9]; exact ⟨hN.cross hw (by omega) wr_same (by rw [wr_at, if_neg (by decide), wr_ne (by decide), wr_ne (by decide), wr_ne (by decide), hX26.2 25 (by decide), wr_ne (by decide), hX14.2 25 (by decide)]) (by rw [wr_ne (by decide), wr_ne (by decide), wr_ne (by decide), wr_ne (by decide), hX26.1 93 (by decide), wr_up, hX14.1 93 (by decide)]; rw [ev1]) (by rw [wr_ne (by decide), wr_ne (by decide), wr_ne (by decide), wr_up, hX26.1 94 (by decide), wr_ne (by decide), hX14.1 94 (by decide)]; rw [ev2]) (by rw [wr_ne (by decide), wr_ne (by decide), wr_up, wr_ne (by decide), hX26.1 95 (by decide), wr_ne (by decide), hX14.1 95 (by decide)]) (by rw [wr_ne (by decide), wr_up, wr_ne (by decide), wr_ne (by decide), hX26.1 102 (by decide), wr_ne (by decide), hX14.1 102 (by decide)]) (fun c hc => by rw [wr_ne (by omega), wr_ne (by omega), wr_ne (by omega), wr_ne (by omega), hX26.1 c (by simp; omega), wr_ne (by omega), hX14.1 c (by simp; omega)]), hw.cross (by omega) hb1 hb2⟩, ((((((hX14.sub (by decide) (by decide)).w (by decide) (fun h9 => absurd h9 (by decide)) |>.tr (hX26.sub (by decide) (by decide))).w (by decide) (fun h9 => absurd h9 (by decide))).w (by decide) (fun h9 => absurd h9 (by decide))).w (by decide) (fun h9 => absurd h9 (by decide)))).w (by decide) (fun _ => by decide)⟩)
