/-! The reference reads: roads, people, arms. -/
section
variable {t : Int → Int} {n : Int} {s : PS} {ν : Mm}
theorem rP_2 (h8 : ¬ 8 ≤ ν 0 1) (h : ¬ (td9 t n (ν 0 0) (nx9 t n s)).1 = 1) : rP9 t n s ν = (td9 t n (ν 0 0) (nx9 t n s), ν) := (if_neg h8).trans (if_neg h)
theorem rP_3 (h8 : ¬ 8 ≤ ν 0 1) (h : (td9 t n (ν 0 0) (nx9 t n s)).1 = 1) (h2 : ¬ (td9 t n (ν 0 0) (nx9 t n (nx9 t n s))).1 = 1) : rP9 t n s ν = (td9 t n (ν 0 0) (nx9 t n (nx9 t n s)), ν) := (if_neg h8).trans ((if_pos h).trans (if_neg h2))
theorem rP_e (g : s.1 = 1) (h8 : ¬ 8 ≤ ν 0 1) (h : (td9 t n (ν 0 0) (nx9 t n s)).1 = 1) (h2 : (td9 t n (ν 0 0) (nx9 t n (nx9 t n s))).1 = 1) : (rP9 t n s ν).1 = nA9 t n 99 (nx9 t n (nx9 t n (nx9 t n s))) ∧ ((rP9 t n s ν).1.1 = 1 → (rP9 t n s ν).2 = wr (wr (wr (wr ν 6 (1 + ν 0 1) (tV t n (sP (nx9 t n s)))) 5 (ν 0 1) (tV t n (sP (nx9 t n (nx9 t n s))))) 6 (9 + ν 0 1) (tV t n (sP (nx9 t n (nx9 t n (nx9 t n s)))))) 0 1 (ν 0 1 + 1)) := by
  have g3 : (nx9 t n (nx9 t n (nx9 t n s))).1 = 1 := g
  unfold rP9
  rw [if_neg h8, if_pos h, if_pos h2]
  by_cases h3 : (nt9 t n 99 (nx9 t n (nx9 t n (nx9 t n s)))).1 = 1
  · rw [if_pos h3]
    exact ⟨((if_pos g3).trans (if_pos h3)).symm, fun _ => rfl⟩
  · rw [if_neg h3]
    exact ⟨((if_pos g3).trans (if_neg h3)).symm, fun h => absurd h h3⟩
theorem rA_1 (h : ¬ (td9 t n (ν 0 0) (nx9 t n s)).1 = 1) : rA9 t n s ν = (td9 t n (ν 0 0) (nx9 t n s), ν) := if_neg h
theorem rA_2 (h : (td9 t n (ν 0 0) (nx9 t n s)).1 = 1) (hb : bAnd (bShr (ν 0 2) (tV t n (sP (nx9 t n s)))) 1 = 1) : rA9 t n s ν = (fl9 t n 5 (nx9 t n s), ν) := (if_pos h).trans (if_pos hb)
theorem rA_3 (h : (td9 t n (ν 0 0) (nx9 t n s)).1 = 1) (hb : ¬ bAnd (bShr (ν 0 2) (tV t n (sP (nx9 t n s)))) 1 = 1) (h2 : ¬ (td9 t n (ν 3 (tV t n (sP (nx9 t n s)))) (nx9 t n (nx9 t n s))).1 = 1) : rA9 t n s ν = (td9 t n (ν 3 (tV t n (sP (nx9 t n s)))) (nx9 t n (nx9 t n s)), ν) := (if_pos h).trans ((if_neg hb).trans (if_neg h2))
theorem rA_4 (h : (td9 t n (ν 0 0) (nx9 t n s)).1 = 1) (hb : ¬ bAnd (bShr (ν 0 2) (tV t n (sP (nx9 t n s)))) 1 = 1) (h2 : (td9 t n (ν 3 (tV t n (sP (nx9 t n s)))) (nx9 t n (nx9 t n s))).1 = 1) : rA9 t n s ν = (nx9 t n (nx9 t n (nx9 t n s)), wr (wr ν 0 2 (bOr (ν 0 2) (bShl 1 (tV t n (sP (nx9 t n s)))))) 6 (17 + tV t n (sP (nx9 t n s))) (tV t n (sP (nx9 t n (nx9 t n s))))) := (if_pos h).trans ((if_neg hb).trans (if_pos h2))
end
theorem mp_readsRoad {l : Launch} {γ : Gh} {ρ m : Mm} {t : Int → Int} {n : Int} {s : PS} {ν : Mm} (hB : BY t) (hn : 0 ≤ n ∧ n ≤ 700) (hG : GS ρ m t n (nx9 t n s)) (hg : s.1 = 1) (hN : NM m ν) (hw : WN ν) : gE l γ μX11_readsRoad 3 0 0 (rV KK fun ρ9 m9 => q23 ρ ρ9 ∧ MR m9 ∧ GS ρ9 m9 t n (rR9 t n s ν).1 ∧ ((rR9 t n s ν).1.1 = 1 → NM m9 (rR9 t n s ν).2 ∧ WN (rR9 t n s ν).2) ∧ FX [84, 95, 96] [13, 14, 17, 18, 19, 20, 21, 22] m m9) xN KK ρ m [vR 84] := by
  refine gE.ofw cl_X11.2 ?_ rfl rfl (Nat.le_of_ble_eq_true rfl)
  show gT l γ μX11_readsRoad 3 0 0 _ _ KK ρ m 0 [some (vR 84), none] []
  have hR := hG.1
  have hL := hG.2.1
  have hg1 : (nx9 t n s).1 = 1 := hg
  have hgg := hG.g hg1
  have hw0 := hw.1
  have hw1 := hw.2.1
  have hK1 := hgg.1
  refine tz_aload0 (n := 1) (g_at ck_X11_readsRoad 0 rfl) rfl (g_ne kd_84) ?_
  refine tz_aload0 (n := 2) (g_at ck_X11_readsRoad 1 rfl) rfl (g_ne kd_84) ?_
  refine tz_getIw (n := 5) (kz := 24) fk_X11_254 kd_84 (g_at ck_X11_readsRoad 2 rfl) rfl rfl ?_
  rw [hN.1.1]
  refine tz_cvI1 (n := 8) (μ' := μX11_isOneOf) (cb' := 0) (sb' := 0) ml_X11_261 mo_X11_isOneOf mv_X11_isOneOf np_X11_isOneOf kd_84 (g_at ck_X11_readsRoad 3 rfl) (mp_isOneOf hB hn hG (by omega)) rfl rfl rfl ⟨by decide, by decide⟩ (Nat.le_of_ble_eq_true rfl) (by decide) (by decide) (fun x5 ρ9 m5 hq => ?_)
  obtain ⟨rfl, hR1, hG5, hX5, hx5⟩ := hq
  have hxr5 : x5 = 0 ∨ x5 = 1 := by rw [← hx5]; exact hG5.b.2
  refine tz_if_ne (n := 11) (tgt := 12) (g_at ck_X11_readsRoad 4 rfl) rfl rfl (by omega) (fun h8 => ?_) (fun h8 => ?_)
  · skip
    have o1 := tB_ok (t := t) (n := n) (k := ν 0 0) (s := (nx9 t n s)) hg1 (by omega)
    rw [o1.1] at hG5
    have hK1 := (hG5.g hg1).1
    have vb1 := tv_rg o1.2.1
    have z1 := (hG5.g hg1).2.2.1
    have gz1 := gd9_1 (m5 84 13)
    have hN5 := hN.x hX5 (by decide) (by decide)
    have hcl := hN5.2.1 (tV t n (sP (nx9 t n s))) (by omega) (by omega)
    have hw3 := hw.2.2.2.1 (tV t n (sP (nx9 t n s))) (by omega) (by omega)
    refine tz_aload0 (n := 13) (g_at ck_X11_readsRoad 6 rfl) rfl (g_ne kd_84) ?_
    refine tz_getIw (n := 16) (kz := 21) fk_X11_159 kd_84 (g_at ck_X11_readsRoad 7 rfl) rfl rfl ?_
    rw [hK1.2.2.2.2.2.2.1 o1.2.1]
    refine tz_istore1 (n := 17) (g_at ck_X11_readsRoad 8 rfl) rfl (by decide) g_hpR ?_
    refine tz_aload0 (n := 18) (g_at ck_X11_readsRoad 9 rfl) rfl (g_ne kd_84) ?_
    refine tz_getAv (n := 21) (a := 95) fk_X11_50 kd_84 (ly_84_35 hL) (g_at ck_X11_readsRoad 10 rfl) rfl ?_
    refine tz_iload1 (n := 22) (g_at ck_X11_readsRoad 11 rfl) rfl ?_
    refine tz_iald (n := 23) kd_95 (by omega) (g_at ck_X11_readsRoad 12 rfl) rfl ?_
    rw [hcl.2.2.1]
    refine tz_iconst (n := 24) (g_at ck_X11_readsRoad 13 rfl) rfl ?_
    refine tz_icmp_ne (n := 27) (tgt := 32) (g_at ck_X11_readsRoad 14 rfl) rfl rfl (by omega) (fun h24 => ?_) (fun h24 => ?_)
    · skip
      refine tz_aload0 (n := 33) (g_at ck_X11_readsRoad 18 rfl) rfl (g_ne kd_84) ?_
      refine tz_cvI0 (n := 36) (μ' := μX11_isGood) (cb' := 0) (sb' := 0) ml_X11_191 mo_X11_isGood mv_X11_isGood np_X11_isGood kd_84 (g_at ck_X11_readsRoad 19 rfl) (mp_isGood hR1) rfl rfl rfl ⟨by decide, by decide⟩ (Nat.le_of_ble_eq_true rfl) (by decide) (by decide) (fun x33 ρ9 m33 hq => ?_)
      obtain ⟨rfl, hR2, rfl, rfl⟩ := hq
      refine tz_if_ne (n := 39) (tgt := 40) (g_at ck_X11_readsRoad 20 rfl) rfl rfl (by omega) (fun h36 => ?_) (fun h36 => absurd h36 (by omega))
      refine tz_aload0 (n := 41) (g_at ck_X11_readsRoad 22 rfl) rfl (g_ne kd_84) ?_
      refine tz_cvV0 (n := 44) (μ' := μX11_goes) (cb' := 0) (sb' := 0) ml_X11_195 mo_X11_goes mv_X11_goes np_X11_goes kd_84 (g_at ck_X11_readsRoad 23 rfl) (mp_goes hG5.2.1 hR2 hB hn (show 0 ≤ tQ t n (sP (nx9 t n s)) ∧ tQ t n (sP (nx9 t n s)) ≤ n by have h8 := (hG5.g hg1).2.1; have h9 := tk_rg (t := t) hB h8; omega) hG5.2.2.1 hG5.2.2.2.1 (hG5.g hg1).1.2.2.1) rfl rfl rfl ⟨by decide, by decide⟩ (Nat.le_of_ble_eq_true rfl) (by decide) (by decide) (fun ρ9 m41 hq => ?_)
      obtain ⟨w41, rfl, hR3, hX41, hK41⟩ := hq
      have hq41 : q23 ρ (wr ρ 84 23 w41) := q23.w
      have hG41 := hG5.nx hg1 hB hR3 hq41 hX41 (by decide) (by decide) hK41
      have hL := hG41.2.1
      have hN41 := hN5.x hX41 (by decide) (by decide)
      refine tz_aload0 (n := 45) (g_at ck_X11_readsRoad 24 rfl) rfl (g_ne kd_84) ?_
      refine tz_aload0 (n := 46) (g_at ck_X11_readsRoad 25 rfl) rfl (g_ne kd_84) ?_
      refine tz_getIw (n := 49) (kz := 24) fk_X11_254 kd_84 (g_at ck_X11_readsRoad 26 rfl) rfl rfl ?_
      rw [hN41.1.1]
      refine tz_cvI1 (n := 52) (μ' := μX11_isOneOf) (cb' := 0) (sb' := 0) ml_X11_261 mo_X11_isOneOf mv_X11_isOneOf np_X11_isOneOf kd_84 (g_at ck_X11_readsRoad 27 rfl) (mp_isOneOf hB hn hG41 (by omega)) rfl rfl rfl ⟨by decide, by decide⟩ (Nat.le_of_ble_eq_true rfl) (by decide) (by decide) (fun x49 ρ9 m49 hq => ?_)
      obtain ⟨rfl, hR4, hG49, hX49, hx49⟩ := hq
      have hxr49 : x49 = 0 ∨ x49 = 1 := by rw [← hx49]; exact hG49.b.2
      refine tz_if_ne (n := 55) (tgt := 56) (g_at ck_X11_readsRoad 28 rfl) rfl rfl (by omega) (fun h52 => ?_) (fun h52 => ?_)
      · skip
        have o2 := tB_ok (t := t) (n := n) (k := ν 0 0) (s := (nx9 t n (nx9 t n s))) hg1 (by omega)
        rw [o2.1] at hG49
        have hK2 := (hG49.g hg1).1
        have vb2 := tv_rg o2.2.1
        have z2 := (hG49.g hg1).2.2.1
        have gz2 := gd9_1 (m49 84 13)
        have hN49 := hN41.x hX49 (by decide) (by decide)
        have hcm := hN49.2.1 (tV t n (sP (nx9 t n s))) (by omega) (by omega)
        refine tz_aload0 (n := 57) (g_at ck_X11_readsRoad 30 rfl) rfl (g_ne kd_84) ?_
        refine tz_getIw (n := 60) (kz := 21) fk_X11_159 kd_84 (g_at ck_X11_readsRoad 31 rfl) rfl rfl ?_
        rw [hK2.2.2.2.2.2.2.1 o2.2.1]
        refine tz_iload1 (n := 61) (g_at ck_X11_readsRoad 32 rfl) rfl ?_
        refine tz_icmp_ne (n := 64) (tgt := 69) (g_at ck_X11_readsRoad 33 rfl) rfl rfl (by omega) (fun h61 => ?_) (fun h61 => ?_)
        · skip
          refine tz_aload0 (n := 70) (g_at ck_X11_readsRoad 37 rfl) rfl (g_ne kd_84) ?_
          refine tz_cvI0 (n := 73) (μ' := μX11_isGood) (cb' := 0) (sb' := 0) ml_X11_191 mo_X11_isGood mv_X11_isGood np_X11_isGood kd_84 (g_at ck_X11_readsRoad 38 rfl) (mp_isGood hR4) rfl rfl rfl ⟨by decide, by decide⟩ (Nat.le_of_ble_eq_true rfl) (by decide) (by decide) (fun x70 ρ9 m70 hq => ?_)
          obtain ⟨rfl, hR5, rfl, rfl⟩ := hq
          refine tz_if_ne (n := 76) (tgt := 77) (g_at ck_X11_readsRoad 39 rfl) rfl rfl (by omega) (fun h73 => ?_) (fun h73 => absurd h73 (by omega))
          refine tz_aload0 (n := 78) (g_at ck_X11_readsRoad 41 rfl) rfl (g_ne kd_84) ?_
          refine tz_getAv (n := 81) (a := 96) fk_X11_53 kd_84 (ly_84_36 hL) (g_at ck_X11_readsRoad 42 rfl) rfl ?_
          refine tz_iconst (n := 82) (g_at ck_X11_readsRoad 43 rfl) rfl ?_
          refine tz_iload1 (n := 83) (g_at ck_X11_readsRoad 44 rfl) rfl ?_
          refine tz_imul (n := 84) (g_at ck_X11_readsRoad 45 rfl) rfl ?_
          refine tz_aload0 (n := 85) (g_at ck_X11_readsRoad 46 rfl) rfl (g_ne kd_84) ?_
          refine tz_getAv (n := 88) (a := 95) fk_X11_50 kd_84 (ly_84_35 hL) (g_at ck_X11_readsRoad 47 rfl) rfl ?_
          refine tz_iload1 (n := 89) (g_at ck_X11_readsRoad 48 rfl) rfl ?_
          refine tz_iald (n := 90) kd_95 (by omega) (g_at ck_X11_readsRoad 49 rfl) rfl ?_
          rw [hcm.2.2.1]
          refine tz_iadd (n := 91) (g_at ck_X11_readsRoad 50 rfl) rfl ?_
          refine tz_aload0 (n := 92) (g_at ck_X11_readsRoad 51 rfl) rfl (g_ne kd_84) ?_
          refine tz_getIw (n := 95) (kz := 21) fk_X11_159 kd_84 (g_at ck_X11_readsRoad 52 rfl) rfl rfl ?_
          rw [hK2.2.2.2.2.2.2.1 o2.2.1]
          refine tz_iastr (n := 96) kd_96 (by omega) (g_at ck_X11_readsRoad 53 rfl) rfl hR5 (by omega) (fun hR6 => ?_)
          refine tz_aload0 (n := 97) (g_at ck_X11_readsRoad 54 rfl) rfl (g_ne kd_84) ?_
          refine tz_getAv (n := 100) (a := 95) fk_X11_50 kd_84 (ly_84_35 hL) (g_at ck_X11_readsRoad 55 rfl) rfl ?_
          refine tz_iload1 (n := 101) (g_at ck_X11_readsRoad 56 rfl) rfl ?_
          refine tz_dup2 (n := 102) (g_at ck_X11_readsRoad 57 rfl) rfl ?_
          refine tz_iald (n := 103) kd_95 (by omega) (g_at ck_X11_readsRoad 58 rfl) rfl ?_
          rw [wr_ne (show (95 : Int) ≠ 96 by decide), hcm.2.2.1]
          refine tz_iconst (n := 104) (g_at ck_X11_readsRoad 59 rfl) rfl ?_
          refine tz_iadd (n := 105) (g_at ck_X11_readsRoad 60 rfl) rfl ?_
          refine tz_iastr (n := 106) kd_95 (by omega) (g_at ck_X11_readsRoad 61 rfl) rfl hR6 ⟨(by omega), (by omega)⟩ (fun hR7 => ?_)
          have hGw := hG49.x (L := [95, 96]) (ks := []) hR7 rfl ((FX.rf.w (by decide) (fun h9 => absurd h9 (by decide))).w (by decide) (fun h9 => absurd h9 (by decide))) (by decide) (by decide)
          refine tz_aload0 (n := 107) (g_at ck_X11_readsRoad 62 rfl) rfl (g_ne kd_84) ?_
          refine tz_cvV0 (n := 110) (μ' := μX11_goes) (cb' := 0) (sb' := 0) ml_X11_195 mo_X11_goes mv_X11_goes np_X11_goes kd_84 (g_at ck_X11_readsRoad 63 rfl) (mp_goes hGw.2.1 hR7 hB hn (show 0 ≤ tQ t n (sP (nx9 t n (nx9 t n s))) ∧ tQ t n (sP (nx9 t n (nx9 t n s))) ≤ n by have h8 := (hGw.g hg1).2.1; have h9 := tk_rg (t := t) hB h8; omega) hGw.2.2.1 hGw.2.2.2.1 (hGw.g hg1).1.2.2.1) rfl rfl rfl ⟨by decide, by decide⟩ (Nat.le_of_ble_eq_true rfl) (by decide) (by decide) (fun ρ9 m107 hq => ?_)
          obtain ⟨w107, rfl, hR8, hX107, hK107⟩ := hq
          have hq107 : q23 (wr ρ 84 23 w41) (wr (wr ρ 84 23 w41) 84 23 w107) := q23.w
          have hG107 := hGw.nx hg1 hB hR8 hq107 hX107 (by decide) (by decide) hK107
          have hL := hG107.2.1
          exact tz_vret (g_at ck_X11_readsRoad 64 rfl) rfl (rV_mk ⟨hq41.tr hq107, hR8, by rw [rR_5 o1.2.2.2 (by omega) o2.2.2.2 h61]; exact hG107, fun _ => by rw [rR_5 o1.2.2.2 (by omega) o2.2.2.2 h61]; exact ⟨hN49.road hw (by omega) (by omega) (fun j hj => by rw [hX107.2 j (by simp; omega), wr_ne (by decide), wr_ne (by decide)]) (by rw [hX107.1 96 (by decide), wr_ne (by decide), wr_up]) (by rw [hX107.1 95 (by decide), wr_up, wr_ne (by decide)]) (fun c hc => by rw [hX107.1 c (by simp; omega), wr_ne (by omega), wr_ne (by omega)]), hw.road (by omega) (by omega) (by omega)⟩, ((((hX5.sub (by decide) (by decide)).tr (hX41.sub (by decide) (by decide))).tr (hX49.sub (by decide) (by decide))).w (by decide) (fun h9 => absurd h9 (by decide)) |>.w (by decide) (fun h9 => absurd h9 (by decide))).tr (hX107.sub (by decide) (by decide))⟩)
        · skip
          refine tz_aload0 (n := 65) (g_at ck_X11_readsRoad 34 rfl) rfl (g_ne kd_84) ?_
          refine tz_iconst (n := 66) (g_at ck_X11_readsRoad 35 rfl) rfl ?_
          refine tz_cvV1 (n := 69) (μ' := μX11_wrong) (cb' := 0) (sb' := 0) ml_X11_198 mo_X11_wrong mv_X11_wrong np_X11_wrong kd_84 (g_at ck_X11_readsRoad 36 rfl) (mp_wrong hB hn hG49 hg1 (by decide)) rfl rfl rfl ⟨by decide, by decide⟩ (Nat.le_of_ble_eq_true rfl) (by decide) (by decide) (fun ρ9 m66 hq => ?_)
          obtain ⟨rfl, hR9, hG66, hX66⟩ := hq
          have hfz66 := hG66.fl0
          have hgw66 := gd9_1 (m66 84 13)
          refine tz_aload0 (n := 70) (g_at ck_X11_readsRoad 37 rfl) rfl (g_ne kd_84) ?_
          refine tz_cvI0 (n := 73) (μ' := μX11_isGood) (cb' := 0) (sb' := 0) ml_X11_191 mo_X11_isGood mv_X11_isGood np_X11_isGood kd_84 (g_at ck_X11_readsRoad 38 rfl) (mp_isGood hR9) rfl rfl rfl ⟨by decide, by decide⟩ (Nat.le_of_ble_eq_true rfl) (by decide) (by decide) (fun x70 ρ9 m70 hq => ?_)
          obtain ⟨rfl, hR10, rfl, rfl⟩ := hq
          refine tz_if_ne (n := 76) (tgt := 77) (g_at ck_X11_readsRoad 39 rfl) rfl rfl (by omega) (fun h73 => absurd h73 (by omega)) (fun h73 => ?_)
          exact tz_vret (g_at ck_X11_readsRoad 40 rfl) rfl (rV_mk ⟨hq41, hR10, by rw [rR_4 o1.2.2.2 (by omega) o2.2.2.2 h61]; exact hG66, fun h9 => absurd h9 (by rw [rR_4 o1.2.2.2 (by omega) o2.2.2.2 h61]; exact fl_n), (((hX5.sub (by decide) (by decide)).tr (hX41.sub (by decide) (by decide))).tr (hX49.sub (by decide) (by decide))).tr (hX66.sub (by decide) (by decide))⟩)
      · skip
        exact tz_vret (g_at ck_X11_readsRoad 29 rfl) rfl (rV_mk ⟨hq41, hR4, by rw [rR_3 o1.2.2.2 (by omega) (tB_no (t := t) (n := n) (k := ν 0 0) (s := (nx9 t n (nx9 t n s))) hg1 (by omega)).2, (tB_no (t := t) (n := n) (k := ν 0 0) (s := (nx9 t n (nx9 t n s))) hg1 (by omega)).1]; exact hG49, fun h9 => absurd h9 (by rw [rR_3 o1.2.2.2 (by omega) (tB_no (t := t) (n := n) (k := ν 0 0) (s := (nx9 t n (nx9 t n s))) hg1 (by omega)).2]; exact (tB_no (t := t) (n := n) (k := ν 0 0) (s := (nx9 t n (nx9 t n s))) hg1 (by omega)).2), ((hX5.sub (by decide) (by decide)).tr (hX41.sub (by decide) (by decide))).tr (hX49.sub (by decide) (by decide))⟩)
    · skip
      refine tz_aload0 (n := 28) (g_at ck_X11_readsRoad 15 rfl) rfl (g_ne kd_84) ?_
      refine tz_iconst (n := 29) (g_at ck_X11_readsRoad 16 rfl) rfl ?_
      refine tz_cvV1 (n := 32) (μ' := μX11_wrong) (cb' := 0) (sb' := 0) ml_X11_198 mo_X11_wrong mv_X11_wrong np_X11_wrong kd_84 (g_at ck_X11_readsRoad 17 rfl) (mp_wrong hB hn hG5 hg1 (by decide)) rfl rfl rfl ⟨by decide, by decide⟩ (Nat.le_of_ble_eq_true rfl) (by decide) (by decide) (fun ρ9 m29 hq => ?_)
      obtain ⟨rfl, hR11, hG29, hX29⟩ := hq
      have hfz29 := hG29.fl0
      have hgw29 := gd9_1 (m29 84 13)
      refine tz_aload0 (n := 33) (g_at ck_X11_readsRoad 18 rfl) rfl (g_ne kd_84) ?_
      refine tz_cvI0 (n := 36) (μ' := μX11_isGood) (cb' := 0) (sb' := 0) ml_X11_191 mo_X11_isGood mv_X11_isGood np_X11_isGood kd_84 (g_at ck_X11_readsRoad 19 rfl) (mp_isGood hR11) rfl rfl rfl ⟨by decide, by decide⟩ (Nat.le_of_ble_eq_true rfl) (by decide) (by decide) (fun x33 ρ9 m33 hq => ?_)
      obtain ⟨rfl, hR12, rfl, rfl⟩ := hq
      refine tz_if_ne (n := 39) (tgt := 40) (g_at ck_X11_readsRoad 20 rfl) rfl rfl (by omega) (fun h36 => absurd h36 (by omega)) (fun h36 => ?_)
      exact tz_vret (g_at ck_X11_readsRoad 21 rfl) rfl (rV_mk ⟨q23.rf, hR12, by rw [rR_2 o1.2.2.2 (by omega)]; exact hG29, fun h9 => absurd h9 (by rw [rR_2 o1.2.2.2 (by omega)]; exact fl_n), (hX5.sub (by decide) (by decide)).tr (hX29.sub (by decide) (by decide))⟩)
  · skip
    exact tz_vret (g_at ck_X11_readsRoad 5 rfl) rfl (rV_mk ⟨q23.rf, hR1, by rw [rR_1 (tB_no (t := t) (n := n) (k := ν 0 0) (s := (nx9 t n s)) hg1 (by omega)).2, (tB_no (t := t) (n := n) (k := ν 0 0) (s := (nx9 t n s)) hg1 (by omega)).1]; exact hG5, fun h9 => absurd h9 (by rw [rR_1 (tB_no (t := t) (n := n) (k := ν 0 0) (s := (nx9 t n s)) hg1 (by omega)).2]; exact (tB_no (t := t) (n := n) (k := ν 0 0) (s := (nx9 t n s)) hg1 (by omega)).2), (hX5.sub (by decide) (by decide))⟩)
theorem mp_readsPerson {l : Launch} {γ : Gh} {ρ m : Mm} {t : Int → Int} {n : Int} {s : PS} {ν : Mm} (hB : BY t) (hn : 0 ≤ n ∧ n ≤ 700) (hG : GS ρ m t n (nx9 t n s)) (hg : s.1 = 1) (hN : NM m ν) (hw : WN ν) (h8c : ¬ 8 ≤ ν 0 1) : gE l γ μX11_readsPerson 3 0 0 (rV KK fun ρ9 m9 => q23 ρ ρ9 ∧ MR m9 ∧ GS ρ9 m9 t n (rP9 t n s ν).1 ∧ ((rP9 t n s ν).1.1 = 1 → NM m9 (rP9 t n s ν).2 ∧ WN (rP9 t n s ν).2) ∧ FX [84, 97, 98] [13, 14, 17, 18, 19, 20, 21, 22, 25] m m9) xN KK ρ m [vR 84] := by
  refine gE.ofw cl_X11.2 ?_ rfl rfl (Nat.le_of_ble_eq_true rfl)
  show gT l γ μX11_readsPerson 3 0 0 _ _ KK ρ m 0 [some (vR 84), none] []
  have hR := hG.1
  have hL := hG.2.1
  have hg1 : (nx9 t n s).1 = 1 := hg
  have hgg := hG.g hg1
  have hw0 := hw.1
  have hw1 := hw.2.1
  have hK1 := hgg.1
  refine tz_aload0 (n := 1) (g_at ck_X11_readsPerson 0 rfl) rfl (g_ne kd_84) ?_
  refine tz_getIw (n := 4) (kz := 25) fk_X11_264 kd_84 (g_at ck_X11_readsPerson 1 rfl) rfl rfl ?_
  rw [hN.1.2]
  refine tz_istore1 (n := 5) (g_at ck_X11_readsPerson 2 rfl) rfl (by decide) g_hpR ?_
  refine tz_aload0 (n := 6) (g_at ck_X11_readsPerson 3 rfl) rfl (g_ne kd_84) ?_
  refine tz_aload0 (n := 7) (g_at ck_X11_readsPerson 4 rfl) rfl (g_ne kd_84) ?_
  refine tz_getIw (n := 10) (kz := 24) fk_X11_254 kd_84 (g_at ck_X11_readsPerson 5 rfl) rfl rfl ?_
  rw [hN.1.1]
  refine tz_cvI1 (n := 13) (μ' := μX11_isOneOf) (cb' := 0) (sb' := 0) ml_X11_261 mo_X11_isOneOf mv_X11_isOneOf np_X11_isOneOf kd_84 (g_at ck_X11_readsPerson 6 rfl) (mp_isOneOf hB hn hG (by omega)) rfl rfl rfl ⟨by decide, by decide⟩ (Nat.le_of_ble_eq_true rfl) (by decide) (by decide) (fun x10 ρ9 m10 hq => ?_)
  obtain ⟨rfl, hR1, hG10, hX10, hx10⟩ := hq
  have hxr10 : x10 = 0 ∨ x10 = 1 := by rw [← hx10]; exact hG10.b.2
  refine tz_if_ne (n := 16) (tgt := 17) (g_at ck_X11_readsPerson 7 rfl) rfl rfl (by omega) (fun h13 => ?_) (fun h13 => ?_)
  · skip
    have o1 := tB_ok (t := t) (n := n) (k := ν 0 0) (s := (nx9 t n s)) hg1 (by omega)
    rw [o1.1] at hG10
    have hK1 := (hG10.g hg1).1
    have vb1 := tv_rg o1.2.1
    have z1 := (hG10.g hg1).2.2.1
    have gz1 := gd9_1 (m10 84 13)
    have hN10 := hN.x hX10 (by decide) (by decide)
    refine tz_aload0 (n := 18) (g_at ck_X11_readsPerson 9 rfl) rfl (g_ne kd_84) ?_
    refine tz_getAv (n := 21) (a := 98) fk_X11_59 kd_84 (ly_84_38 hL) (g_at ck_X11_readsPerson 10 rfl) rfl ?_
    refine tz_iconst (n := 22) (g_at ck_X11_readsPerson 11 rfl) rfl ?_
    refine tz_iload1 (n := 23) (g_at ck_X11_readsPerson 12 rfl) rfl ?_
    refine tz_iadd (n := 24) (g_at ck_X11_readsPerson 13 rfl) rfl ?_
    refine tz_aload0 (n := 25) (g_at ck_X11_readsPerson 14 rfl) rfl (g_ne kd_84) ?_
    refine tz_getIw (n := 28) (kz := 21) fk_X11_159 kd_84 (g_at ck_X11_readsPerson 15 rfl) rfl rfl ?_
    rw [hK1.2.2.2.2.2.2.1 o1.2.1]
    refine tz_iastr (n := 29) kd_98 (by omega) (g_at ck_X11_readsPerson 16 rfl) rfl hR1 (by omega) (fun hR2 => ?_)
    have hGa := hG10.x (L := [98]) (ks := []) hR2 rfl (FX.rf.w (by decide) (fun h9 => absurd h9 (by decide))) (by decide) (by decide)
    refine tz_aload0 (n := 30) (g_at ck_X11_readsPerson 17 rfl) rfl (g_ne kd_84) ?_
    refine tz_cvV0 (n := 33) (μ' := μX11_goes) (cb' := 0) (sb' := 0) ml_X11_195 mo_X11_goes mv_X11_goes np_X11_goes kd_84 (g_at ck_X11_readsPerson 18 rfl) (mp_goes hGa.2.1 hR2 hB hn (show 0 ≤ tQ t n (sP (nx9 t n s)) ∧ tQ t n (sP (nx9 t n s)) ≤ n by have h8 := (hGa.g hg1).2.1; have h9 := tk_rg (t := t) hB h8; omega) hGa.2.2.1 hGa.2.2.2.1 (hGa.g hg1).1.2.2.1) rfl rfl rfl ⟨by decide, by decide⟩ (Nat.le_of_ble_eq_true rfl) (by decide) (by decide) (fun ρ9 m30 hq => ?_)
    obtain ⟨w30, rfl, hR3, hX30, hK30⟩ := hq
    have hq30 : q23 ρ (wr ρ 84 23 w30) := q23.w
    have hG30 := hGa.nx hg1 hB hR3 hq30 hX30 (by decide) (by decide) hK30
    have hL := hG30.2.1
    refine tz_aload0 (n := 34) (g_at ck_X11_readsPerson 19 rfl) rfl (g_ne kd_84) ?_
    refine tz_aload0 (n := 35) (g_at ck_X11_readsPerson 20 rfl) rfl (g_ne kd_84) ?_
    refine tz_getIw (n := 38) (kz := 24) fk_X11_254 kd_84 (g_at ck_X11_readsPerson 21 rfl) rfl rfl ?_
    rw [show m30 84 24 = ν 0 0 by rw [hX30.2 24 (by decide), wr_ne (by decide)]; exact hN10.1.1]
    refine tz_cvI1 (n := 41) (μ' := μX11_isOneOf) (cb' := 0) (sb' := 0) ml_X11_261 mo_X11_isOneOf mv_X11_isOneOf np_X11_isOneOf kd_84 (g_at ck_X11_readsPerson 22 rfl) (mp_isOneOf hB hn hG30 (by omega)) rfl rfl rfl ⟨by decide, by decide⟩ (Nat.le_of_ble_eq_true rfl) (by decide) (by decide) (fun x38 ρ9 m38 hq => ?_)
    obtain ⟨rfl, hR4, hG38, hX38, hx38⟩ := hq
    have hxr38 : x38 = 0 ∨ x38 = 1 := by rw [← hx38]; exact hG38.b.2
    refine tz_if_ne (n := 44) (tgt := 45) (g_at ck_X11_readsPerson 23 rfl) rfl rfl (by omega) (fun h41 => ?_) (fun h41 => ?_)
    · skip
      have o2 := tB_ok (t := t) (n := n) (k := ν 0 0) (s := (nx9 t n (nx9 t n s))) hg1 (by omega)
      rw [o2.1] at hG38
      have hK2 := (hG38.g hg1).1
      have vb2 := tv_rg o2.2.1
      have z2 := (hG38.g hg1).2.2.1
      have gz2 := gd9_1 (m38 84 13)
      refine tz_aload0 (n := 46) (g_at ck_X11_readsPerson 25 rfl) rfl (g_ne kd_84) ?_
      refine tz_getAv (n := 49) (a := 97) fk_X11_56 kd_84 (ly_84_37 hL) (g_at ck_X11_readsPerson 26 rfl) rfl ?_
      refine tz_iload1 (n := 50) (g_at ck_X11_readsPerson 27 rfl) rfl ?_
      refine tz_aload0 (n := 51) (g_at ck_X11_readsPerson 28 rfl) rfl (g_ne kd_84) ?_
      refine tz_getIw (n := 54) (kz := 21) fk_X11_159 kd_84 (g_at ck_X11_readsPerson 29 rfl) rfl rfl ?_
      rw [hK2.2.2.2.2.2.2.1 o2.2.1]
      refine tz_iastr (n := 55) kd_97 (by omega) (g_at ck_X11_readsPerson 30 rfl) rfl hR4 (by omega) (fun hR5 => ?_)
      have hGb := hG38.x (L := [97]) (ks := []) hR5 rfl (FX.rf.w (by decide) (fun h9 => absurd h9 (by decide))) (by decide) (by decide)
      refine tz_aload0 (n := 56) (g_at ck_X11_readsPerson 31 rfl) rfl (g_ne kd_84) ?_
      refine tz_cvV0 (n := 59) (μ' := μX11_goes) (cb' := 0) (sb' := 0) ml_X11_195 mo_X11_goes mv_X11_goes np_X11_goes kd_84 (g_at ck_X11_readsPerson 32 rfl) (mp_goes hGb.2.1 hR5 hB hn (show 0 ≤ tQ t n (sP (nx9 t n (nx9 t n s))) ∧ tQ t n (sP (nx9 t n (nx9 t n s))) ≤ n by have h8 := (hGb.g hg1).2.1; have h9 := tk_rg (t := t) hB h8; omega) hGb.2.2.1 hGb.2.2.2.1 (hGb.g hg1).1.2.2.1) rfl rfl rfl ⟨by decide, by decide⟩ (Nat.le_of_ble_eq_true rfl) (by decide) (by decide) (fun ρ9 m56 hq => ?_)
      obtain ⟨w56, rfl, hR6, hX56, hK56⟩ := hq
      have hq56 : q23 (wr ρ 84 23 w30) (wr (wr ρ 84 23 w30) 84 23 w56) := q23.w
      have hG56 := hGb.nx hg1 hB hR6 hq56 hX56 (by decide) (by decide) hK56
      have hL := hG56.2.1
      refine tz_aload0 (n := 60) (g_at ck_X11_readsPerson 33 rfl) rfl (g_ne kd_84) ?_
      refine tz_getAv (n := 63) (a := 98) fk_X11_59 kd_84 (ly_84_38 hL) (g_at ck_X11_readsPerson 34 rfl) rfl ?_
      refine tz_bipush (n := 65) (g_at ck_X11_readsPerson 35 rfl) rfl rfl ?_
      refine tz_iload1 (n := 66) (g_at ck_X11_readsPerson 36 rfl) rfl ?_
      refine tz_iadd (n := 67) (g_at ck_X11_readsPerson 37 rfl) rfl ?_
      refine tz_aload0 (n := 68) (g_at ck_X11_readsPerson 38 rfl) rfl (g_ne kd_84) ?_
      refine tz_iconst (n := 69) (g_at ck_X11_readsPerson 39 rfl) rfl ?_
      refine tz_bipush (n := 71) (g_at ck_X11_readsPerson 40 rfl) rfl rfl ?_
      refine tz_cvI2 (n := 74) (μ' := μX11_number) (cb' := 0) (sb' := 0) ml_X11_257 mo_X11_number mv_X11_number np_X11_number kd_84 (g_at ck_X11_readsPerson 41 rfl) (mp_number hB hn hG56 (by decide)) rfl rfl rfl ⟨by decide, by decide⟩ (Nat.le_of_ble_eq_true rfl) (by decide) (by decide) (fun x71 ρ9 m71 hq => ?_)
      obtain ⟨hq71, hR7, hG71, hX71, hv71, hr71⟩ := hq
      have hL := hG71.2.1
      refine tz_iastr (n := 75) kd_98 (by omega) (g_at ck_X11_readsPerson 42 rfl) rfl hR7 hr71 (fun hR8 => ?_)
      have hGf := hG71.x (L := [98]) (ks := []) hR8 rfl (FX.rf.w (by decide) (fun h9 => absurd h9 (by decide))) (by decide) (by decide)
      have hfb := hGf.b
      have hgd := gd9_1 ((wr m71 98 (9 + ν 0 1) x71) 84 13)
      refine tz_aload0 (n := 76) (g_at ck_X11_readsPerson 43 rfl) rfl (g_ne kd_84) ?_
      refine tz_cvI0 (n := 79) (μ' := μX11_isGood) (cb' := 0) (sb' := 0) ml_X11_191 mo_X11_isGood mv_X11_isGood np_X11_isGood kd_84 (g_at ck_X11_readsPerson 44 rfl) (mp_isGood hR8) rfl rfl rfl ⟨by decide, by decide⟩ (Nat.le_of_ble_eq_true rfl) (by decide) (by decide) (fun x76 ρ9 m76 hq => ?_)
      obtain ⟨rfl, hR9, rfl, rfl⟩ := hq
      refine tz_if_eq (n := 82) (tgt := 92) (g_at ck_X11_readsPerson 45 rfl) rfl rfl (by omega) (fun h79 => ?_) (fun h79 => ?_)
      · skip
        exact tz_vret (g_at ck_X11_readsPerson 52 rfl) rfl (rV_mk ⟨(hq30.tr hq56).tr hq71, hR9, by rw [(rP_e hg h8c o1.2.2.2 o2.2.2.2).1]; exact hGf, fun h9 => absurd h9 (by rw [(rP_e hg h8c o1.2.2.2 o2.2.2.2).1]; omega), ((((((hX10.sub (by decide) (by decide)).w (by decide) (fun h9 => absurd h9 (by decide))).tr (hX30.sub (by decide) (by decide))).tr (hX38.sub (by decide) (by decide))).w (by decide) (fun h9 => absurd h9 (by decide))).tr (hX56.sub (by decide) (by decide))).tr (hX71.sub (by decide) (by decide)) |>.w (by decide) (fun h9 => absurd h9 (by decide))⟩)
      · skip
        have ok3 : (nA9 t n 99 (nx9 t n (nx9 t n (nx9 t n s)))).1 = 1 := hfb.1.mpr (by omega)
        have hg3 : (nx9 t n (nx9 t n (nx9 t n s))).1 = 1 := hg
        have o3 := nA_ok hg3 ok3
        have ev3 := hv71 hg3 ok3
        have vb3 := tv_rg o3.2.1
        have o33 := o3.2.2.1
        have vl1 := o1.2.2.1
        have vl2 := o2.2.2.1
        refine tz_aload0 (n := 83) (g_at ck_X11_readsPerson 46 rfl) rfl (g_ne kd_84) ?_
        refine tz_dupR (n := 84) (g_at ck_X11_readsPerson 47 rfl) rfl ?_
        refine tz_getIw (n := 87) (kz := 25) fk_X11_264 kd_84 (g_at ck_X11_readsPerson 48 rfl) rfl rfl ?_
        rw [show ∀ y, (wr m71 98 (9 + ν 0 1) y) 84 25 = ν 0 1 from fun y => by rw [wr_ne (by decide), hX71.2 25 (by decide), hX56.2 25 (by decide), wr_ne (by decide), hX38.2 25 (by decide), hX30.2 25 (by decide), wr_ne (by decide)]; exact hN10.1.2]
        refine tz_iconst (n := 88) (g_at ck_X11_readsPerson 49 rfl) rfl ?_
        refine tz_iadd (n := 89) (g_at ck_X11_readsPerson 50 rfl) rfl ?_
        refine tz_putIr (n := 92) (kz := 25) fk_X11_264 kd_84 (g_at ck_X11_readsPerson 51 rfl) rfl hR9 ⟨(by omega), (by omega)⟩ rfl (fun hR10 => ?_)
        exact tz_vret (g_at ck_X11_readsPerson 52 rfl) rfl (rV_mk ⟨(hq30.tr hq56).tr hq71, hR10, by rw [(rP_e hg h8c o1.2.2.2 o2.2.2.2).1]; exact hGf.x (L := [84]) (ks := [25]) hR10 rfl (FX.rf.w (by decide) (fun _ => by decide)) (by decide) (by decide), fun h9 => by rw [(rP_e hg h8c o1.2.2.2 o2.2.2.2).2 h9]; exact ⟨hN10.person (by omega) (by rw [wr_at, if_neg (by decide), wr_ne (by decide), hX71.2 24 (by decide), hX56.2 24 (by decide), wr_ne (by decide), hX38.2 24 (by decide), hX30.2 24 (by decide), wr_ne (by decide)]) wr_same (by rw [wr_ne (by decide), wr_ne (by decide), hX71.1 97 (by decide), hX56.1 97 (by decide), wr_up, hX38.1 97 (by decide), hX30.1 97 (by decide), wr_ne (by decide)]) (by rw [wr_ne (by decide), wr_up, hX71.1 98 (by decide), hX56.1 98 (by decide), wr_ne (by decide), hX38.1 98 (by decide), hX30.1 98 (by decide), wr_up, ev3]) (fun d hd => by rw [wr_ne (by omega), wr_ne (by omega), hX71.1 d (by simp; omega), hX56.1 d (by simp; omega), wr_ne (by omega), hX38.1 d (by simp; omega), hX30.1 d (by simp; omega), wr_ne (by omega)]), hw.person (by omega) (by omega) (by omega) (by omega)⟩, (((((((hX10.sub (by decide) (by decide)).w (by decide) (fun h9 => absurd h9 (by decide))).tr (hX30.sub (by decide) (by decide))).tr (hX38.sub (by decide) (by decide))).w (by decide) (fun h9 => absurd h9 (by decide))).tr (hX56.sub (by decide) (by decide))).tr (hX71.sub (by decide) (by decide)) |>.w (by decide) (fun h9 => absurd h9 (by decide))) |>.w (by decide) (fun _ => by decide)⟩)
    · skip
      exact tz_vret (g_at ck_X11_readsPerson 24 rfl) rfl (rV_mk ⟨hq30, hR4, by rw [rP_3 h8c o1.2.2.2 (tB_no (t := t) (n := n) (k := ν 0 0) (s := (nx9 t n (nx9 t n s))) hg1 (by omega)).2, (tB_no (t := t) (n := n) (k := ν 0 0) (s := (nx9 t n (nx9 t n s))) hg1 (by omega)).1]; exact hG38, fun h9 => absurd h9 (by rw [rP_3 h8c o1.2.2.2 (tB_no (t := t) (n := n) (k := ν 0 0) (s := (nx9 t n (nx9 t n s))) hg1 (by omega)).2]; exact (tB_no (t := t) (n := n) (k := ν 0 0) (s := (nx9 t n (nx9 t n s))) hg1 (by omega)).2), (((hX10.sub (by decide) (by decide)).w (by decide) (fun h9 => absurd h9 (by decide))).tr (hX30.sub (by decide) (by decide))).tr (hX38.sub (by decide) (by decide))⟩)
  · skip
    exact tz_vret (g_at ck_X11_readsPerson 8 rfl) rfl (rV_mk ⟨q23.rf, hR1, by rw [rP_2 h8c (tB_no (t := t) (n := n) (k := ν 0 0) (s := (nx9 t n s)) hg1 (by omega)).2, (tB_no (t := t) (n := n) (k := ν 0 0) (s := (nx9 t n s)) hg1 (by omega)).1]; exact hG10, fun h9 => absurd h9 (by rw [rP_2 h8c (tB_no (t := t) (n := n) (k := ν 0 0) (s := (nx9 t n s)) hg1 (by omega)).2]; exact (tB_no (t := t) (n := n) (k := ν 0 0) (s := (nx9 t n s)) hg1 (by omega)).2), (hX10.sub (by decide) (by decide))⟩)
theorem mp_readsArm {l : Launch} {γ : Gh} {ρ m : Mm} {t : Int → Int} {n : Int} {s : PS} {ν : Mm} (hB : BY t) (hn : 0 ≤ n ∧ n ≤ 700) (hG : GS ρ m t n (nx9 t n s)) (hg : s.1 = 1) (hN : NM m ν) (hw : WN ν) : gE l γ μX11_readsArm 3 0 0 (rV KK fun ρ9 m9 => q23 ρ ρ9 ∧ MR m9 ∧ GS ρ9 m9 t n (rA9 t n s ν).1 ∧ ((rA9 t n s ν).1.1 = 1 → NM m9 (rA9 t n s ν).2 ∧ WN (rA9 t n s ν).2) ∧ FX [84, 98, 102] [13, 14, 17, 18, 19, 20, 21, 22] m m9) xN KK ρ m [vR 84] := by
  refine gE.ofw cl_X11.2 ?_ rfl rfl (Nat.le_of_ble_eq_true rfl)
  show gT l γ μX11_readsArm 3 0 0 _ _ KK ρ m 0 [some (vR 84), none] []
  have hR := hG.1
  have hL := hG.2.1
  have hg1 : (nx9 t n s).1 = 1 := hg
  have hgg := hG.g hg1
  have hw0 := hw.1
  have hw1 := hw.2.1
  have hK1 := hgg.1
  refine tz_aload0 (n := 1) (g_at ck_X11_readsArm 0 rfl) rfl (g_ne kd_84) ?_
  refine tz_aload0 (n := 2) (g_at ck_X11_readsArm 1 rfl) rfl (g_ne kd_84) ?_
  refine tz_getIw (n := 5) (kz := 24) fk_X11_254 kd_84 (g_at ck_X11_readsArm 2 rfl) rfl rfl ?_
  rw [hN.1.1]
  refine tz_cvI1 (n := 8) (μ' := μX11_isOneOf) (cb' := 0) (sb' := 0) ml_X11_261 mo_X11_isOneOf mv_X11_isOneOf np_X11_isOneOf kd_84 (g_at ck_X11_readsArm 3 rfl) (mp_isOneOf hB hn hG (by omega)) rfl rfl rfl ⟨by decide, by decide⟩ (Nat.le_of_ble_eq_true rfl) (by decide) (by decide) (fun x5 ρ9 m5 hq => ?_)
  obtain ⟨rfl, hR1, hG5, hX5, hx5⟩ := hq
  have hxr5 : x5 = 0 ∨ x5 = 1 := by rw [← hx5]; exact hG5.b.2
  refine tz_if_ne (n := 11) (tgt := 12) (g_at ck_X11_readsArm 4 rfl) rfl rfl (by omega) (fun h8 => ?_) (fun h8 => ?_)
  · skip
    have o1 := tB_ok (t := t) (n := n) (k := ν 0 0) (s := (nx9 t n s)) hg1 (by omega)
    rw [o1.1] at hG5
    have hK1 := (hG5.g hg1).1
    have vb1 := tv_rg o1.2.1
    have z1 := (hG5.g hg1).2.2.1
    have gz1 := gd9_1 (m5 84 13)
    have hN5 := hN.x hX5 (by decide) (by decide)
    have hcl := hN5.2.1 (tV t n (sP (nx9 t n s))) (by omega) (by omega)
    have hw3 := hw.2.2.2.1 (tV t n (sP (nx9 t n s))) (by omega) (by omega)
    obtain ⟨c9, ec9⟩ : ∃ c9 : Nat, (tV t n (sP (nx9 t n s))) = (c9 : Int) := ⟨(tV t n (sP (nx9 t n s))).toNat, by omega⟩
    have hb01 : bAnd (bShr (ν 0 2) (tV t n (sP (nx9 t n s)))) 1 = 0 ∨ bAnd (bShr (ν 0 2) (tV t n (sP (nx9 t n s)))) 1 = 1 := by rw [ec9]; exact bt01 _ _
    refine tz_aload0 (n := 13) (g_at ck_X11_readsArm 6 rfl) rfl (g_ne kd_84) ?_
    refine tz_getIw (n := 16) (kz := 21) fk_X11_159 kd_84 (g_at ck_X11_readsArm 7 rfl) rfl rfl ?_
    rw [hK1.2.2.2.2.2.2.1 o1.2.1]
    refine tz_istore1 (n := 17) (g_at ck_X11_readsArm 8 rfl) rfl (by decide) g_hpR ?_
    refine tz_aload0 (n := 18) (g_at ck_X11_readsArm 9 rfl) rfl (g_ne kd_84) ?_
    refine tz_getAv (n := 21) (a := 102) fk_X11_72 kd_84 (ly_84_42 hL) (g_at ck_X11_readsArm 10 rfl) rfl ?_
    refine tz_iload1 (n := 22) (g_at ck_X11_readsArm 11 rfl) rfl ?_
    refine tz_zald (n := 23) kd_102 (by omega) (g_at ck_X11_readsArm 12 rfl) rfl ?_
    rw [hcl.2.2.2]
    refine tz_if_eq (n := 26) (tgt := 31) (g_at ck_X11_readsArm 13 rfl) rfl rfl (by omega) (fun h23 => ?_) (fun h23 => ?_)
    · skip
      refine tz_aload0 (n := 32) (g_at ck_X11_readsArm 17 rfl) rfl (g_ne kd_84) ?_
      refine tz_cvI0 (n := 35) (μ' := μX11_isGood) (cb' := 0) (sb' := 0) ml_X11_191 mo_X11_isGood mv_X11_isGood np_X11_isGood kd_84 (g_at ck_X11_readsArm 18 rfl) (mp_isGood hR1) rfl rfl rfl ⟨by decide, by decide⟩ (Nat.le_of_ble_eq_true rfl) (by decide) (by decide) (fun x32 ρ9 m32 hq => ?_)
      obtain ⟨rfl, hR2, rfl, rfl⟩ := hq
      refine tz_if_ne (n := 38) (tgt := 39) (g_at ck_X11_readsArm 19 rfl) rfl rfl (by omega) (fun h35 => ?_) (fun h35 => absurd h35 (by omega))
      refine tz_aload0 (n := 40) (g_at ck_X11_readsArm 21 rfl) rfl (g_ne kd_84) ?_
      refine tz_cvV0 (n := 43) (μ' := μX11_goes) (cb' := 0) (sb' := 0) ml_X11_195 mo_X11_goes mv_X11_goes np_X11_goes kd_84 (g_at ck_X11_readsArm 22 rfl) (mp_goes hG5.2.1 hR2 hB hn (show 0 ≤ tQ t n (sP (nx9 t n s)) ∧ tQ t n (sP (nx9 t n s)) ≤ n by have h8 := (hG5.g hg1).2.1; have h9 := tk_rg (t := t) hB h8; omega) hG5.2.2.1 hG5.2.2.2.1 (hG5.g hg1).1.2.2.1) rfl rfl rfl ⟨by decide, by decide⟩ (Nat.le_of_ble_eq_true rfl) (by decide) (by decide) (fun ρ9 m40 hq => ?_)
      obtain ⟨w40, rfl, hR3, hX40, hK40⟩ := hq
      have hq40 : q23 ρ (wr ρ 84 23 w40) := q23.w
      have hG40 := hG5.nx hg1 hB hR3 hq40 hX40 (by decide) (by decide) hK40
      have hL := hG40.2.1
      have hN40 := hN5.x hX40 (by decide) (by decide)
      have hcm := hN40.2.1 (tV t n (sP (nx9 t n s))) (by omega) (by omega)
      refine tz_aload0 (n := 44) (g_at ck_X11_readsArm 23 rfl) rfl (g_ne kd_84) ?_
      refine tz_aload0 (n := 45) (g_at ck_X11_readsArm 24 rfl) rfl (g_ne kd_84) ?_
      refine tz_getAv (n := 48) (a := 95) fk_X11_50 kd_84 (ly_84_35 hL) (g_at ck_X11_readsArm 25 rfl) rfl ?_
      refine tz_iload1 (n := 49) (g_at ck_X11_readsArm 26 rfl) rfl ?_
      refine tz_iald (n := 50) kd_95 (by omega) (g_at ck_X11_readsArm 27 rfl) rfl ?_
      rw [hcm.2.2.1]
      refine tz_cvI1 (n := 53) (μ' := μX11_isOneOf) (cb' := 0) (sb' := 0) ml_X11_261 mo_X11_isOneOf mv_X11_isOneOf np_X11_isOneOf kd_84 (g_at ck_X11_readsArm 28 rfl) (mp_isOneOf hB hn hG40 (by omega)) rfl rfl rfl ⟨by decide, by decide⟩ (Nat.le_of_ble_eq_true rfl) (by decide) (by decide) (fun x50 ρ9 m50 hq => ?_)
      obtain ⟨rfl, hR4, hG50, hX50, hx50⟩ := hq
      have hxr50 : x50 = 0 ∨ x50 = 1 := by rw [← hx50]; exact hG50.b.2
      refine tz_if_ne (n := 56) (tgt := 57) (g_at ck_X11_readsArm 29 rfl) rfl rfl (by omega) (fun h53 => ?_) (fun h53 => ?_)
      · skip
        have o2 := tB_ok (t := t) (n := n) (k := ν 3 (tV t n (sP (nx9 t n s)))) (s := (nx9 t n (nx9 t n s))) hg1 (by omega)
        rw [o2.1] at hG50
        have hK2 := (hG50.g hg1).1
        have vb2 := tv_rg o2.2.1
        have z2 := (hG50.g hg1).2.2.1
        have gz2 := gd9_1 (m50 84 13)
        have hN50 := hN40.x hX50 (by decide) (by decide)
        refine tz_aload0 (n := 58) (g_at ck_X11_readsArm 31 rfl) rfl (g_ne kd_84) ?_
        refine tz_getAv (n := 61) (a := 98) fk_X11_59 kd_84 (ly_84_38 hL) (g_at ck_X11_readsArm 32 rfl) rfl ?_
        refine tz_bipush (n := 63) (g_at ck_X11_readsArm 33 rfl) rfl rfl ?_
        refine tz_iload1 (n := 64) (g_at ck_X11_readsArm 34 rfl) rfl ?_
        refine tz_iadd (n := 65) (g_at ck_X11_readsArm 35 rfl) rfl ?_
        refine tz_aload0 (n := 66) (g_at ck_X11_readsArm 36 rfl) rfl (g_ne kd_84) ?_
        refine tz_getIw (n := 69) (kz := 21) fk_X11_159 kd_84 (g_at ck_X11_readsArm 37 rfl) rfl rfl ?_
        rw [hK2.2.2.2.2.2.2.1 o2.2.1]
        refine tz_iastr (n := 70) kd_98 (by omega) (g_at ck_X11_readsArm 38 rfl) rfl hR4 (by omega) (fun hR5 => ?_)
        refine tz_aload0 (n := 71) (g_at ck_X11_readsArm 39 rfl) rfl (g_ne kd_84) ?_
        refine tz_getAv (n := 74) (a := 102) fk_X11_72 kd_84 (ly_84_42 hL) (g_at ck_X11_readsArm 40 rfl) rfl ?_
        refine tz_iload1 (n := 75) (g_at ck_X11_readsArm 41 rfl) rfl ?_
        refine tz_iconst (n := 76) (g_at ck_X11_readsArm 42 rfl) rfl ?_
        refine tz_zastr (n := 77) kd_102 (by omega) (g_at ck_X11_readsArm 43 rfl) rfl hR5 (Or.inr rfl) (fun hR6 => ?_)
        have hGw := hG50.x (L := [98, 102]) (ks := []) hR6 rfl ((FX.rf.w (by decide) (fun h9 => absurd h9 (by decide))).w (by decide) (fun h9 => absurd h9 (by decide))) (by decide) (by decide)
        refine tz_aload0 (n := 78) (g_at ck_X11_readsArm 44 rfl) rfl (g_ne kd_84) ?_
        refine tz_cvV0 (n := 81) (μ' := μX11_goes) (cb' := 0) (sb' := 0) ml_X11_195 mo_X11_goes mv_X11_goes np_X11_goes kd_84 (g_at ck_X11_readsArm 45 rfl) (mp_goes hGw.2.1 hR6 hB hn (show 0 ≤ tQ t n (sP (nx9 t n (nx9 t n s))) ∧ tQ t n (sP (nx9 t n (nx9 t n s))) ≤ n by have h8 := (hGw.g hg1).2.1; have h9 := tk_rg (t := t) hB h8; omega) hGw.2.2.1 hGw.2.2.2.1 (hGw.g hg1).1.2.2.1) rfl rfl rfl ⟨by decide, by decide⟩ (Nat.le_of_ble_eq_true rfl) (by decide) (by decide) (fun ρ9 m78 hq => ?_)
        obtain ⟨w78, rfl, hR7, hX78, hK78⟩ := hq
        have hq78 : q23 (wr ρ 84 23 w40) (wr (wr ρ 84 23 w40) 84 23 w78) := q23.w
        have hG78 := hGw.nx hg1 hB hR7 hq78 hX78 (by decide) (by decide) hK78
        have hL := hG78.2.1
        exact tz_vret (g_at ck_X11_readsArm 46 rfl) rfl (rV_mk ⟨hq40.tr hq78, hR7, by rw [rA_4 o1.2.2.2 (by omega) o2.2.2.2]; exact hG78, fun _ => by rw [rA_4 o1.2.2.2 (by omega) o2.2.2.2]; exact ⟨hN50.arm hw (by omega) (fun j hj => by rw [hX78.2 j (by simp; omega), wr_ne (by decide), wr_ne (by decide)]) (by rw [hX78.1 98 (by decide), wr_ne (by decide), wr_up]) (by rw [hX78.1 102 (by decide), wr_up, wr_ne (by decide)]) (fun c hc => by rw [hX78.1 c (by simp; omega), wr_ne (by omega), wr_ne (by omega)]), hw.arm (by omega) (by omega) (bit_set (c := 0) (x := ν 0 2) (a := (tV t n (sP (nx9 t n s)))) hw.2.2.1 (by decide) (by omega)).2⟩, ((((hX5.sub (by decide) (by decide)).tr (hX40.sub (by decide) (by decide))).tr (hX50.sub (by decide) (by decide))).w (by decide) (fun h9 => absurd h9 (by decide)) |>.w (by decide) (fun h9 => absurd h9 (by decide))).tr (hX78.sub (by decide) (by decide))⟩)
      · skip
        exact tz_vret (g_at ck_X11_readsArm 30 rfl) rfl (rV_mk ⟨hq40, hR4, by rw [rA_3 o1.2.2.2 (by omega) (tB_no (t := t) (n := n) (k := ν 3 (tV t n (sP (nx9 t n s)))) (s := (nx9 t n (nx9 t n s))) hg1 (by omega)).2, (tB_no (t := t) (n := n) (k := ν 3 (tV t n (sP (nx9 t n s)))) (s := (nx9 t n (nx9 t n s))) hg1 (by omega)).1]; exact hG50, fun h9 => absurd h9 (by rw [rA_3 o1.2.2.2 (by omega) (tB_no (t := t) (n := n) (k := ν 3 (tV t n (sP (nx9 t n s)))) (s := (nx9 t n (nx9 t n s))) hg1 (by omega)).2]; exact (tB_no (t := t) (n := n) (k := ν 3 (tV t n (sP (nx9 t n s)))) (s := (nx9 t n (nx9 t n s))) hg1 (by omega)).2), ((hX5.sub (by decide) (by decide)).tr (hX40.sub (by decide) (by decide))).tr (hX50.sub (by decide) (by decide))⟩)
    · skip
      refine tz_aload0 (n := 27) (g_at ck_X11_readsArm 14 rfl) rfl (g_ne kd_84) ?_
      refine tz_iconst (n := 28) (g_at ck_X11_readsArm 15 rfl) rfl ?_
      refine tz_cvV1 (n := 31) (μ' := μX11_wrong) (cb' := 0) (sb' := 0) ml_X11_198 mo_X11_wrong mv_X11_wrong np_X11_wrong kd_84 (g_at ck_X11_readsArm 16 rfl) (mp_wrong hB hn hG5 hg1 (by decide)) rfl rfl rfl ⟨by decide, by decide⟩ (Nat.le_of_ble_eq_true rfl) (by decide) (by decide) (fun ρ9 m28 hq => ?_)
      obtain ⟨rfl, hR8, hG28, hX28⟩ := hq
      have hfz28 := hG28.fl0
      have hgw28 := gd9_1 (m28 84 13)
      refine tz_aload0 (n := 32) (g_at ck_X11_readsArm 17 rfl) rfl (g_ne kd_84) ?_
      refine tz_cvI0 (n := 35) (μ' := μX11_isGood) (cb' := 0) (sb' := 0) ml_X11_191 mo_X11_isGood mv_X11_isGood np_X11_isGood kd_84 (g_at ck_X11_readsArm 18 rfl) (mp_isGood hR8) rfl rfl rfl ⟨by decide, by decide⟩ (Nat.le_of_ble_eq_true rfl) (by decide) (by decide) (fun x32 ρ9 m32 hq => ?_)
      obtain ⟨rfl, hR9, rfl, rfl⟩ := hq
      refine tz_if_ne (n := 38) (tgt := 39) (g_at ck_X11_readsArm 19 rfl) rfl rfl (by omega) (fun h35 => absurd h35 (by omega)) (fun h35 => ?_)
      exact tz_vret (g_at ck_X11_readsArm 20 rfl) rfl (rV_mk ⟨q23.rf, hR9, by rw [rA_2 o1.2.2.2 (by omega)]; exact hG28, fun h9 => absurd h9 (by rw [rA_2 o1.2.2.2 (by omega)]; exact fl_n), (hX5.sub (by decide) (by decide)).tr (hX28.sub (by decide) (by decide))⟩)
  · skip
    exact tz_vret (g_at ck_X11_readsArm 5 rfl) rfl (rV_mk ⟨q23.rf, hR1, by rw [rA_1 (tB_no (t := t) (n := n) (k := ν 0 0) (s := (nx9 t n s)) hg1 (by omega)).2, (tB_no (t := t) (n := n) (k := ν 0 0) (s := (nx9 t n s)) hg1 (by omega)).1]; exact hG5, fun h9 => absurd h9 (by rw [rA_1 (tB_no (t := t) (n := n) (k := ν 0 0) (s := (nx9 t n s)) hg1 (by omega)).2]; exact (tB_no (t := t) (n := n) (k := ν 0 0) (s := (nx9 t n s)) hg1 (by omega)).2), (hX5.sub (by decide) (by decide))⟩)
