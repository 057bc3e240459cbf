/-! Rules: tests, nots; all of it. -/
theorem no9_stay {t : Int → Int} {n p : Int} {i : Nat} (h : ¬ wdI t n (no9 t n p i).2 7 = 1) : ∀ k : Nat, i ≤ k → no9 t n p k = no9 t n p i
  | 0, hk => by
    have : i = 0 := by omega
    rw [this]
  | k + 1, hk => by
    by_cases e : i = k + 1
    · rw [e]
    · have ih := no9_stay h k (by omega)
      show (if wdI t n (no9 t n p k).2 7 = 1 then ((no9 t n p k).1 + 1, tQ t n (no9 t n p k).2) else no9 t n p k) = _
      rw [ih, if_neg h]
theorem no9_rg {t : Int → Int} {n p : Int} : ∀ k : Nat, 0 ≤ (no9 t n p k).1 ∧ (no9 t n p k).1 ≤ k
  | 0 => by show (0 : Int) ≤ 0 ∧ (0 : Int) ≤ ((0 : Nat) : Int); decide
  | k + 1 => by
    have ih := no9_rg (t := t) (n := n) (p := p) k
    have e : no9 t n p (k + 1) = if wdI t n (no9 t n p k).2 7 = 1 then ((no9 t n p k).1 + 1, tQ t n (no9 t n p k).2) else no9 t n p k := rfl
    rw [e]
    split
    · simp only []; omega
    · omega
theorem aN9_1 (s : PS) : ∀ k : Nat, (aN9 k s).1 = s.1
  | 0 => rfl
  | k + 1 => aN9_1 s k
theorem sp_readTest {l : Launch} {γ : Gh} {ρ m : Mm} {d : Nat} {w : Int} {F : PS → PS} {t : Int → Int} {n u : Int} {s : PS} (hL : LY ρ) (hB : BY t) (hn : 0 ≤ n ∧ n ≤ 700) (hD : RD ρ m t n u s) (h1 : s.1 = 1) (hd : 7 ≤ d) (hP : Ct l γ ρ t n μX3_readSum d w F) : gE l γ μX3_readTest (d + 1) 0 0 (rI KK fun x ρ9 m9 => ρ = ρ9 ∧ MR m9 ∧ RD ρ9 m9 t n u (ch9 t n (tT9 t n) F s 1) ∧ (ch9 t n (tT9 t n) F s 1).1 = x ∧ FE u m m9) xN KK ρ m [vR 37, vI w] := by
  refine gE.ofw cl_X3.2 ?_ rfl rfl (Nat.le_of_ble_eq_true rfl)
  show gT l γ μX3_readTest (d + 1) 0 0 _ _ KK ρ m 0 [some (vR 37), some (vI w), none, none] []
  have hR := hD.r
  have hp := hD.p
  have hr9 := tk_rg (n := n) hB hp
  have hu4 := hD.u4
  unfold isR4 at hu4
  refine tz_aload0 (n := 1) (g_at ck_X3_readTest 0 rfl) rfl (g_ne kd_37) ?_
  refine tz_iload1 (n := 2) (g_at ck_X3_readTest 1 rfl) rfl ?_
  refine tz_cvI1 (n := 5) (μ' := μX3_readSum) (cb' := 0) (sb' := 0) ml_X3_188 mo_X3_readSum mv_X3_readSum np_X3_readSum kd_37 (g_at ck_X3_readTest 2 rfl) (hP u _ s hD h1) rfl rfl rfl ⟨by omega, by decide⟩ (Nat.le_of_ble_eq_true rfl) (by decide) (by decide) (fun x2 ρ9 m2 hq => ?_)
  obtain ⟨rfl, hR1, hD2, rfl, hF2⟩ := hq
  have ho2 := hD2.o
  have hp2 := hD2.p
  have hr2 := tk_rg (n := n) hB hp2
  refine tz_istore2 (n := 6) (g_at ck_X3_readTest 3 rfl) rfl (by decide) g_hpI ?_
  refine tz_iload2 (n := 7) (g_at ck_X3_readTest 4 rfl) rfl ?_
  refine tz_if_eq (n := 10) (tgt := 75) (g_at ck_X3_readTest 5 rfl) rfl rfl (by omega) (fun h7 => ?_) (fun h7 => ?_)
  · skip
    refine tz_iload2 (n := 76) (g_at ck_X3_readTest 36 rfl) rfl ?_
    exact tz_bret (g_at ck_X3_readTest 37 rfl) rfl (by first | exact hDa.o | exact hD2.o) (rI_mk (by have es : ch9 t n (tT9 t n) F s 1 = F s := (show st9 t n (tT9 t n) F (F s) = F s from if_neg (fun h9 => absurd h9.1 (by omega))); rw [es]; exact ⟨rfl, hR1, hD2, rfl, hF2⟩))
  · skip
    refine tz_aload0 (n := 11) (g_at ck_X3_readTest 6 rfl) rfl (g_ne kd_37) ?_
    refine tz_getOv (n := 14) (a := 38) fk_X3_14 kd_37 (ly_37_0 hL) (g_at ck_X3_readTest 7 rfl) rfl ?_
    refine tz_getIw (n := 17) (kz := 3) fk_X3_47 kd_38 (g_at ck_X3_readTest 8 rfl) rfl rfl ?_
    rw [hD2.tk.k]
    refine tz_bipush (n := 19) (g_at ck_X3_readTest 9 rfl) rfl rfl ?_
    refine tz_icmp_eq (n := 22) (tgt := 34) (g_at ck_X3_readTest 10 rfl) rfl rfl ⟨by omega, by omega, by decide, by decide⟩ (fun h19 => ?_) (fun h19 => ?_)
    · skip
      refine tz_aload0 (n := 35) (g_at ck_X3_readTest 16 rfl) rfl (g_ne kd_37) ?_
      refine tz_getOv (n := 38) (a := 38) fk_X3_14 kd_37 (ly_37_0 hL) (g_at ck_X3_readTest 17 rfl) rfl ?_
      refine tz_getIw (n := 41) (kz := 3) fk_X3_47 kd_38 (g_at ck_X3_readTest 18 rfl) rfl rfl ?_
      rw [hD2.tk.k]
      refine tz_bipush (n := 43) (g_at ck_X3_readTest 19 rfl) rfl rfl ?_
      refine tz_icmp_ne (n := 46) (tgt := 51) (g_at ck_X3_readTest 20 rfl) rfl rfl ⟨by omega, by omega, by decide, by decide⟩ (fun h43 => absurd h43 (by omega)) (fun h43 => ?_)
      refine tz_bipush (n := 48) (g_at ck_X3_readTest 21 rfl) rfl rfl ?_
      refine tz_goto (tgt := 53) (g_at ck_X3_readTest 22 rfl) rfl ?_
      refine tz_istore3 (n := 54) (g_at ck_X3_readTest 24 rfl) rfl (by decide) g_hpI ?_
      refine tz_aload0 (n := 55) (g_at ck_X3_readTest 25 rfl) rfl (g_ne kd_37) ?_
      refine tz_getOv (n := 58) (a := 38) fk_X3_14 kd_37 (ly_37_0 hL) (g_at ck_X3_readTest 26 rfl) rfl ?_
      refine tz_cvV0 (n := 61) (μ' := μX7_advance) (cb' := 0) (sb' := 0) ml_X3_101 mo_X7_advance mv_X7_advance np_X7_advance kd_38 (g_at ck_X3_readTest 27 rfl) (sp_advance hL hR1 hB hn (show 0 ≤ tQ t n (sP (F s)) ∧ tQ t n (sP (F s)) ≤ n by omega) hD2.tk.1 hD2.tk.2.1 hD2.tk.q) rfl rfl rfl ⟨by omega, by decide⟩ (Nat.le_of_ble_eq_true rfl) (by decide) (by decide) (fun ρ9 m58 hq => ?_)
      obtain ⟨rfl, hR2, hF58, hC58⟩ := hq
      have hD58 := hD2.nx hB hR2 hF58 hC58
      have hE58 : FE u m2 m58 := FE.tok hF58
      refine tz_aload0 (n := 62) (g_at ck_X3_readTest 28 rfl) rfl (g_ne kd_37) ?_
      refine tz_iload1 (n := 63) (g_at ck_X3_readTest 29 rfl) rfl ?_
      refine tz_cvI1 (n := 66) (μ' := μX3_readSum) (cb' := 0) (sb' := 0) ml_X3_188 mo_X3_readSum mv_X3_readSum np_X3_readSum kd_37 (g_at ck_X3_readTest 30 rfl) (hP u _ (nx9 t n (F s)) hD58 (show (F s).1 = 1 by omega)) rfl rfl rfl ⟨by omega, by decide⟩ (Nat.le_of_ble_eq_true rfl) (by decide) (by decide) (fun x63 ρ9 m63 hq => ?_)
      obtain ⟨rfl, hR3, hD63, rfl, hF63⟩ := hq
      have ho63 := hD63.o
      refine tz_istore2 (n := 67) (g_at ck_X3_readTest 31 rfl) rfl (by decide) g_hpI ?_
      refine tz_aload0 (n := 68) (g_at ck_X3_readTest 32 rfl) rfl (g_ne kd_37) ?_
      refine tz_getOv (n := 71) (a := u) fk_X3_30 kd_37 (by first | exact hDi.ru | exact hD.ru) (g_at ck_X3_readTest 33 rfl) rfl ?_
      refine tz_iload3 (n := 72) (g_at ck_X3_readTest 34 rfl) rfl ?_
      refine tz_cvV1 (n := 75) (μ' := μX4_add) (cb' := 0) (sb' := 0) ml_X3_175 mo_X4_add mv_X4_add np_X4_add (isU_r4 hL hD.u4).k0 (g_at ck_X3_readTest 35 rfl) (sp_ruleAddT (isU_r4 hL hD.u4) hR3 (FE.l2 hD63.l) (by decide)) rfl rfl rfl ⟨by omega, by decide⟩ (Nat.le_of_ble_eq_true rfl) (by decide) (by decide) (fun ρ9 m72 hq => ?_)
      obtain ⟨rfl, hR4, rfl⟩ := hq
      have hDa := hD63.ad (x := -9) hR4
      refine tz_iload2 (n := 76) (g_at ck_X3_readTest 36 rfl) rfl ?_
      exact tz_bret (g_at ck_X3_readTest 37 rfl) rfl (by first | exact hDa.o | exact hD2.o) (rI_mk (by have et : tT9 t n (sP (F s)) = -9 := if_pos h19; have e9 : ch9 t n (tT9 t n) F s 1 = ad9 (-9) (F (nx9 t n (F s))) := (show st9 t n (tT9 t n) F (F s) = _ by unfold st9; rw [if_pos ⟨by omega, by rw [et]; decide⟩, et]); rw [e9]; exact ⟨rfl, hR4, hDa, rfl, ((hF2.tr hE58).tr hF63).tr (FE.add hD.u4)⟩))
    · skip
      refine tz_aload0 (n := 23) (g_at ck_X3_readTest 11 rfl) rfl (g_ne kd_37) ?_
      refine tz_getOv (n := 26) (a := 38) fk_X3_14 kd_37 (ly_37_0 hL) (g_at ck_X3_readTest 12 rfl) rfl ?_
      refine tz_getIw (n := 29) (kz := 3) fk_X3_47 kd_38 (g_at ck_X3_readTest 13 rfl) rfl rfl ?_
      rw [hD2.tk.k]
      refine tz_bipush (n := 31) (g_at ck_X3_readTest 14 rfl) rfl rfl ?_
      refine tz_icmp_ne (n := 34) (tgt := 75) (g_at ck_X3_readTest 15 rfl) rfl rfl ⟨by omega, by omega, by decide, by decide⟩ (fun h31 => ?_) (fun h31 => ?_)
      · skip
        refine tz_iload2 (n := 76) (g_at ck_X3_readTest 36 rfl) rfl ?_
        exact tz_bret (g_at ck_X3_readTest 37 rfl) rfl (by first | exact hDa.o | exact hD2.o) (rI_mk (by have es : ch9 t n (tT9 t n) F s 1 = F s := if_neg (fun h9 => h9.2 ((if_neg h19).trans (if_neg h31))); rw [es]; exact ⟨rfl, hR1, hD2, rfl, hF2⟩))
      · skip
        refine tz_aload0 (n := 35) (g_at ck_X3_readTest 16 rfl) rfl (g_ne kd_37) ?_
        refine tz_getOv (n := 38) (a := 38) fk_X3_14 kd_37 (ly_37_0 hL) (g_at ck_X3_readTest 17 rfl) rfl ?_
        refine tz_getIw (n := 41) (kz := 3) fk_X3_47 kd_38 (g_at ck_X3_readTest 18 rfl) rfl rfl ?_
        rw [hD2.tk.k]
        refine tz_bipush (n := 43) (g_at ck_X3_readTest 19 rfl) rfl rfl ?_
        refine tz_icmp_ne (n := 46) (tgt := 51) (g_at ck_X3_readTest 20 rfl) rfl rfl ⟨by omega, by omega, by decide, by decide⟩ (fun h43 => ?_) (fun h43 => absurd h43 (by omega))
        refine tz_bipush (n := 53) (g_at ck_X3_readTest 23 rfl) rfl rfl ?_
        refine tz_istore3 (n := 54) (g_at ck_X3_readTest 24 rfl) rfl (by decide) g_hpI ?_
        refine tz_aload0 (n := 55) (g_at ck_X3_readTest 25 rfl) rfl (g_ne kd_37) ?_
        refine tz_getOv (n := 58) (a := 38) fk_X3_14 kd_37 (ly_37_0 hL) (g_at ck_X3_readTest 26 rfl) rfl ?_
        refine tz_cvV0 (n := 61) (μ' := μX7_advance) (cb' := 0) (sb' := 0) ml_X3_101 mo_X7_advance mv_X7_advance np_X7_advance kd_38 (g_at ck_X3_readTest 27 rfl) (sp_advance hL hR1 hB hn (show 0 ≤ tQ t n (sP (F s)) ∧ tQ t n (sP (F s)) ≤ n by omega) hD2.tk.1 hD2.tk.2.1 hD2.tk.q) rfl rfl rfl ⟨by omega, by decide⟩ (Nat.le_of_ble_eq_true rfl) (by decide) (by decide) (fun ρ9 m58 hq => ?_)
        obtain ⟨rfl, hR5, hF58, hC58⟩ := hq
        have hD58 := hD2.nx hB hR5 hF58 hC58
        have hE58 : FE u m2 m58 := FE.tok hF58
        refine tz_aload0 (n := 62) (g_at ck_X3_readTest 28 rfl) rfl (g_ne kd_37) ?_
        refine tz_iload1 (n := 63) (g_at ck_X3_readTest 29 rfl) rfl ?_
        refine tz_cvI1 (n := 66) (μ' := μX3_readSum) (cb' := 0) (sb' := 0) ml_X3_188 mo_X3_readSum mv_X3_readSum np_X3_readSum kd_37 (g_at ck_X3_readTest 30 rfl) (hP u _ (nx9 t n (F s)) hD58 (show (F s).1 = 1 by omega)) rfl rfl rfl ⟨by omega, by decide⟩ (Nat.le_of_ble_eq_true rfl) (by decide) (by decide) (fun x63 ρ9 m63 hq => ?_)
        obtain ⟨rfl, hR6, hD63, rfl, hF63⟩ := hq
        have ho63 := hD63.o
        refine tz_istore2 (n := 67) (g_at ck_X3_readTest 31 rfl) rfl (by decide) g_hpI ?_
        refine tz_aload0 (n := 68) (g_at ck_X3_readTest 32 rfl) rfl (g_ne kd_37) ?_
        refine tz_getOv (n := 71) (a := u) fk_X3_30 kd_37 (by first | exact hDi.ru | exact hD.ru) (g_at ck_X3_readTest 33 rfl) rfl ?_
        refine tz_iload3 (n := 72) (g_at ck_X3_readTest 34 rfl) rfl ?_
        refine tz_cvV1 (n := 75) (μ' := μX4_add) (cb' := 0) (sb' := 0) ml_X3_175 mo_X4_add mv_X4_add np_X4_add (isU_r4 hL hD.u4).k0 (g_at ck_X3_readTest 35 rfl) (sp_ruleAddT (isU_r4 hL hD.u4) hR6 (FE.l2 hD63.l) (by decide)) rfl rfl rfl ⟨by omega, by decide⟩ (Nat.le_of_ble_eq_true rfl) (by decide) (by decide) (fun ρ9 m72 hq => ?_)
        obtain ⟨rfl, hR7, rfl⟩ := hq
        have hDa := hD63.ad (x := -10) hR7
        refine tz_iload2 (n := 76) (g_at ck_X3_readTest 36 rfl) rfl ?_
        exact tz_bret (g_at ck_X3_readTest 37 rfl) rfl (by first | exact hDa.o | exact hD2.o) (rI_mk (by have et : tT9 t n (sP (F s)) = -10 := (if_neg h19).trans (if_pos h31); have e9 : ch9 t n (tT9 t n) F s 1 = ad9 (-10) (F (nx9 t n (F s))) := (show st9 t n (tT9 t n) F (F s) = _ by unfold st9; rw [if_pos ⟨by omega, by rw [et]; decide⟩, et]); rw [e9]; exact ⟨rfl, hR7, hDa, rfl, ((hF2.tr hE58).tr hF63).tr (FE.add hD.u4)⟩))
theorem sp_readNot {l : Launch} {γ : Gh} {ρ m : Mm} {d : Nat} {w : Int} {G : PS → PS} {t : Int → Int} {n u : Int} {s : PS} (hL : LY ρ) (hB : BY t) (hn : 0 ≤ n ∧ n ≤ 700) (hD : RD ρ m t n u s) (h1 : s.1 = 1) (hd : 7 ≤ d) (hP : Ct l γ ρ t n μX3_readTest d w G) : gE l γ μX3_readNot (d + 1) 0 0 (rI KK fun x ρ9 m9 => ρ = ρ9 ∧ MR m9 ∧ RD ρ9 m9 t n u (pn9 t n G s) ∧ (pn9 t n G s).1 = x ∧ FE u m m9) xN KK ρ m [vR 37, vI w] := by
  refine gE.ofw cl_X3.2 ?_ rfl rfl (Nat.le_of_ble_eq_true rfl)
  show gT l γ μX3_readNot (d + 1) 0 0 _ _ KK ρ m 0 [some (vR 37), some (vI w), none, none, none] []
  have hR := hD.r
  have hp := hD.p
  have hr9 := tk_rg (n := n) hB hp
  have hu4 := hD.u4
  unfold isR4 at hu4
  have hn6 := no9_rg (t := t) (n := n) (p := sP s) 6
  refine g_cut (T := ∀ m1 : Mm, (RD ρ m1 t n u (at9 (no9 t n (sP s) 6).2 s) ∧ FE u m m1 ∧ ¬ ((no9 t n (sP s) 6).1 = 6 ∧ wdI t n (no9 t n (sP s) 6).2 7 = 1)) → gT l γ μX3_readNot (d + 1) 0 0 (rI KK fun x ρ9 m9 => ρ = ρ9 ∧ MR m9 ∧ RD ρ9 m9 t n u (pn9 t n G s) ∧ (pn9 t n G s).1 = x ∧ FE u m m9) xN KK ρ m1 57 [some (vR 37), some (vI w), some (vI (no9 t n (sP s) 6).1), none, none] []) (fun hj57 => ?_) ?_
  · skip
    refine tz_iconst (n := 1) (g_at ck_X3_readNot 0 rfl) rfl ?_
    refine tz_istore2 (n := 2) (g_at ck_X3_readNot 1 rfl) rfl (by decide) g_hpI ?_
    refine g_for (fun i : Nat => ∀ m1 : Mm, (RD ρ m1 t n u (at9 (no9 t n (sP s) i).2 s) ∧ FE u m m1 ∧ (no9 t n (sP s) i).1 = (i : Int)) → gT l γ μX3_readNot (d + 1) 0 0 _ _ KK ρ m1 2 [some (vR 37), some (vI w), some (vI (i : Int)), none, none] []) 6 ?_ (fun i hi ihi => ?_) 0 (Nat.zero_le _) _ ⟨hD, FE.rf, rfl⟩
    · intro m1 hinv
      obtain ⟨hDi, hFi, hci⟩ := hinv
      have hRi := hDi.r
      refine tz_iload2 (n := 3) (g_at ck_X3_readNot 2 rfl) rfl ?_
      refine tz_bipush (n := 5) (g_at ck_X3_readNot 3 rfl) rfl rfl ?_
      refine tz_icmp_ge (n := 8) (tgt := 33) (g_at ck_X3_readNot 4 rfl) rfl rfl ⟨(by omega), (by omega), (by decide), (by decide)⟩ (fun h5 => ?_) (fun h5 => absurd h5 (by omega))
      refine tz_iload2 (n := 34) (g_at ck_X3_readNot 15 rfl) rfl ?_
      refine tz_bipush (n := 36) (g_at ck_X3_readNot 16 rfl) rfl rfl ?_
      refine tz_icmp_ne (n := 39) (tgt := 57) (g_at ck_X3_readNot 17 rfl) rfl rfl ⟨by omega, by omega, by decide, by decide⟩ (fun h36 => absurd h36 (by omega)) (fun h36 => ?_)
      refine tz_aload0 (n := 40) (g_at ck_X3_readNot 18 rfl) rfl (g_ne kd_37) ?_
      refine tz_getOv (n := 43) (a := 38) fk_X3_14 kd_37 (ly_37_0 hL) (g_at ck_X3_readNot 19 rfl) rfl ?_
      refine tz_ldcSw (n := 45) st_7 (g_at ck_X3_readNot 20 rfl) rfl ?_
      refine tz_cvI1 (n := 48) (μ' := μX7_isWord) (cb' := 0) (sb' := 0) ml_X3_62 mo_X7_isWord mv_X7_isWord np_X7_isWord kd_38 (g_at ck_X3_readNot 21 rfl) (sp_isWord (i9 := 7) sn_7 hL hRi hB hn hDi.p hDi.tk) rfl rfl rfl ⟨by omega, by decide⟩ (Nat.le_of_ble_eq_true rfl) (by decide) (by decide) (fun x45 ρ9 m45 hq => ?_)
      obtain ⟨rfl, hR1, rfl, rfl⟩ := hq
      have hw6 := wdI_01 (t := t) (n := n) (p := (no9 t n (sP s) 6).2) (i9 := 7)
      have hwe : wdI t n (sP (at9 (no9 t n (sP s) 6).2 s)) 7 = wdI t n (no9 t n (sP s) 6).2 7 := rfl
      refine tz_if_eq (n := 51) (tgt := 57) (g_at ck_X3_readNot 22 rfl) rfl rfl (by omega) (fun h48 => ?_) (fun h48 => ?_)
      · skip
        exact gT_eq (hj57 _ ⟨hDi, hFi, by omega⟩) rfl (by rw [hci])
      · skip
        refine tz_aload0 (n := 52) (g_at ck_X3_readNot 23 rfl) rfl (g_ne kd_37) ?_
        refine tz_iconst (n := 53) (g_at ck_X3_readNot 24 rfl) rfl ?_
        refine tz_cvI1 (n := 56) (μ' := μX3_fail) (cb' := 0) (sb' := 0) ml_X3_93 mo_X3_fail mv_X3_fail np_X3_fail kd_37 (g_at ck_X3_readNot 25 rfl) (sp_fail hL hB hn hDi (by decide)) rfl rfl rfl ⟨by omega, by decide⟩ (Nat.le_of_ble_eq_true rfl) (by decide) (by decide) (fun x53 ρ9 m53 hq => ?_)
        obtain ⟨rfl, hR2, hD53, hx53, hF53⟩ := hq
        have hz53 : x53 = 0 := hx53.symm
        exact tz_bret (g_at ck_X3_readNot 26 rfl) rfl (Or.inl hz53) (rI_mk (by unfold pn9; rw [if_pos ⟨by omega, by omega⟩]; exact ⟨rfl, hR2, hD53, hx53, hFi.tr hF53⟩))
    · intro m1 hinv
      obtain ⟨hDi, hFi, hci⟩ := hinv
      have hRi := hDi.r
      have hpi : 0 ≤ (no9 t n (sP s) i).2 ∧ (no9 t n (sP s) i).2 ≤ n := hDi.p
      have hri := tk_rg (n := n) (p := (no9 t n (sP s) i).2) hB hpi
      refine tz_iload2 (n := 3) (g_at ck_X3_readNot 2 rfl) rfl ?_
      refine tz_bipush (n := 5) (g_at ck_X3_readNot 3 rfl) rfl rfl ?_
      refine tz_icmp_ge (n := 8) (tgt := 33) (g_at ck_X3_readNot 4 rfl) rfl rfl ⟨(by omega), (by omega), (by decide), (by decide)⟩ (fun h5 => absurd h5 (by omega)) (fun h5 => ?_)
      refine tz_aload0 (n := 9) (g_at ck_X3_readNot 5 rfl) rfl (g_ne kd_37) ?_
      refine tz_getOv (n := 12) (a := 38) fk_X3_14 kd_37 (ly_37_0 hL) (g_at ck_X3_readNot 6 rfl) rfl ?_
      refine tz_ldcSw (n := 14) st_7 (g_at ck_X3_readNot 7 rfl) rfl ?_
      refine tz_cvI1 (n := 17) (μ' := μX7_isWord) (cb' := 0) (sb' := 0) ml_X3_62 mo_X7_isWord mv_X7_isWord np_X7_isWord kd_38 (g_at ck_X3_readNot 8 rfl) (sp_isWord (i9 := 7) sn_7 hL hRi hB hn hDi.p hDi.tk) rfl rfl rfl ⟨by omega, by decide⟩ (Nat.le_of_ble_eq_true rfl) (by decide) (by decide) (fun x14 ρ9 m14 hq => ?_)
      obtain ⟨rfl, hR3, rfl, rfl⟩ := hq
      have hww := wdI_01 (t := t) (n := n) (p := (no9 t n (sP s) i).2) (i9 := 7)
      have hwe : wdI t n (sP (at9 (no9 t n (sP s) i).2 s)) 7 = wdI t n (no9 t n (sP s) i).2 7 := rfl
      refine tz_if_eq (n := 20) (tgt := 33) (g_at ck_X3_readNot 9 rfl) rfl rfl (by omega) (fun h17 => ?_) (fun h17 => ?_)
      · skip
        refine tz_iload2 (n := 34) (g_at ck_X3_readNot 15 rfl) rfl ?_
        refine tz_bipush (n := 36) (g_at ck_X3_readNot 16 rfl) rfl rfl ?_
        refine tz_icmp_ne (n := 39) (tgt := 57) (g_at ck_X3_readNot 17 rfl) rfl rfl ⟨by omega, by omega, by decide, by decide⟩ (fun h36 => ?_) (fun h36 => absurd h36 (by omega))
        have e9 := no9_stay (t := t) (n := n) (p := sP s) (i := i) (by omega) 6 (by omega)
        exact gT_eq (hj57 _ ⟨by rw [e9]; exact hDi, hFi, by rw [e9]; omega⟩) rfl (by rw [e9, hci])
      · skip
        refine tz_aload0 (n := 21) (g_at ck_X3_readNot 10 rfl) rfl (g_ne kd_37) ?_
        refine tz_getOv (n := 24) (a := 38) fk_X3_14 kd_37 (ly_37_0 hL) (g_at ck_X3_readNot 11 rfl) rfl ?_
        refine tz_cvV0 (n := 27) (μ' := μX7_advance) (cb' := 0) (sb' := 0) ml_X3_101 mo_X7_advance mv_X7_advance np_X7_advance kd_38 (g_at ck_X3_readNot 12 rfl) (sp_advance hL hR3 hB hn (show 0 ≤ tQ t n (no9 t n (sP s) i).2 ∧ tQ t n (no9 t n (sP s) i).2 ≤ n by omega) hDi.tk.1 hDi.tk.2.1 hDi.tk.q) rfl rfl rfl ⟨by omega, by decide⟩ (Nat.le_of_ble_eq_true rfl) (by decide) (by decide) (fun ρ9 m24 hq => ?_)
        obtain ⟨rfl, hR4, hF24, hC24⟩ := hq
        have hD24 := hDi.nx hB hR4 hF24 hC24
        have hE24 : FE u m1 m24 := FE.tok hF24
        refine tz_iinc2 (n := 30) (g_at ck_X3_readNot 13 rfl) rfl (by decide) g_hpI ?_
        refine tz_goto (tgt := 2) (g_at ck_X3_readNot 14 rfl) rfl ?_
        have e9 : no9 t n (sP s) (i + 1) = ((no9 t n (sP s) i).1 + 1, tQ t n (no9 t n (sP s) i).2) := if_pos (show wdI t n (no9 t n (sP s) i).2 7 = 1 by omega)
        exact ihi _ ⟨by rw [e9]; exact hD24, hFi.tr hE24, by rw [e9]; show (no9 t n (sP s) i).1 + 1 = _; omega⟩
  · intro m1 hinv
    obtain ⟨hDi, hFi, hne⟩ := hinv
    have hRi := hDi.r
    refine tz_aload0 (n := 58) (g_at ck_X3_readNot 27 rfl) rfl (g_ne kd_37) ?_
    refine tz_iload1 (n := 59) (g_at ck_X3_readNot 28 rfl) rfl ?_
    refine tz_cvI1 (n := 62) (μ' := μX3_readTest) (cb' := 0) (sb' := 0) ml_X3_185 mo_X3_readTest mv_X3_readTest np_X3_readTest kd_37 (g_at ck_X3_readNot 29 rfl) (hP u _ (at9 (no9 t n (sP s) 6).2 s) hDi h1) rfl rfl rfl ⟨by omega, by decide⟩ (Nat.le_of_ble_eq_true rfl) (by decide) (by decide) (fun x59 ρ9 m59 hq => ?_)
    obtain ⟨rfl, hR5, hD59, rfl, hF59⟩ := hq
    have ho59 := hD59.o
    refine tz_istore3 (n := 63) (g_at ck_X3_readNot 30 rfl) rfl (by decide) g_hpI ?_
    refine tz_iconst (n := 64) (g_at ck_X3_readNot 31 rfl) rfl ?_
    refine tz_istore4 (n := 66) (g_at ck_X3_readNot 32 rfl) rfl (by decide) g_hpI ?_
    refine g_for (fun j : Nat => ∀ m2 : Mm, (RD ρ m2 t n u (aN9 j (G (at9 (no9 t n (sP s) 6).2 s))) ∧ FE u m m2) → gT l γ μX3_readNot (d + 1) 0 0 _ _ KK ρ m2 66 [some (vR 37), some (vI w), some (vI (no9 t n (sP s) 6).1), some (vI (G (at9 (no9 t n (sP s) 6).2 s)).1), some (vI (j : Int))] []) (no9 t n (sP s) 6).1.toNat ?_ (fun j hj ihj => ?_) 0 (Nat.zero_le _) _ ⟨hD59, hFi.tr hF59⟩
    · intro m2 hinv
      obtain ⟨hDj, hFj⟩ := hinv
      have hRj := hDj.r
      refine tz_iload4 (n := 68) (g_at ck_X3_readNot 33 rfl) rfl ?_
      refine tz_iload2 (n := 69) (g_at ck_X3_readNot 34 rfl) rfl ?_
      refine tz_icmp_ge (n := 72) (tgt := 87) (g_at ck_X3_readNot 35 rfl) rfl rfl ⟨(by omega), (by omega), (by omega), (by omega)⟩ (fun h69 => ?_) (fun h69 => absurd h69 (by omega))
      refine tz_iload3 (n := 88) (g_at ck_X3_readNot 42 rfl) rfl ?_
      exact tz_bret (g_at ck_X3_readNot 43 rfl) rfl (by rw [← aN9_1 (G (at9 (no9 t n (sP s) 6).2 s)) (no9 t n (sP s) 6).1.toNat]; exact hDj.o) (rI_mk (by unfold pn9; rw [if_neg hne]; exact ⟨rfl, hRj, hDj, aN9_1 _ _, hFj⟩))
    · intro m2 hinv
      obtain ⟨hDj, hFj⟩ := hinv
      have hRj := hDj.r
      refine tz_iload4 (n := 68) (g_at ck_X3_readNot 33 rfl) rfl ?_
      refine tz_iload2 (n := 69) (g_at ck_X3_readNot 34 rfl) rfl ?_
      refine tz_icmp_ge (n := 72) (tgt := 87) (g_at ck_X3_readNot 35 rfl) rfl rfl ⟨(by omega), (by omega), (by omega), (by omega)⟩ (fun h69 => absurd h69 (by omega)) (fun h69 => ?_)
      refine tz_aload0 (n := 73) (g_at ck_X3_readNot 36 rfl) rfl (g_ne kd_37) ?_
      refine tz_getOv (n := 76) (a := u) fk_X3_30 kd_37 (by first | exact hDj.ru | exact hD.ru) (g_at ck_X3_readNot 37 rfl) rfl ?_
      refine tz_bipush (n := 78) (g_at ck_X3_readNot 38 rfl) rfl rfl ?_
      refine tz_cvV1 (n := 81) (μ' := μX4_add) (cb' := 0) (sb' := 0) ml_X3_175 mo_X4_add mv_X4_add np_X4_add (isU_r4 hL hD.u4).k0 (g_at ck_X3_readNot 39 rfl) (sp_ruleAddT (isU_r4 hL hD.u4) hRj (FE.l2 hDj.l) (by decide)) rfl rfl rfl ⟨by omega, by decide⟩ (Nat.le_of_ble_eq_true rfl) (by decide) (by decide) (fun ρ9 m78 hq => ?_)
      obtain ⟨rfl, hR6, rfl⟩ := hq
      have hDa := hDj.ad (x := -8) hR6
      refine tz_iinc4 (n := 84) (g_at ck_X3_readNot 40 rfl) rfl (by decide) g_hpI ?_
      refine tz_goto (tgt := 66) (g_at ck_X3_readNot 41 rfl) rfl ?_
      exact ihj _ ⟨hDa, hFj.tr (FE.add hD.u4)⟩
noncomputable def cx9 (t : Int → Int) (n : Int) (tst : Int → Int) (F : PS → PS) (s : PS) : PS := ch9 t n tst F s 700
noncomputable def cy9 (t : Int → Int) (n : Int) (tst : Int → Int) (F : PS → PS) (s : PS) : PS := ch9 t n tst F s 1
section
variable {l : Launch} {γ : Gh} {ρ : Mm} {t : Int → Int} {n : Int} {d : Nat} {w : Int} {F : PS → PS}
theorem ct_1 (hL : LY ρ) (hB : BY t) (hn : 0 ≤ n ∧ n ≤ 700) (hd : 7 ≤ d) (h : Ct l γ ρ t n μX3_readExpr d (w + 1) F) : Ct l γ ρ t n μX3_readPart (d + 1) w (pt9 t n F) := fun u m s hD h1 => sp_readPart hL hB hn hD h1 hd h
theorem ct_2 (hL : LY ρ) (hB : BY t) (hn : 0 ≤ n ∧ n ≤ 700) (hd : 7 ≤ d) (h : Ct l γ ρ t n μX3_readPart d w F) : Ct l γ ρ t n μX3_readProduct (d + 1) w (cx9 t n (tP9 t n) F) := fun u m s hD h1 => by
  unfold cx9
  exact sp_readProduct hL hB hn hD h1 hd h
theorem ct_3 (hL : LY ρ) (hB : BY t) (hn : 0 ≤ n ∧ n ≤ 700) (hd : 7 ≤ d) (h : Ct l γ ρ t n μX3_readProduct d w F) : Ct l γ ρ t n μX3_readSum (d + 1) w (cx9 t n (tS9 t n) F) := fun u m s hD h1 => by
  unfold cx9
  exact sp_readSum hL hB hn hD h1 hd h
theorem ct_4 (hL : LY ρ) (hB : BY t) (hn : 0 ≤ n ∧ n ≤ 700) (hd : 7 ≤ d) (h : Ct l γ ρ t n μX3_readSum d w F) : Ct l γ ρ t n μX3_readTest (d + 1) w (cy9 t n (tT9 t n) F) := fun u m s hD h1 => by
  unfold cy9
  exact sp_readTest hL hB hn hD h1 hd h
theorem ct_5 (hL : LY ρ) (hB : BY t) (hn : 0 ≤ n ∧ n ≤ 700) (hd : 7 ≤ d) (h : Ct l γ ρ t n μX3_readTest d w F) : Ct l γ ρ t n μX3_readNot (d + 1) w (pn9 t n F) := fun u m s hD h1 => sp_readNot hL hB hn hD h1 hd h
theorem ct_6 (hL : LY ρ) (hB : BY t) (hn : 0 ≤ n ∧ n ≤ 700) (hd : 7 ≤ d) (h : Ct l γ ρ t n μX3_readNot d w F) : Ct l γ ρ t n μX3_readAnd (d + 1) w (cx9 t n (tN9 t n) F) := fun u m s hD h1 => by
  unfold cx9
  exact sp_readAnd hL hB hn hD h1 hd h
noncomputable def by9 (t : Int → Int) (n : Int) (E : PS → PS) : PS → PS := cx9 t n (tN9 t n) (pn9 t n (cy9 t n (tT9 t n) (cx9 t n (tS9 t n) (cx9 t n (tP9 t n) (pt9 t n E)))))
noncomputable def xx9 (t : Int → Int) (n : Int) : Nat → PS → PS
  | 0, s => if cb9 t n (sP s) = 1 then fl9 t n 2 s else cx9 t n (tO9 t n) (by9 t n (fun z => z)) s
  | k + 1, s => cx9 t n (tO9 t n) (by9 t n (xx9 t n k)) s
theorem ct_b (hL : LY ρ) (hB : BY t) (hn : 0 ≤ n ∧ n ≤ 700) (hd : 7 ≤ d) (h : Ct l γ ρ t n μX3_readExpr d (w + 1) F) : Ct l γ ρ t n μX3_readAnd (d + 1 + 1 + 1 + 1 + 1 + 1) w (by9 t n F) := ct_6 hL hB hn (by omega) (ct_5 hL hB hn (by omega) (ct_4 hL hB hn (by omega) (ct_3 hL hB hn (by omega) (ct_2 hL hB hn (by omega) (ct_1 hL hB hn hd h)))))
theorem ct_e (hL : LY ρ) (hB : BY t) (hn : 0 ≤ n ∧ n ≤ 700) (hd : 7 ≤ d) (hw : 0 ≤ w ∧ w < 6) (h : Ct l γ ρ t n μX3_readAnd d w F) : Ct l γ ρ t n μX3_readExpr (d + 1) w (cx9 t n (tO9 t n) F) := fun u m s hD h1 => by
  unfold cx9
  exact sp_readExpr hL hB hn hD h1 hd h hw
end
