/-! Rules: chains. -/
theorem sp_readProduct {l : Launch} {γ : Gh} {ρ m : Mm} {d : Nat} {w : Int} {F : PS → PS} {t : Int → Int} {n u : Int} {s : PS} (hL : LY ρ) (hB : BY t) (hn : 0 ≤ n ∧ n ≤ 700) (hD : RD ρ m t n u s) (h1 : s.1 = 1) (hd : 7 ≤ d) (hP : Ct l γ ρ t n μX3_readPart d w F) : gE l γ μX3_readProduct (d + 1) 0 0 (rI KK fun x ρ9 m9 => ρ = ρ9 ∧ MR m9 ∧ RD ρ9 m9 t n u (ch9 t n (tP9 t n) F s 700) ∧ (ch9 t n (tP9 t n) F s 700).1 = x ∧ FE u m m9) xN KK ρ m [vR 37, vI w] := by
  refine gE.ofw cl_X3.2 ?_ rfl rfl (Nat.le_of_ble_eq_true rfl)
  show gT l γ μX3_readProduct (d + 1) 0 0 _ _ KK ρ m 0 [some (vR 37), some (vI w), none, none, none] []
  have hR := hD.r
  have hp := hD.p
  have hr9 := tk_rg (n := n) hB hp
  have hu4 := hD.u4
  unfold isR4 at hu4
  refine tz_aload0 (n := 1) (g_at ck_X3_readProduct 0 rfl) rfl (g_ne kd_37) ?_
  refine tz_iload1 (n := 2) (g_at ck_X3_readProduct 1 rfl) rfl ?_
  refine tz_cvI1 (n := 5) (μ' := μX3_readPart) (cb' := 0) (sb' := 0) ml_X3_194 mo_X3_readPart mv_X3_readPart np_X3_readPart kd_37 (g_at ck_X3_readProduct 2 rfl) (hP u _ s hD h1) rfl rfl rfl ⟨by omega, by decide⟩ (Nat.le_of_ble_eq_true rfl) (by decide) (by decide) (fun x2 ρ9 m2 hq => ?_)
  obtain ⟨rfl, hR1, hD2, rfl, hF2⟩ := hq
  have ho2 := hD2.o
  refine tz_istore2 (n := 6) (g_at ck_X3_readProduct 3 rfl) rfl (by decide) g_hpI ?_
  refine tz_iconst (n := 7) (g_at ck_X3_readProduct 4 rfl) rfl ?_
  refine tz_istore3 (n := 8) (g_at ck_X3_readProduct 5 rfl) rfl (by decide) g_hpI ?_
  refine g_for (fun i : Nat => ∀ m1 : Mm, (RD ρ m1 t n u (ch9 t n (tP9 t n) F s i) ∧ FE u m m1) → gT l γ μX3_readProduct (d + 1) 0 0 _ _ KK ρ m1 8 [some (vR 37), some (vI w), some (vI (ch9 t n (tP9 t n) F s i).1), some (vI (i : Int)), none] []) 700 ?_ (fun i hi ihi => ?_) 0 (Nat.zero_le _) _ ⟨hD2, hF2⟩
  · intro m1 hinv
    obtain ⟨hDi, hFi⟩ := hinv
    have hRi := hDi.r
    have hoi := hDi.o
    refine tz_iload3 (n := 9) (g_at ck_X3_readProduct 6 rfl) rfl ?_
    refine tz_sipush (n := 12) (g_at ck_X3_readProduct 7 rfl) rfl rfl ?_
    refine tz_icmp_ge (n := 15) (tgt := 92) (g_at ck_X3_readProduct 8 rfl) rfl rfl ⟨(by omega), (by omega), (by decide), (by decide)⟩ (fun h12 => ?_) (fun h12 => absurd h12 (by omega))
    refine tz_iload2 (n := 93) (g_at ck_X3_readProduct 43 rfl) rfl ?_
    exact tz_bret (g_at ck_X3_readProduct 44 rfl) rfl hoi (rI_mk (by exact ⟨rfl, hRi, hDi, rfl, hFi⟩))
  · intro m1 hinv
    obtain ⟨hDi, hFi⟩ := hinv
    have hRi := hDi.r
    have hoi := hDi.o
    have hpi := hDi.p
    have hri := tk_rg (n := n) hB hpi
    refine tz_iload3 (n := 9) (g_at ck_X3_readProduct 6 rfl) rfl ?_
    refine tz_sipush (n := 12) (g_at ck_X3_readProduct 7 rfl) rfl rfl ?_
    refine tz_icmp_ge (n := 15) (tgt := 92) (g_at ck_X3_readProduct 8 rfl) rfl rfl ⟨(by omega), (by omega), (by decide), (by decide)⟩ (fun h12 => absurd h12 (by omega)) (fun h12 => ?_)
    refine tz_iload2 (n := 16) (g_at ck_X3_readProduct 9 rfl) rfl ?_
    refine tz_if_eq (n := 19) (tgt := 92) (g_at ck_X3_readProduct 10 rfl) rfl rfl (by omega) (fun h16 => ?_) (fun h16 => ?_)
    · skip
      refine tz_iload2 (n := 93) (g_at ck_X3_readProduct 43 rfl) rfl ?_
      exact tz_bret (g_at ck_X3_readProduct 44 rfl) rfl hoi (rI_mk (by have es : ch9 t n (tP9 t n) F s 700 = (ch9 t n (tP9 t n) F s i) := ch9_stay (if_neg (fun h9 => absurd h9.1 (by omega))) 700 (by omega); rw [es]; exact ⟨rfl, hRi, hDi, rfl, hFi⟩))
    · skip
      have hz1 : (ch9 t n (tP9 t n) F s i).1 = 1 := by omega
      refine tz_aload0 (n := 20) (g_at ck_X3_readProduct 11 rfl) rfl (g_ne kd_37) ?_
      refine tz_getOv (n := 23) (a := 38) fk_X3_14 kd_37 (ly_37_0 hL) (g_at ck_X3_readProduct 12 rfl) rfl ?_
      refine tz_getIw (n := 26) (kz := 3) fk_X3_47 kd_38 (g_at ck_X3_readProduct 13 rfl) rfl rfl ?_
      rw [hDi.tk.k]
      refine tz_bipush (n := 28) (g_at ck_X3_readProduct 14 rfl) rfl rfl ?_
      refine tz_icmp_eq (n := 31) (tgt := 43) (g_at ck_X3_readProduct 15 rfl) rfl rfl ⟨by omega, by omega, by decide, by decide⟩ (fun h28 => ?_) (fun h28 => ?_)
      · skip
        refine tz_aload0 (n := 44) (g_at ck_X3_readProduct 21 rfl) rfl (g_ne kd_37) ?_
        refine tz_getOv (n := 47) (a := 38) fk_X3_14 kd_37 (ly_37_0 hL) (g_at ck_X3_readProduct 22 rfl) rfl ?_
        refine tz_getIw (n := 50) (kz := 3) fk_X3_47 kd_38 (g_at ck_X3_readProduct 23 rfl) rfl rfl ?_
        rw [hDi.tk.k]
        refine tz_bipush (n := 52) (g_at ck_X3_readProduct 24 rfl) rfl rfl ?_
        refine tz_icmp_ne (n := 55) (tgt := 60) (g_at ck_X3_readProduct 25 rfl) rfl rfl ⟨by omega, by omega, by decide, by decide⟩ (fun h52 => absurd h52 (by omega)) (fun h52 => ?_)
        refine tz_bipush (n := 57) (g_at ck_X3_readProduct 26 rfl) rfl rfl ?_
        refine tz_goto (tgt := 62) (g_at ck_X3_readProduct 27 rfl) rfl ?_
        refine tz_istore4 (n := 64) (g_at ck_X3_readProduct 29 rfl) rfl (by decide) g_hpI ?_
        refine tz_aload0 (n := 65) (g_at ck_X3_readProduct 30 rfl) rfl (g_ne kd_37) ?_
        refine tz_getOv (n := 68) (a := 38) fk_X3_14 kd_37 (ly_37_0 hL) (g_at ck_X3_readProduct 31 rfl) rfl ?_
        refine tz_cvV0 (n := 71) (μ' := μX7_advance) (cb' := 0) (sb' := 0) ml_X3_101 mo_X7_advance mv_X7_advance np_X7_advance kd_38 (g_at ck_X3_readProduct 32 rfl) (sp_advance hL hRi hB hn (show 0 ≤ tQ t n (sP (ch9 t n (tP9 t n) F s i)) ∧ tQ t n (sP (ch9 t n (tP9 t n) F s i)) ≤ n by omega) hDi.tk.1 hDi.tk.2.1 hDi.tk.q) rfl rfl rfl ⟨by omega, by decide⟩ (Nat.le_of_ble_eq_true rfl) (by decide) (by decide) (fun ρ9 m68 hq => ?_)
        obtain ⟨rfl, hR2, hF68, hC68⟩ := hq
        have hD68 := hDi.nx hB hR2 hF68 hC68
        have hE68 : FE u m1 m68 := FE.tok hF68
        refine tz_aload0 (n := 72) (g_at ck_X3_readProduct 33 rfl) rfl (g_ne kd_37) ?_
        refine tz_iload1 (n := 73) (g_at ck_X3_readProduct 34 rfl) rfl ?_
        refine tz_cvI1 (n := 76) (μ' := μX3_readPart) (cb' := 0) (sb' := 0) ml_X3_194 mo_X3_readPart mv_X3_readPart np_X3_readPart kd_37 (g_at ck_X3_readProduct 35 rfl) (hP u _ (nx9 t n (ch9 t n (tP9 t n) F s i)) hD68 hz1) rfl rfl rfl ⟨by omega, by decide⟩ (Nat.le_of_ble_eq_true rfl) (by decide) (by decide) (fun x73 ρ9 m73 hq => ?_)
        obtain ⟨rfl, hR3, hD73, rfl, hF73⟩ := hq
        have ho73 := hD73.o
        refine tz_istore2 (n := 77) (g_at ck_X3_readProduct 36 rfl) rfl (by decide) g_hpI ?_
        refine tz_aload0 (n := 78) (g_at ck_X3_readProduct 37 rfl) rfl (g_ne kd_37) ?_
        refine tz_getOv (n := 81) (a := u) fk_X3_30 kd_37 (by first | exact hDi.ru | exact hD.ru) (g_at ck_X3_readProduct 38 rfl) rfl ?_
        refine tz_iload4 (n := 83) (g_at ck_X3_readProduct 39 rfl) rfl ?_
        refine tz_cvV1 (n := 86) (μ' := μX4_add) (cb' := 0) (sb' := 0) ml_X3_175 mo_X4_add mv_X4_add np_X4_add (isU_r4 hL hD.u4).k0 (g_at ck_X3_readProduct 40 rfl) (sp_ruleAddT (isU_r4 hL hD.u4) hR3 (FE.l2 hD73.l) (by decide)) rfl rfl rfl ⟨by omega, by decide⟩ (Nat.le_of_ble_eq_true rfl) (by decide) (by decide) (fun ρ9 m83 hq => ?_)
        obtain ⟨rfl, hR4, rfl⟩ := hq
        have hDa := hD73.ad (x := -13) hR4
        refine tz_iinc3 (n := 89) (g_at ck_X3_readProduct 41 rfl) rfl (by decide) g_hpI ?_
        refine tz_goto (tgt := 8) (g_at ck_X3_readProduct 42 rfl) rfl ?_
        refine tz_drop4 ?_
        have et : tP9 t n (sP (ch9 t n (tP9 t n) F s i)) = -13 := (if_pos h28)
        have e9 : ch9 t n (tP9 t n) F s (i + 1) = ad9 (-13) (F (nx9 t n (ch9 t n (tP9 t n) F s i))) := by
          show st9 t n (tP9 t n) F (ch9 t n (tP9 t n) F s i) = _
          unfold st9
          rw [if_pos ⟨hz1, by rw [et]; decide⟩, et]
        exact gT_eq (ihi _ ⟨by rw [e9]; exact hDa, ((hFi.tr hE68).tr hF73).tr (FE.add hD.u4)⟩) rfl (by rw [e9]; rfl)
      · skip
        refine tz_aload0 (n := 32) (g_at ck_X3_readProduct 16 rfl) rfl (g_ne kd_37) ?_
        refine tz_getOv (n := 35) (a := 38) fk_X3_14 kd_37 (ly_37_0 hL) (g_at ck_X3_readProduct 17 rfl) rfl ?_
        refine tz_getIw (n := 38) (kz := 3) fk_X3_47 kd_38 (g_at ck_X3_readProduct 18 rfl) rfl rfl ?_
        rw [hDi.tk.k]
        refine tz_bipush (n := 40) (g_at ck_X3_readProduct 19 rfl) rfl rfl ?_
        refine tz_icmp_ne (n := 43) (tgt := 92) (g_at ck_X3_readProduct 20 rfl) rfl rfl ⟨by omega, by omega, by decide, by decide⟩ (fun h40 => ?_) (fun h40 => ?_)
        · skip
          refine tz_iload2 (n := 93) (g_at ck_X3_readProduct 43 rfl) rfl ?_
          exact tz_bret (g_at ck_X3_readProduct 44 rfl) rfl hoi (rI_mk (by have es : ch9 t n (tP9 t n) F s 700 = (ch9 t n (tP9 t n) F s i) := ch9_stay (if_neg (fun h9 => h9.2 ((if_neg h28).trans (if_neg h40)))) 700 (by omega); rw [es]; exact ⟨rfl, hRi, hDi, rfl, hFi⟩))
        · skip
          refine tz_aload0 (n := 44) (g_at ck_X3_readProduct 21 rfl) rfl (g_ne kd_37) ?_
          refine tz_getOv (n := 47) (a := 38) fk_X3_14 kd_37 (ly_37_0 hL) (g_at ck_X3_readProduct 22 rfl) rfl ?_
          refine tz_getIw (n := 50) (kz := 3) fk_X3_47 kd_38 (g_at ck_X3_readProduct 23 rfl) rfl rfl ?_
          rw [hDi.tk.k]
          refine tz_bipush (n := 52) (g_at ck_X3_readProduct 24 rfl) rfl rfl ?_
          refine tz_icmp_ne (n := 55) (tgt := 60) (g_at ck_X3_readProduct 25 rfl) rfl rfl ⟨by omega, by omega, by decide, by decide⟩ (fun h52 => ?_) (fun h52 => absurd h52 (by omega))
          refine tz_bipush (n := 62) (g_at ck_X3_readProduct 28 rfl) rfl rfl ?_
          refine tz_istore4 (n := 64) (g_at ck_X3_readProduct 29 rfl) rfl (by decide) g_hpI ?_
          refine tz_aload0 (n := 65) (g_at ck_X3_readProduct 30 rfl) rfl (g_ne kd_37) ?_
          refine tz_getOv (n := 68) (a := 38) fk_X3_14 kd_37 (ly_37_0 hL) (g_at ck_X3_readProduct 31 rfl) rfl ?_
          refine tz_cvV0 (n := 71) (μ' := μX7_advance) (cb' := 0) (sb' := 0) ml_X3_101 mo_X7_advance mv_X7_advance np_X7_advance kd_38 (g_at ck_X3_readProduct 32 rfl) (sp_advance hL hRi hB hn (show 0 ≤ tQ t n (sP (ch9 t n (tP9 t n) F s i)) ∧ tQ t n (sP (ch9 t n (tP9 t n) F s i)) ≤ n by omega) hDi.tk.1 hDi.tk.2.1 hDi.tk.q) rfl rfl rfl ⟨by omega, by decide⟩ (Nat.le_of_ble_eq_true rfl) (by decide) (by decide) (fun ρ9 m68 hq => ?_)
          obtain ⟨rfl, hR5, hF68, hC68⟩ := hq
          have hD68 := hDi.nx hB hR5 hF68 hC68
          have hE68 : FE u m1 m68 := FE.tok hF68
          refine tz_aload0 (n := 72) (g_at ck_X3_readProduct 33 rfl) rfl (g_ne kd_37) ?_
          refine tz_iload1 (n := 73) (g_at ck_X3_readProduct 34 rfl) rfl ?_
          refine tz_cvI1 (n := 76) (μ' := μX3_readPart) (cb' := 0) (sb' := 0) ml_X3_194 mo_X3_readPart mv_X3_readPart np_X3_readPart kd_37 (g_at ck_X3_readProduct 35 rfl) (hP u _ (nx9 t n (ch9 t n (tP9 t n) F s i)) hD68 hz1) rfl rfl rfl ⟨by omega, by decide⟩ (Nat.le_of_ble_eq_true rfl) (by decide) (by decide) (fun x73 ρ9 m73 hq => ?_)
          obtain ⟨rfl, hR6, hD73, rfl, hF73⟩ := hq
          have ho73 := hD73.o
          refine tz_istore2 (n := 77) (g_at ck_X3_readProduct 36 rfl) rfl (by decide) g_hpI ?_
          refine tz_aload0 (n := 78) (g_at ck_X3_readProduct 37 rfl) rfl (g_ne kd_37) ?_
          refine tz_getOv (n := 81) (a := u) fk_X3_30 kd_37 (by first | exact hDi.ru | exact hD.ru) (g_at ck_X3_readProduct 38 rfl) rfl ?_
          refine tz_iload4 (n := 83) (g_at ck_X3_readProduct 39 rfl) rfl ?_
          refine tz_cvV1 (n := 86) (μ' := μX4_add) (cb' := 0) (sb' := 0) ml_X3_175 mo_X4_add mv_X4_add np_X4_add (isU_r4 hL hD.u4).k0 (g_at ck_X3_readProduct 40 rfl) (sp_ruleAddT (isU_r4 hL hD.u4) hR6 (FE.l2 hD73.l) (by decide)) rfl rfl rfl ⟨by omega, by decide⟩ (Nat.le_of_ble_eq_true rfl) (by decide) (by decide) (fun ρ9 m83 hq => ?_)
          obtain ⟨rfl, hR7, rfl⟩ := hq
          have hDa := hD73.ad (x := -14) hR7
          refine tz_iinc3 (n := 89) (g_at ck_X3_readProduct 41 rfl) rfl (by decide) g_hpI ?_
          refine tz_goto (tgt := 8) (g_at ck_X3_readProduct 42 rfl) rfl ?_
          refine tz_drop4 ?_
          have et : tP9 t n (sP (ch9 t n (tP9 t n) F s i)) = -14 := ((if_neg h28).trans (if_pos h40))
          have e9 : ch9 t n (tP9 t n) F s (i + 1) = ad9 (-14) (F (nx9 t n (ch9 t n (tP9 t n) F s i))) := by
            show st9 t n (tP9 t n) F (ch9 t n (tP9 t n) F s i) = _
            unfold st9
            rw [if_pos ⟨hz1, by rw [et]; decide⟩, et]
          exact gT_eq (ihi _ ⟨by rw [e9]; exact hDa, ((hFi.tr hE68).tr hF73).tr (FE.add hD.u4)⟩) rfl (by rw [e9]; rfl)
theorem sp_readSum {l : Launch} {γ : Gh} {ρ m : Mm} {d : Nat} {w : Int} {F : PS → PS} {t : Int → Int} {n u : Int} {s : PS} (hL : LY ρ) (hB : BY t) (hn : 0 ≤ n ∧ n ≤ 700) (hD : RD ρ m t n u s) (h1 : s.1 = 1) (hd : 7 ≤ d) (hP : Ct l γ ρ t n μX3_readProduct d w F) : gE l γ μX3_readSum (d + 1) 0 0 (rI KK fun x ρ9 m9 => ρ = ρ9 ∧ MR m9 ∧ RD ρ9 m9 t n u (ch9 t n (tS9 t n) F s 700) ∧ (ch9 t n (tS9 t n) F s 700).1 = x ∧ FE u m m9) xN KK ρ m [vR 37, vI w] := by
  refine gE.ofw cl_X3.2 ?_ rfl rfl (Nat.le_of_ble_eq_true rfl)
  show gT l γ μX3_readSum (d + 1) 0 0 _ _ KK ρ m 0 [some (vR 37), some (vI w), none, none, none] []
  have hR := hD.r
  have hp := hD.p
  have hr9 := tk_rg (n := n) hB hp
  have hu4 := hD.u4
  unfold isR4 at hu4
  refine tz_aload0 (n := 1) (g_at ck_X3_readSum 0 rfl) rfl (g_ne kd_37) ?_
  refine tz_iload1 (n := 2) (g_at ck_X3_readSum 1 rfl) rfl ?_
  refine tz_cvI1 (n := 5) (μ' := μX3_readProduct) (cb' := 0) (sb' := 0) ml_X3_191 mo_X3_readProduct mv_X3_readProduct np_X3_readProduct kd_37 (g_at ck_X3_readSum 2 rfl) (hP u _ s hD h1) rfl rfl rfl ⟨by omega, by decide⟩ (Nat.le_of_ble_eq_true rfl) (by decide) (by decide) (fun x2 ρ9 m2 hq => ?_)
  obtain ⟨rfl, hR1, hD2, rfl, hF2⟩ := hq
  have ho2 := hD2.o
  refine tz_istore2 (n := 6) (g_at ck_X3_readSum 3 rfl) rfl (by decide) g_hpI ?_
  refine tz_iconst (n := 7) (g_at ck_X3_readSum 4 rfl) rfl ?_
  refine tz_istore3 (n := 8) (g_at ck_X3_readSum 5 rfl) rfl (by decide) g_hpI ?_
  refine g_for (fun i : Nat => ∀ m1 : Mm, (RD ρ m1 t n u (ch9 t n (tS9 t n) F s i) ∧ FE u m m1) → gT l γ μX3_readSum (d + 1) 0 0 _ _ KK ρ m1 8 [some (vR 37), some (vI w), some (vI (ch9 t n (tS9 t n) F s i).1), some (vI (i : Int)), none] []) 700 ?_ (fun i hi ihi => ?_) 0 (Nat.zero_le _) _ ⟨hD2, hF2⟩
  · intro m1 hinv
    obtain ⟨hDi, hFi⟩ := hinv
    have hRi := hDi.r
    have hoi := hDi.o
    refine tz_iload3 (n := 9) (g_at ck_X3_readSum 6 rfl) rfl ?_
    refine tz_sipush (n := 12) (g_at ck_X3_readSum 7 rfl) rfl rfl ?_
    refine tz_icmp_ge (n := 15) (tgt := 92) (g_at ck_X3_readSum 8 rfl) rfl rfl ⟨(by omega), (by omega), (by decide), (by decide)⟩ (fun h12 => ?_) (fun h12 => absurd h12 (by omega))
    refine tz_iload2 (n := 93) (g_at ck_X3_readSum 43 rfl) rfl ?_
    exact tz_bret (g_at ck_X3_readSum 44 rfl) rfl hoi (rI_mk (by exact ⟨rfl, hRi, hDi, rfl, hFi⟩))
  · intro m1 hinv
    obtain ⟨hDi, hFi⟩ := hinv
    have hRi := hDi.r
    have hoi := hDi.o
    have hpi := hDi.p
    have hri := tk_rg (n := n) hB hpi
    refine tz_iload3 (n := 9) (g_at ck_X3_readSum 6 rfl) rfl ?_
    refine tz_sipush (n := 12) (g_at ck_X3_readSum 7 rfl) rfl rfl ?_
    refine tz_icmp_ge (n := 15) (tgt := 92) (g_at ck_X3_readSum 8 rfl) rfl rfl ⟨(by omega), (by omega), (by decide), (by decide)⟩ (fun h12 => absurd h12 (by omega)) (fun h12 => ?_)
    refine tz_iload2 (n := 16) (g_at ck_X3_readSum 9 rfl) rfl ?_
    refine tz_if_eq (n := 19) (tgt := 92) (g_at ck_X3_readSum 10 rfl) rfl rfl (by omega) (fun h16 => ?_) (fun h16 => ?_)
    · skip
      refine tz_iload2 (n := 93) (g_at ck_X3_readSum 43 rfl) rfl ?_
      exact tz_bret (g_at ck_X3_readSum 44 rfl) rfl hoi (rI_mk (by have es : ch9 t n (tS9 t n) F s 700 = (ch9 t n (tS9 t n) F s i) := ch9_stay (if_neg (fun h9 => absurd h9.1 (by omega))) 700 (by omega); rw [es]; exact ⟨rfl, hRi, hDi, rfl, hFi⟩))
    · skip
      have hz1 : (ch9 t n (tS9 t n) F s i).1 = 1 := by omega
      refine tz_aload0 (n := 20) (g_at ck_X3_readSum 11 rfl) rfl (g_ne kd_37) ?_
      refine tz_getOv (n := 23) (a := 38) fk_X3_14 kd_37 (ly_37_0 hL) (g_at ck_X3_readSum 12 rfl) rfl ?_
      refine tz_getIw (n := 26) (kz := 3) fk_X3_47 kd_38 (g_at ck_X3_readSum 13 rfl) rfl rfl ?_
      rw [hDi.tk.k]
      refine tz_bipush (n := 28) (g_at ck_X3_readSum 14 rfl) rfl rfl ?_
      refine tz_icmp_eq (n := 31) (tgt := 43) (g_at ck_X3_readSum 15 rfl) rfl rfl ⟨by omega, by omega, by decide, by decide⟩ (fun h28 => ?_) (fun h28 => ?_)
      · skip
        refine tz_aload0 (n := 44) (g_at ck_X3_readSum 21 rfl) rfl (g_ne kd_37) ?_
        refine tz_getOv (n := 47) (a := 38) fk_X3_14 kd_37 (ly_37_0 hL) (g_at ck_X3_readSum 22 rfl) rfl ?_
        refine tz_getIw (n := 50) (kz := 3) fk_X3_47 kd_38 (g_at ck_X3_readSum 23 rfl) rfl rfl ?_
        rw [hDi.tk.k]
        refine tz_bipush (n := 52) (g_at ck_X3_readSum 24 rfl) rfl rfl ?_
        refine tz_icmp_ne (n := 55) (tgt := 60) (g_at ck_X3_readSum 25 rfl) rfl rfl ⟨by omega, by omega, by decide, by decide⟩ (fun h52 => absurd h52 (by omega)) (fun h52 => ?_)
        refine tz_bipush (n := 57) (g_at ck_X3_readSum 26 rfl) rfl rfl ?_
        refine tz_goto (tgt := 62) (g_at ck_X3_readSum 27 rfl) rfl ?_
        refine tz_istore4 (n := 64) (g_at ck_X3_readSum 29 rfl) rfl (by decide) g_hpI ?_
        refine tz_aload0 (n := 65) (g_at ck_X3_readSum 30 rfl) rfl (g_ne kd_37) ?_
        refine tz_getOv (n := 68) (a := 38) fk_X3_14 kd_37 (ly_37_0 hL) (g_at ck_X3_readSum 31 rfl) rfl ?_
        refine tz_cvV0 (n := 71) (μ' := μX7_advance) (cb' := 0) (sb' := 0) ml_X3_101 mo_X7_advance mv_X7_advance np_X7_advance kd_38 (g_at ck_X3_readSum 32 rfl) (sp_advance hL hRi hB hn (show 0 ≤ tQ t n (sP (ch9 t n (tS9 t n) F s i)) ∧ tQ t n (sP (ch9 t n (tS9 t n) F s i)) ≤ n by omega) hDi.tk.1 hDi.tk.2.1 hDi.tk.q) rfl rfl rfl ⟨by omega, by decide⟩ (Nat.le_of_ble_eq_true rfl) (by decide) (by decide) (fun ρ9 m68 hq => ?_)
        obtain ⟨rfl, hR2, hF68, hC68⟩ := hq
        have hD68 := hDi.nx hB hR2 hF68 hC68
        have hE68 : FE u m1 m68 := FE.tok hF68
        refine tz_aload0 (n := 72) (g_at ck_X3_readSum 33 rfl) rfl (g_ne kd_37) ?_
        refine tz_iload1 (n := 73) (g_at ck_X3_readSum 34 rfl) rfl ?_
        refine tz_cvI1 (n := 76) (μ' := μX3_readProduct) (cb' := 0) (sb' := 0) ml_X3_191 mo_X3_readProduct mv_X3_readProduct np_X3_readProduct kd_37 (g_at ck_X3_readSum 35 rfl) (hP u _ (nx9 t n (ch9 t n (tS9 t n) F s i)) hD68 hz1) rfl rfl rfl ⟨by omega, by decide⟩ (Nat.le_of_ble_eq_true rfl) (by decide) (by decide) (fun x73 ρ9 m73 hq => ?_)
        obtain ⟨rfl, hR3, hD73, rfl, hF73⟩ := hq
        have ho73 := hD73.o
        refine tz_istore2 (n := 77) (g_at ck_X3_readSum 36 rfl) rfl (by decide) g_hpI ?_
        refine tz_aload0 (n := 78) (g_at ck_X3_readSum 37 rfl) rfl (g_ne kd_37) ?_
        refine tz_getOv (n := 81) (a := u) fk_X3_30 kd_37 (by first | exact hDi.ru | exact hD.ru) (g_at ck_X3_readSum 38 rfl) rfl ?_
        refine tz_iload4 (n := 83) (g_at ck_X3_readSum 39 rfl) rfl ?_
        refine tz_cvV1 (n := 86) (μ' := μX4_add) (cb' := 0) (sb' := 0) ml_X3_175 mo_X4_add mv_X4_add np_X4_add (isU_r4 hL hD.u4).k0 (g_at ck_X3_readSum 40 rfl) (sp_ruleAddT (isU_r4 hL hD.u4) hR3 (FE.l2 hD73.l) (by decide)) rfl rfl rfl ⟨by omega, by decide⟩ (Nat.le_of_ble_eq_true rfl) (by decide) (by decide) (fun ρ9 m83 hq => ?_)
        obtain ⟨rfl, hR4, rfl⟩ := hq
        have hDa := hD73.ad (x := -11) hR4
        refine tz_iinc3 (n := 89) (g_at ck_X3_readSum 41 rfl) rfl (by decide) g_hpI ?_
        refine tz_goto (tgt := 8) (g_at ck_X3_readSum 42 rfl) rfl ?_
        refine tz_drop4 ?_
        have et : tS9 t n (sP (ch9 t n (tS9 t n) F s i)) = -11 := (if_pos h28)
        have e9 : ch9 t n (tS9 t n) F s (i + 1) = ad9 (-11) (F (nx9 t n (ch9 t n (tS9 t n) F s i))) := by
          show st9 t n (tS9 t n) F (ch9 t n (tS9 t n) F s i) = _
          unfold st9
          rw [if_pos ⟨hz1, by rw [et]; decide⟩, et]
        exact gT_eq (ihi _ ⟨by rw [e9]; exact hDa, ((hFi.tr hE68).tr hF73).tr (FE.add hD.u4)⟩) rfl (by rw [e9]; rfl)
      · skip
        refine tz_aload0 (n := 32) (g_at ck_X3_readSum 16 rfl) rfl (g_ne kd_37) ?_
        refine tz_getOv (n := 35) (a := 38) fk_X3_14 kd_37 (ly_37_0 hL) (g_at ck_X3_readSum 17 rfl) rfl ?_
        refine tz_getIw (n := 38) (kz := 3) fk_X3_47 kd_38 (g_at ck_X3_readSum 18 rfl) rfl rfl ?_
        rw [hDi.tk.k]
        refine tz_bipush (n := 40) (g_at ck_X3_readSum 19 rfl) rfl rfl ?_
        refine tz_icmp_ne (n := 43) (tgt := 92) (g_at ck_X3_readSum 20 rfl) rfl rfl ⟨by omega, by omega, by decide, by decide⟩ (fun h40 => ?_) (fun h40 => ?_)
        · skip
          refine tz_iload2 (n := 93) (g_at ck_X3_readSum 43 rfl) rfl ?_
          exact tz_bret (g_at ck_X3_readSum 44 rfl) rfl hoi (rI_mk (by have es : ch9 t n (tS9 t n) F s 700 = (ch9 t n (tS9 t n) F s i) := ch9_stay (if_neg (fun h9 => h9.2 ((if_neg h28).trans (if_neg h40)))) 700 (by omega); rw [es]; exact ⟨rfl, hRi, hDi, rfl, hFi⟩))
        · skip
          refine tz_aload0 (n := 44) (g_at ck_X3_readSum 21 rfl) rfl (g_ne kd_37) ?_
          refine tz_getOv (n := 47) (a := 38) fk_X3_14 kd_37 (ly_37_0 hL) (g_at ck_X3_readSum 22 rfl) rfl ?_
          refine tz_getIw (n := 50) (kz := 3) fk_X3_47 kd_38 (g_at ck_X3_readSum 23 rfl) rfl rfl ?_
          rw [hDi.tk.k]
          refine tz_bipush (n := 52) (g_at ck_X3_readSum 24 rfl) rfl rfl ?_
          refine tz_icmp_ne (n := 55) (tgt := 60) (g_at ck_X3_readSum 25 rfl) rfl rfl ⟨by omega, by omega, by decide, by decide⟩ (fun h52 => ?_) (fun h52 => absurd h52 (by omega))
          refine tz_bipush (n := 62) (g_at ck_X3_readSum 28 rfl) rfl rfl ?_
          refine tz_istore4 (n := 64) (g_at ck_X3_readSum 29 rfl) rfl (by decide) g_hpI ?_
          refine tz_aload0 (n := 65) (g_at ck_X3_readSum 30 rfl) rfl (g_ne kd_37) ?_
          refine tz_getOv (n := 68) (a := 38) fk_X3_14 kd_37 (ly_37_0 hL) (g_at ck_X3_readSum 31 rfl) rfl ?_
          refine tz_cvV0 (n := 71) (μ' := μX7_advance) (cb' := 0) (sb' := 0) ml_X3_101 mo_X7_advance mv_X7_advance np_X7_advance kd_38 (g_at ck_X3_readSum 32 rfl) (sp_advance hL hRi hB hn (show 0 ≤ tQ t n (sP (ch9 t n (tS9 t n) F s i)) ∧ tQ t n (sP (ch9 t n (tS9 t n) F s i)) ≤ n by omega) hDi.tk.1 hDi.tk.2.1 hDi.tk.q) rfl rfl rfl ⟨by omega, by decide⟩ (Nat.le_of_ble_eq_true rfl) (by decide) (by decide) (fun ρ9 m68 hq => ?_)
          obtain ⟨rfl, hR5, hF68, hC68⟩ := hq
          have hD68 := hDi.nx hB hR5 hF68 hC68
          have hE68 : FE u m1 m68 := FE.tok hF68
          refine tz_aload0 (n := 72) (g_at ck_X3_readSum 33 rfl) rfl (g_ne kd_37) ?_
          refine tz_iload1 (n := 73) (g_at ck_X3_readSum 34 rfl) rfl ?_
          refine tz_cvI1 (n := 76) (μ' := μX3_readProduct) (cb' := 0) (sb' := 0) ml_X3_191 mo_X3_readProduct mv_X3_readProduct np_X3_readProduct kd_37 (g_at ck_X3_readSum 35 rfl) (hP u _ (nx9 t n (ch9 t n (tS9 t n) F s i)) hD68 hz1) rfl rfl rfl ⟨by omega, by decide⟩ (Nat.le_of_ble_eq_true rfl) (by decide) (by decide) (fun x73 ρ9 m73 hq => ?_)
          obtain ⟨rfl, hR6, hD73, rfl, hF73⟩ := hq
          have ho73 := hD73.o
          refine tz_istore2 (n := 77) (g_at ck_X3_readSum 36 rfl) rfl (by decide) g_hpI ?_
          refine tz_aload0 (n := 78) (g_at ck_X3_readSum 37 rfl) rfl (g_ne kd_37) ?_
          refine tz_getOv (n := 81) (a := u) fk_X3_30 kd_37 (by first | exact hDi.ru | exact hD.ru) (g_at ck_X3_readSum 38 rfl) rfl ?_
          refine tz_iload4 (n := 83) (g_at ck_X3_readSum 39 rfl) rfl ?_
          refine tz_cvV1 (n := 86) (μ' := μX4_add) (cb' := 0) (sb' := 0) ml_X3_175 mo_X4_add mv_X4_add np_X4_add (isU_r4 hL hD.u4).k0 (g_at ck_X3_readSum 40 rfl) (sp_ruleAddT (isU_r4 hL hD.u4) hR6 (FE.l2 hD73.l) (by decide)) rfl rfl rfl ⟨by omega, by decide⟩ (Nat.le_of_ble_eq_true rfl) (by decide) (by decide) (fun ρ9 m83 hq => ?_)
          obtain ⟨rfl, hR7, rfl⟩ := hq
          have hDa := hD73.ad (x := -12) hR7
          refine tz_iinc3 (n := 89) (g_at ck_X3_readSum 41 rfl) rfl (by decide) g_hpI ?_
          refine tz_goto (tgt := 8) (g_at ck_X3_readSum 42 rfl) rfl ?_
          refine tz_drop4 ?_
          have et : tS9 t n (sP (ch9 t n (tS9 t n) F s i)) = -12 := ((if_neg h28).trans (if_pos h40))
          have e9 : ch9 t n (tS9 t n) F s (i + 1) = ad9 (-12) (F (nx9 t n (ch9 t n (tS9 t n) F s i))) := by
            show st9 t n (tS9 t n) F (ch9 t n (tS9 t n) F s i) = _
            unfold st9
            rw [if_pos ⟨hz1, by rw [et]; decide⟩, et]
          exact gT_eq (ihi _ ⟨by rw [e9]; exact hDa, ((hFi.tr hE68).tr hF73).tr (FE.add hD.u4)⟩) rfl (by rw [e9]; rfl)
theorem sp_readAnd {l : Launch} {γ : Gh} {ρ m : Mm} {d : Nat} {w : Int} {F : PS → PS} {t : Int → Int} {n u : Int} {s : PS} (hL : LY ρ) (hB : BY t) (hn : 0 ≤ n ∧ n ≤ 700) (hD : RD ρ m t n u s) (h1 : s.1 = 1) (hd : 7 ≤ d) (hP : Ct l γ ρ t n μX3_readNot d w F) : gE l γ μX3_readAnd (d + 1) 0 0 (rI KK fun x ρ9 m9 => ρ = ρ9 ∧ MR m9 ∧ RD ρ9 m9 t n u (ch9 t n (tN9 t n) F s 700) ∧ (ch9 t n (tN9 t n) F s 700).1 = x ∧ FE u m m9) xN KK ρ m [vR 37, vI w] := by
  refine gE.ofw cl_X3.2 ?_ rfl rfl (Nat.le_of_ble_eq_true rfl)
  show gT l γ μX3_readAnd (d + 1) 0 0 _ _ KK ρ m 0 [some (vR 37), some (vI w), none, none] []
  have hR := hD.r
  have hp := hD.p
  have hr9 := tk_rg (n := n) hB hp
  have hu4 := hD.u4
  unfold isR4 at hu4
  refine tz_aload0 (n := 1) (g_at ck_X3_readAnd 0 rfl) rfl (g_ne kd_37) ?_
  refine tz_iload1 (n := 2) (g_at ck_X3_readAnd 1 rfl) rfl ?_
  refine tz_cvI1 (n := 5) (μ' := μX3_readNot) (cb' := 0) (sb' := 0) ml_X3_178 mo_X3_readNot mv_X3_readNot np_X3_readNot kd_37 (g_at ck_X3_readAnd 2 rfl) (hP u _ s hD h1) rfl rfl rfl ⟨by omega, by decide⟩ (Nat.le_of_ble_eq_true rfl) (by decide) (by decide) (fun x2 ρ9 m2 hq => ?_)
  obtain ⟨rfl, hR1, hD2, rfl, hF2⟩ := hq
  have ho2 := hD2.o
  refine tz_istore2 (n := 6) (g_at ck_X3_readAnd 3 rfl) rfl (by decide) g_hpI ?_
  refine tz_iconst (n := 7) (g_at ck_X3_readAnd 4 rfl) rfl ?_
  refine tz_istore3 (n := 8) (g_at ck_X3_readAnd 5 rfl) rfl (by decide) g_hpI ?_
  refine g_for (fun i : Nat => ∀ m1 : Mm, (RD ρ m1 t n u (ch9 t n (tN9 t n) F s i) ∧ FE u m m1) → gT l γ μX3_readAnd (d + 1) 0 0 _ _ KK ρ m1 8 [some (vR 37), some (vI w), some (vI (ch9 t n (tN9 t n) F s i).1), some (vI (i : Int))] []) 700 ?_ (fun i hi ihi => ?_) 0 (Nat.zero_le _) _ ⟨hD2, hF2⟩
  · intro m1 hinv
    obtain ⟨hDi, hFi⟩ := hinv
    have hRi := hDi.r
    have hoi := hDi.o
    refine tz_iload3 (n := 9) (g_at ck_X3_readAnd 6 rfl) rfl ?_
    refine tz_sipush (n := 12) (g_at ck_X3_readAnd 7 rfl) rfl rfl ?_
    refine tz_icmp_ge (n := 15) (tgt := 59) (g_at ck_X3_readAnd 8 rfl) rfl rfl ⟨(by omega), (by omega), (by decide), (by decide)⟩ (fun h12 => ?_) (fun h12 => absurd h12 (by omega))
    refine tz_iload2 (n := 60) (g_at ck_X3_readAnd 29 rfl) rfl ?_
    exact tz_bret (g_at ck_X3_readAnd 30 rfl) rfl hoi (rI_mk (by exact ⟨rfl, hRi, hDi, rfl, hFi⟩))
  · intro m1 hinv
    obtain ⟨hDi, hFi⟩ := hinv
    have hRi := hDi.r
    have hoi := hDi.o
    have hpi := hDi.p
    have hri := tk_rg (n := n) hB hpi
    refine tz_iload3 (n := 9) (g_at ck_X3_readAnd 6 rfl) rfl ?_
    refine tz_sipush (n := 12) (g_at ck_X3_readAnd 7 rfl) rfl rfl ?_
    refine tz_icmp_ge (n := 15) (tgt := 59) (g_at ck_X3_readAnd 8 rfl) rfl rfl ⟨(by omega), (by omega), (by decide), (by decide)⟩ (fun h12 => absurd h12 (by omega)) (fun h12 => ?_)
    refine tz_iload2 (n := 16) (g_at ck_X3_readAnd 9 rfl) rfl ?_
    refine tz_if_eq (n := 19) (tgt := 59) (g_at ck_X3_readAnd 10 rfl) rfl rfl (by omega) (fun h16 => ?_) (fun h16 => ?_)
    · skip
      refine tz_iload2 (n := 60) (g_at ck_X3_readAnd 29 rfl) rfl ?_
      exact tz_bret (g_at ck_X3_readAnd 30 rfl) rfl hoi (rI_mk (by have es : ch9 t n (tN9 t n) F s 700 = (ch9 t n (tN9 t n) F s i) := ch9_stay (if_neg (fun h9 => absurd h9.1 (by omega))) 700 (by omega); rw [es]; exact ⟨rfl, hRi, hDi, rfl, hFi⟩))
    · skip
      have hz1 : (ch9 t n (tN9 t n) F s i).1 = 1 := by omega
      refine tz_aload0 (n := 20) (g_at ck_X3_readAnd 11 rfl) rfl (g_ne kd_37) ?_
      refine tz_getOv (n := 23) (a := 38) fk_X3_14 kd_37 (ly_37_0 hL) (g_at ck_X3_readAnd 12 rfl) rfl ?_
      refine tz_ldcSw (n := 25) st_12 (g_at ck_X3_readAnd 13 rfl) rfl ?_
      refine tz_cvI1 (n := 28) (μ' := μX7_isWord) (cb' := 0) (sb' := 0) ml_X3_62 mo_X7_isWord mv_X7_isWord np_X7_isWord kd_38 (g_at ck_X3_readAnd 14 rfl) (sp_isWord (i9 := 12) sn_12 hL hRi hB hn hDi.p hDi.tk) rfl rfl rfl ⟨by omega, by decide⟩ (Nat.le_of_ble_eq_true rfl) (by decide) (by decide) (fun x25 ρ9 m25 hq => ?_)
      obtain ⟨rfl, hR2, rfl, rfl⟩ := hq
      have hww := wdI_01 (t := t) (n := n) (p := sP (ch9 t n (tN9 t n) F s i)) (i9 := 12)
      refine tz_if_eq (n := 31) (tgt := 59) (g_at ck_X3_readAnd 15 rfl) rfl rfl (by omega) (fun h28 => ?_) (fun h28 => ?_)
      · skip
        refine tz_iload2 (n := 60) (g_at ck_X3_readAnd 29 rfl) rfl ?_
        exact tz_bret (g_at ck_X3_readAnd 30 rfl) rfl hoi (rI_mk (by have es : ch9 t n (tN9 t n) F s 700 = (ch9 t n (tN9 t n) F s i) := ch9_stay (if_neg (fun h9 => h9.2 (if_neg (by omega)))) 700 (by omega); rw [es]; exact ⟨rfl, hR2, hDi, rfl, hFi⟩))
      · skip
        refine tz_aload0 (n := 32) (g_at ck_X3_readAnd 16 rfl) rfl (g_ne kd_37) ?_
        refine tz_getOv (n := 35) (a := 38) fk_X3_14 kd_37 (ly_37_0 hL) (g_at ck_X3_readAnd 17 rfl) rfl ?_
        refine tz_cvV0 (n := 38) (μ' := μX7_advance) (cb' := 0) (sb' := 0) ml_X3_101 mo_X7_advance mv_X7_advance np_X7_advance kd_38 (g_at ck_X3_readAnd 18 rfl) (sp_advance hL hR2 hB hn (show 0 ≤ tQ t n (sP (ch9 t n (tN9 t n) F s i)) ∧ tQ t n (sP (ch9 t n (tN9 t n) F s i)) ≤ n by omega) hDi.tk.1 hDi.tk.2.1 hDi.tk.q) rfl rfl rfl ⟨by omega, by decide⟩ (Nat.le_of_ble_eq_true rfl) (by decide) (by decide) (fun ρ9 m35 hq => ?_)
        obtain ⟨rfl, hR3, hF35, hC35⟩ := hq
        have hD35 := hDi.nx hB hR3 hF35 hC35
        have hE35 : FE u m1 m35 := FE.tok hF35
        refine tz_aload0 (n := 39) (g_at ck_X3_readAnd 19 rfl) rfl (g_ne kd_37) ?_
        refine tz_iload1 (n := 40) (g_at ck_X3_readAnd 20 rfl) rfl ?_
        refine tz_cvI1 (n := 43) (μ' := μX3_readNot) (cb' := 0) (sb' := 0) ml_X3_178 mo_X3_readNot mv_X3_readNot np_X3_readNot kd_37 (g_at ck_X3_readAnd 21 rfl) (hP u _ (nx9 t n (ch9 t n (tN9 t n) F s i)) hD35 hz1) rfl rfl rfl ⟨by omega, by decide⟩ (Nat.le_of_ble_eq_true rfl) (by decide) (by decide) (fun x40 ρ9 m40 hq => ?_)
        obtain ⟨rfl, hR4, hD40, rfl, hF40⟩ := hq
        have ho40 := hD40.o
        refine tz_istore2 (n := 44) (g_at ck_X3_readAnd 22 rfl) rfl (by decide) g_hpI ?_
        refine tz_aload0 (n := 45) (g_at ck_X3_readAnd 23 rfl) rfl (g_ne kd_37) ?_
        refine tz_getOv (n := 48) (a := u) fk_X3_30 kd_37 (by first | exact hDi.ru | exact hD.ru) (g_at ck_X3_readAnd 24 rfl) rfl ?_
        refine tz_bipush (n := 50) (g_at ck_X3_readAnd 25 rfl) rfl rfl ?_
        refine tz_cvV1 (n := 53) (μ' := μX4_add) (cb' := 0) (sb' := 0) ml_X3_175 mo_X4_add mv_X4_add np_X4_add (isU_r4 hL hD.u4).k0 (g_at ck_X3_readAnd 26 rfl) (sp_ruleAddT (isU_r4 hL hD.u4) hR4 (FE.l2 hD40.l) (by decide)) rfl rfl rfl ⟨by omega, by decide⟩ (Nat.le_of_ble_eq_true rfl) (by decide) (by decide) (fun ρ9 m50 hq => ?_)
        obtain ⟨rfl, hR5, rfl⟩ := hq
        have hDa := hD40.ad (x := -7) hR5
        refine tz_iinc3 (n := 56) (g_at ck_X3_readAnd 27 rfl) rfl (by decide) g_hpI ?_
        refine tz_goto (tgt := 8) (g_at ck_X3_readAnd 28 rfl) rfl ?_
        have et : tN9 t n (sP (ch9 t n (tN9 t n) F s i)) = -7 := if_pos (by omega)
        have e9 : ch9 t n (tN9 t n) F s (i + 1) = ad9 (-7) (F (nx9 t n (ch9 t n (tN9 t n) F s i))) := by
          show st9 t n (tN9 t n) F (ch9 t n (tN9 t n) F s i) = _
          unfold st9
          rw [if_pos ⟨hz1, by rw [et]; decide⟩, et]
        exact gT_eq (ihi _ ⟨by rw [e9]; exact hDa, ((hFi.tr hE35).tr hF40).tr (FE.add hD.u4)⟩) rfl (by rw [e9]; rfl)
theorem sp_readExpr {l : Launch} {γ : Gh} {ρ m : Mm} {d : Nat} {w : Int} {F : PS → PS} {t : Int → Int} {n u : Int} {s : PS} (hL : LY ρ) (hB : BY t) (hn : 0 ≤ n ∧ n ≤ 700) (hD : RD ρ m t n u s) (h1 : s.1 = 1) (hd : 7 ≤ d) (hP : Ct l γ ρ t n μX3_readAnd d w F) (hw : 0 ≤ w ∧ w < 6) : gE l γ μX3_readExpr (d + 1) 0 0 (rI KK fun x ρ9 m9 => ρ = ρ9 ∧ MR m9 ∧ RD ρ9 m9 t n u (ch9 t n (tO9 t n) F s 700) ∧ (ch9 t n (tO9 t n) F s 700).1 = x ∧ FE u m m9) xN KK ρ m [vR 37, vI w] := by
  refine gE.ofw cl_X3.2 ?_ rfl rfl (Nat.le_of_ble_eq_true rfl)
  show gT l γ μX3_readExpr (d + 1) 0 0 _ _ KK ρ m 0 [some (vR 37), some (vI w), none, none] []
  have hR := hD.r
  have hp := hD.p
  have hr9 := tk_rg (n := n) hB hp
  have hu4 := hD.u4
  unfold isR4 at hu4
  refine tz_iload1 (n := 1) (g_at ck_X3_readExpr 0 rfl) rfl ?_
  refine tz_bipush (n := 3) (g_at ck_X3_readExpr 1 rfl) rfl rfl ?_
  refine tz_icmp_lt (n := 6) (tgt := 23) (g_at ck_X3_readExpr 2 rfl) rfl rfl ⟨by omega, by omega, by decide, by decide⟩ (fun h3 => ?_) (fun h3 => absurd h3 (by omega))
  refine tz_aload0 (n := 24) (g_at ck_X3_readExpr 12 rfl) rfl (g_ne kd_37) ?_
  refine tz_iload1 (n := 25) (g_at ck_X3_readExpr 13 rfl) rfl ?_
  refine tz_cvI1 (n := 28) (μ' := μX3_readAnd) (cb' := 0) (sb' := 0) ml_X3_170 mo_X3_readAnd mv_X3_readAnd np_X3_readAnd kd_37 (g_at ck_X3_readExpr 14 rfl) (hP u _ s hD h1) rfl rfl rfl ⟨by omega, by decide⟩ (Nat.le_of_ble_eq_true rfl) (by decide) (by decide) (fun x25 ρ9 m25 hq => ?_)
  obtain ⟨rfl, hR1, hD25, rfl, hF25⟩ := hq
  have ho25 := hD25.o
  refine tz_istore2 (n := 29) (g_at ck_X3_readExpr 15 rfl) rfl (by decide) g_hpI ?_
  refine tz_iconst (n := 30) (g_at ck_X3_readExpr 16 rfl) rfl ?_
  refine tz_istore3 (n := 31) (g_at ck_X3_readExpr 17 rfl) rfl (by decide) g_hpI ?_
  refine g_for (fun i : Nat => ∀ m1 : Mm, (RD ρ m1 t n u (ch9 t n (tO9 t n) F s i) ∧ FE u m m1) → gT l γ μX3_readExpr (d + 1) 0 0 _ _ KK ρ m1 31 [some (vR 37), some (vI w), some (vI (ch9 t n (tO9 t n) F s i).1), some (vI (i : Int))] []) 700 ?_ (fun i hi ihi => ?_) 0 (Nat.zero_le _) _ ⟨hD25, hF25⟩
  · intro m1 hinv
    obtain ⟨hDi, hFi⟩ := hinv
    have hRi := hDi.r
    have hoi := hDi.o
    refine tz_iload3 (n := 32) (g_at ck_X3_readExpr 18 rfl) rfl ?_
    refine tz_sipush (n := 35) (g_at ck_X3_readExpr 19 rfl) rfl rfl ?_
    refine tz_icmp_ge (n := 38) (tgt := 82) (g_at ck_X3_readExpr 20 rfl) rfl rfl ⟨(by omega), (by omega), (by decide), (by decide)⟩ (fun h35 => ?_) (fun h35 => absurd h35 (by omega))
    refine tz_iload2 (n := 83) (g_at ck_X3_readExpr 41 rfl) rfl ?_
    exact tz_bret (g_at ck_X3_readExpr 42 rfl) rfl hoi (rI_mk (by exact ⟨rfl, hRi, hDi, rfl, hFi⟩))
  · intro m1 hinv
    obtain ⟨hDi, hFi⟩ := hinv
    have hRi := hDi.r
    have hoi := hDi.o
    have hpi := hDi.p
    have hri := tk_rg (n := n) hB hpi
    refine tz_iload3 (n := 32) (g_at ck_X3_readExpr 18 rfl) rfl ?_
    refine tz_sipush (n := 35) (g_at ck_X3_readExpr 19 rfl) rfl rfl ?_
    refine tz_icmp_ge (n := 38) (tgt := 82) (g_at ck_X3_readExpr 20 rfl) rfl rfl ⟨(by omega), (by omega), (by decide), (by decide)⟩ (fun h35 => absurd h35 (by omega)) (fun h35 => ?_)
    refine tz_iload2 (n := 39) (g_at ck_X3_readExpr 21 rfl) rfl ?_
    refine tz_if_eq (n := 42) (tgt := 82) (g_at ck_X3_readExpr 22 rfl) rfl rfl (by omega) (fun h39 => ?_) (fun h39 => ?_)
    · skip
      refine tz_iload2 (n := 83) (g_at ck_X3_readExpr 41 rfl) rfl ?_
      exact tz_bret (g_at ck_X3_readExpr 42 rfl) rfl hoi (rI_mk (by have es : ch9 t n (tO9 t n) F s 700 = (ch9 t n (tO9 t n) F s i) := ch9_stay (if_neg (fun h9 => absurd h9.1 (by omega))) 700 (by omega); rw [es]; exact ⟨rfl, hRi, hDi, rfl, hFi⟩))
    · skip
      have hz1 : (ch9 t n (tO9 t n) F s i).1 = 1 := by omega
      refine tz_aload0 (n := 43) (g_at ck_X3_readExpr 23 rfl) rfl (g_ne kd_37) ?_
      refine tz_getOv (n := 46) (a := 38) fk_X3_14 kd_37 (ly_37_0 hL) (g_at ck_X3_readExpr 24 rfl) rfl ?_
      refine tz_ldcSw (n := 48) st_13 (g_at ck_X3_readExpr 25 rfl) rfl ?_
      refine tz_cvI1 (n := 51) (μ' := μX7_isWord) (cb' := 0) (sb' := 0) ml_X3_62 mo_X7_isWord mv_X7_isWord np_X7_isWord kd_38 (g_at ck_X3_readExpr 26 rfl) (sp_isWord (i9 := 13) sn_13 hL hRi hB hn hDi.p hDi.tk) rfl rfl rfl ⟨by omega, by decide⟩ (Nat.le_of_ble_eq_true rfl) (by decide) (by decide) (fun x48 ρ9 m48 hq => ?_)
      obtain ⟨rfl, hR2, rfl, rfl⟩ := hq
      have hww := wdI_01 (t := t) (n := n) (p := sP (ch9 t n (tO9 t n) F s i)) (i9 := 13)
      refine tz_if_eq (n := 54) (tgt := 82) (g_at ck_X3_readExpr 27 rfl) rfl rfl (by omega) (fun h51 => ?_) (fun h51 => ?_)
      · skip
        refine tz_iload2 (n := 83) (g_at ck_X3_readExpr 41 rfl) rfl ?_
        exact tz_bret (g_at ck_X3_readExpr 42 rfl) rfl hoi (rI_mk (by have es : ch9 t n (tO9 t n) F s 700 = (ch9 t n (tO9 t n) F s i) := ch9_stay (if_neg (fun h9 => h9.2 (if_neg (by omega)))) 700 (by omega); rw [es]; exact ⟨rfl, hR2, hDi, rfl, hFi⟩))
      · skip
        refine tz_aload0 (n := 55) (g_at ck_X3_readExpr 28 rfl) rfl (g_ne kd_37) ?_
        refine tz_getOv (n := 58) (a := 38) fk_X3_14 kd_37 (ly_37_0 hL) (g_at ck_X3_readExpr 29 rfl) rfl ?_
        refine tz_cvV0 (n := 61) (μ' := μX7_advance) (cb' := 0) (sb' := 0) ml_X3_101 mo_X7_advance mv_X7_advance np_X7_advance kd_38 (g_at ck_X3_readExpr 30 rfl) (sp_advance hL hR2 hB hn (show 0 ≤ tQ t n (sP (ch9 t n (tO9 t n) F s i)) ∧ tQ t n (sP (ch9 t n (tO9 t n) F s i)) ≤ n by omega) hDi.tk.1 hDi.tk.2.1 hDi.tk.q) rfl rfl rfl ⟨by omega, by decide⟩ (Nat.le_of_ble_eq_true rfl) (by decide) (by decide) (fun ρ9 m58 hq => ?_)
        obtain ⟨rfl, hR3, hF58, hC58⟩ := hq
        have hD58 := hDi.nx hB hR3 hF58 hC58
        have hE58 : FE u m1 m58 := FE.tok hF58
        refine tz_aload0 (n := 62) (g_at ck_X3_readExpr 31 rfl) rfl (g_ne kd_37) ?_
        refine tz_iload1 (n := 63) (g_at ck_X3_readExpr 32 rfl) rfl ?_
        refine tz_cvI1 (n := 66) (μ' := μX3_readAnd) (cb' := 0) (sb' := 0) ml_X3_170 mo_X3_readAnd mv_X3_readAnd np_X3_readAnd kd_37 (g_at ck_X3_readExpr 33 rfl) (hP u _ (nx9 t n (ch9 t n (tO9 t n) F s i)) hD58 hz1) rfl rfl rfl ⟨by omega, by decide⟩ (Nat.le_of_ble_eq_true rfl) (by decide) (by decide) (fun x63 ρ9 m63 hq => ?_)
        obtain ⟨rfl, hR4, hD63, rfl, hF63⟩ := hq
        have ho63 := hD63.o
        refine tz_istore2 (n := 67) (g_at ck_X3_readExpr 34 rfl) rfl (by decide) g_hpI ?_
        refine tz_aload0 (n := 68) (g_at ck_X3_readExpr 35 rfl) rfl (g_ne kd_37) ?_
        refine tz_getOv (n := 71) (a := u) fk_X3_30 kd_37 (by first | exact hDi.ru | exact hD.ru) (g_at ck_X3_readExpr 36 rfl) rfl ?_
        refine tz_bipush (n := 73) (g_at ck_X3_readExpr 37 rfl) rfl rfl ?_
        refine tz_cvV1 (n := 76) (μ' := μX4_add) (cb' := 0) (sb' := 0) ml_X3_175 mo_X4_add mv_X4_add np_X4_add (isU_r4 hL hD.u4).k0 (g_at ck_X3_readExpr 38 rfl) (sp_ruleAddT (isU_r4 hL hD.u4) hR4 (FE.l2 hD63.l) (by decide)) rfl rfl rfl ⟨by omega, by decide⟩ (Nat.le_of_ble_eq_true rfl) (by decide) (by decide) (fun ρ9 m73 hq => ?_)
        obtain ⟨rfl, hR5, rfl⟩ := hq
        have hDa := hD63.ad (x := -6) hR5
        refine tz_iinc3 (n := 79) (g_at ck_X3_readExpr 39 rfl) rfl (by decide) g_hpI ?_
        refine tz_goto (tgt := 31) (g_at ck_X3_readExpr 40 rfl) rfl ?_
        have et : tO9 t n (sP (ch9 t n (tO9 t n) F s i)) = -6 := if_pos (by omega)
        have e9 : ch9 t n (tO9 t n) F s (i + 1) = ad9 (-6) (F (nx9 t n (ch9 t n (tO9 t n) F s i))) := by
          show st9 t n (tO9 t n) F (ch9 t n (tO9 t n) F s i) = _
          unfold st9
          rw [if_pos ⟨hz1, by rw [et]; decide⟩, et]
        exact gT_eq (ihi _ ⟨by rw [e9]; exact hDa, ((hFi.tr hE58).tr hF63).tr (FE.add hD.u4)⟩) rfl (by rw [e9]; rfl)
