/-! A whole text. -/
def Q0f (Q : Int → List Int) (sp : Int) : Int → List Int := upQ (upQ Q (sp + 6) []) (sp + 9) []
def z0f (Q : Int → List Int) (sp u w : Int) : LZ := ((1, 0, Q0f Q sp u, 0, w), fun _ _ => 0, Q0f Q sp)
theorem WN_0 : WN (fun _ _ => 0) := by
  refine ⟨⟨by decide, by decide⟩, ⟨by decide, by decide⟩, ⟨by decide, by decide⟩, fun c _ _ => ⟨Int.le_refl 0, show (0 : Int) ≤ 5 by decide⟩, fun _ _ _ => rfl, fun c h1 h2 => absurd h2 (show ¬ c < 0 by omega), fun c r h1 h2 => absurd h2 (show ¬ c < 0 by omega), fun p h1 h2 => absurd h2 (show ¬ p < 0 by omega), fun c _ _ => ⟨Int.le_refl 0, fun h => absurd h (show ¬ (0 : Int) < 0 by decide), rfl⟩, rfl⟩
theorem momclr_ne {m : Mm} {r a : Int} (h : a < r ∨ r + 4 < a) : momclr m r a = m a := by
  unfold momclr
  rw [fil_ne (by omega), fil_ne (by omega), fil_ne (by omega), fil_ne (by omega), wr_ne (by omega)]
theorem momclr_C {m : Mm} {r : Int} : MomC (momclr m r) r (fun _ => 0) := by
  unfold momclr
  refine ⟨by rw [fil_ne (by omega), fil_ne (by omega), fil_ne (by omega), fil_ne (by omega), wr_same], fun p a b => ⟨?_, ?_⟩, fun c a b => ⟨?_, ?_⟩⟩
  · rw [fil_ne (by omega), fil_ne (by omega), fil_ne (by omega), fil_at (by omega)]
  · rw [fil_ne (by omega), fil_ne (by omega), fil_at (by omega)]
  · rw [fil_ne (by omega), fil_at (by omega)]
  · rw [fil_at (by omega)]
theorem shclr_ne {m : Mm} {sp a : Int} (h : a ≠ sp) (h3 : a ≠ sp + 3) (h6 : a ≠ sp + 6) (h9 : a ≠ sp + 9) (h12 : a < sp + 12 ∨ sp + 16 < a) : shclr m sp a = m a := by
  unfold shclr
  rw [momclr_ne (by omega), wr_ne h9, wr_ne h6, fil_ne h3, wr_ne h, wr_ne h]
theorem LR_0 {ρ m m9 : Mm} {t : Int → Int} {n sp : Int} {Q : Int → List Int} (hsp : sp = 3 ∨ sp = 20) (hu : isR4 (ρ 37 2)) (hR : MR m9) (hn : 0 ≤ n) (hQ : ∀ v, isR4 v → v ≠ sp + 6 → v ≠ sp + 9 → RlC m v (Q v)) (hF : Fr [38] (wr (wr (shclr m sp) 37 3 0) 37 4 0) m9) (hC : TokC m9 t n 0) : LR (wr ρ 37 1 sp) m9 t n sp (ρ 37 2) (z0f Q sp (ρ 37 2) (m 37 5)).1 (z0f Q sp (ρ 37 2) (m 37 5)).2.1 (z0f Q sp (ρ 37 2) (m 37 5)).2.2 := by
  have hM : ∀ a, a ≠ 38 → a ≠ 37 → m9 a = shclr m sp a := fun a h1 h2 => by rw [hF a (by simp; exact h1), wr_ne h2, wr_ne h2]
  have h37 : ∀ k, k ≠ 3 → k ≠ 4 → m9 37 k = m 37 k := fun k h3 h4 => by rw [hF 37 (by decide), wr_at, if_neg h4, wr_at, if_neg h3, shclr_ne (by omega) (by omega) (by omega) (by omega) (by omega)]
  have hsp0 : ∀ k, shclr m sp sp k = (if k = 1 then 0 else if k = 0 then 0 else m sp k) := fun k => by
    unfold shclr
    rw [momclr_ne (by omega), wr_ne (by omega), wr_ne (by omega), fil_ne (by omega), wr_at, wr_at]
  have hr4 : R4 m9 (Q0f Q sp) := fun v hv => by
    unfold Q0f upQ
    have hv' := hv
    unfold isR4 at hv'
    split
    · rename_i e
      subst e
      refine ⟨?_, by decide, fun i hi => absurd hi (Nat.not_lt_zero i)⟩
      rw [hM _ (by omega) (by omega)]
      unfold shclr
      rw [momclr_ne (by omega), wr_same]
      rfl
    · rename_i e9
      split
      · rename_i e
        subst e
        refine ⟨?_, by decide, fun i hi => absurd hi (Nat.not_lt_zero i)⟩
        rw [hM _ (by omega) (by omega)]
        unfold shclr
        rw [momclr_ne (by omega), wr_ne (by omega), wr_same]
        rfl
      · rename_i e6
        refine (hQ v hv e6 e9).fr ?_ ?_
        · rw [hM _ (by omega) (by omega), shclr_ne (by omega) (by omega) (by omega) (by omega) (by omega)]
        · rw [hM _ (by omega) (by omega), shclr_ne (by omega) (by omega) (by omega) (by omega) (by omega)]
  refine ⟨⟨hR, by rw [wr_at, if_neg (by decide)], hu, hC, ⟨Int.le_refl 0, hn⟩, hr4 _ hu, ?_, ?_, Or.inr rfl⟩, wr_same, hsp, ?_, WN_0, hr4, rfl⟩
  · rw [hF 37 (by decide), wr_same]
    rfl
  · exact h37 5 (by decide) (by decide)
  · refine ⟨⟨?_, ?_, ?_⟩, fun c h1 h2 => absurd h2 (by show ¬ c < 0; omega), fun c h1 h2 => ?_, fun c r h1 h2 => absurd h2 (by show ¬ c < 0; omega), fun p h1 h2 => absurd h2 (by show ¬ p < 0; omega), ?_⟩
    · rw [hM _ (by omega) (by omega), hsp0]
      rfl
    · rw [hM _ (by omega) (by omega), hsp0]
      rfl
    · rw [hF 37 (by decide), wr_at, if_neg (by decide), wr_same]
      rfl
    · rw [hM _ (by omega) (by omega)]
      unfold shclr
      rw [momclr_ne (by omega), wr_ne (by omega), wr_ne (by omega), fil_at (by omega)]
      rfl
    · refine (momclr_C (m := wr (wr (fil (wr (wr m sp 0 0) sp 1 0) (sp + 3) 9 0) (sp + 6) 2 0) (sp + 9) 2 0) (r := sp + 12)).gen (fun a h1 h2 => ?_)
      rw [hM _ (by omega) (by omega)]
      rfl
theorem FL_0 {m m9 : Mm} {sp : Int} (hF : Fr [38] (wr (wr (shclr m sp) 37 3 0) 37 4 0) m9) : FL sp m m9 := fun a h1 h2 h3 h4 => by
  rw [hF a (by simp; exact h3), wr_ne h2, wr_ne h2, shclr_ne (by omega) (by omega) (by omega) (by omega) (by omega)]
theorem sp_read {l : Launch} {γ : Gh} {ρ m : Mm} {t : Int → Int} {n sp : Int} {Q : Int → List Int} (hL : LY ρ) (hB : BY t) (hn : 0 ≤ n ∧ n ≤ 700) (hsp : sp = 3 ∨ sp = 20) (hS : isS ρ sp) (hR : MR m) (hu : isR4 (ρ 37 2)) (hT : TpC m t n) (hQ : ∀ v, isR4 v → v ≠ sp + 6 → v ≠ sp + 9 → RlC m v (Q v)) : gE l γ μX3_read 53 0 0 (rI KK fun x ρ9 m9 => q37 (wr ρ 37 1 sp) ρ9 ∧ MR m9 ∧ (∃ u9, LR ρ9 m9 t n sp u9 (lN9 t n sp (z0f Q sp (ρ 37 2) (m 37 5)) 700).1 (lN9 t n sp (z0f Q sp (ρ 37 2) (m 37 5)) 700).2.1 (lN9 t n sp (z0f Q sp (ρ 37 2) (m 37 5)) 700).2.2) ∧ sF (lN9 t n sp (z0f Q sp (ρ 37 2) (m 37 5)) 700).1 = x ∧ FL sp m m9) xN KK ρ m [vR 37, vI n, vR sp] := by
  refine gE.ofw cl_X3.2 ?_ rfl rfl (Nat.le_of_ble_eq_true rfl)
  show gT l γ μX3_read 53 0 0 _ _ KK ρ m 0 [some (vR 37), some (vI n), some (vR sp), none, none] []
  refine tz_aload0 (n := 1) (g_at ck_X3_read 0 rfl) rfl (g_ne kd_37) ?_
  refine tz_aload2 (n := 2) (g_at ck_X3_read 1 rfl) rfl (g_ne hS.k0) ?_
  refine tz_putOw (n := 5) (kz := 1) fk_X3_20 kd_37 (g_at ck_X3_read 2 rfl) rfl rfl ?_
  have hL := LY_wr (r := 37) (k := 1) (x := sp) hL (by decide)
  have hS : isS (wr ρ 37 1 sp) sp := isS_of hL hsp
  refine tz_aload0 (n := 6) (g_at ck_X3_read 3 rfl) rfl (g_ne kd_37) ?_
  refine tz_getOv (n := 9) (a := sp) fk_X3_20 kd_37 (by first | exact hLi.ls | exact wr_same) (g_at ck_X3_read 4 rfl) rfl ?_
  refine tz_cvV0 (n := 12) (μ' := μX6_clear) (cb' := 0) (sb' := 0) ml_X3_33 mo_X6_clear mv_X6_clear np_X6_clear hS.k0 (g_at ck_X3_read 5 rfl) (sp_shClear hS hR) rfl rfl rfl ⟨by decide, by decide⟩ (Nat.le_of_ble_eq_true rfl) (by decide) (by decide) (fun ρ9 m9 hq => ?_)
  obtain ⟨rfl, hR1, rfl⟩ := hq
  refine tz_aload0 (n := 13) (g_at ck_X3_read 6 rfl) rfl (g_ne kd_37) ?_
  refine tz_iconst (n := 14) (g_at ck_X3_read 7 rfl) rfl ?_
  refine tz_putIr (n := 17) (kz := 3) fk_X3_36 kd_37 (g_at ck_X3_read 8 rfl) rfl hR1 ⟨(by decide), (by decide)⟩ rfl (fun hR2 => ?_)
  refine tz_aload0 (n := 18) (g_at ck_X3_read 9 rfl) rfl (g_ne kd_37) ?_
  refine tz_iconst (n := 19) (g_at ck_X3_read 10 rfl) rfl ?_
  refine tz_putIr (n := 22) (kz := 4) fk_X3_40 kd_37 (g_at ck_X3_read 11 rfl) rfl hR2 ⟨(by decide), (by decide)⟩ rfl (fun hR3 => ?_)
  refine tz_aload0 (n := 23) (g_at ck_X3_read 12 rfl) rfl (g_ne kd_37) ?_
  refine tz_getOv (n := 26) (a := 38) fk_X3_14 kd_37 (ly_37_0 (by first | exact hL1 | exact hL)) (g_at ck_X3_read 13 rfl) rfl ?_
  refine tz_iload1 (n := 27) (g_at ck_X3_read 14 rfl) rfl ?_
  refine tz_cvV1 (n := 30) (μ' := μX7_open) (cb' := 0) (sb' := 0) ml_X3_43 mo_X7_open mv_X7_open np_X7_open kd_38 (g_at ck_X3_read 15 rfl) (sp_open hL hR3 hB hn (fun j h1 h2 => by rw [wr_ne (by decide), wr_ne (by decide), shclr_ne (by omega) (by omega) (by omega) (by omega) (by omega)]; exact hT j h1 h2)) rfl rfl rfl ⟨by decide, by decide⟩ (Nat.le_of_ble_eq_true rfl) (by decide) (by decide) (fun ρ9 m27 hq => ?_)
  obtain ⟨rfl, hR4, hF27, hC27⟩ := hq
  have hL0 := LR_0 (ρ := ρ) (Q := Q) hsp hu hR4 hn.1 hQ hF27 hC27
  refine tz_iconst (n := 31) (g_at ck_X3_read 16 rfl) rfl ?_
  refine tz_istore3 (n := 32) (g_at ck_X3_read 17 rfl) rfl (by decide) g_hpR ?_
  refine tz_iconst (n := 33) (g_at ck_X3_read 18 rfl) rfl ?_
  refine tz_istore4 (n := 35) (g_at ck_X3_read 19 rfl) rfl (by decide) g_hpI ?_
  refine g_for (fun i : Nat => ∀ ρ1 m1 : Mm, (q37 (wr ρ 37 1 sp) ρ1 ∧ (∃ ui, LR ρ1 m1 t n sp ui (lN9 t n sp (z0f Q sp (ρ 37 2) (m 37 5)) i).1 (lN9 t n sp (z0f Q sp (ρ 37 2) (m 37 5)) i).2.1 (lN9 t n sp (z0f Q sp (ρ 37 2) (m 37 5)) i).2.2) ∧ FL sp m m1) → gT l γ μX3_read 53 0 0 _ _ KK ρ1 m1 35 [some (vR 37), some (vI n), some (vR sp), some (vI (lN9 t n sp (z0f Q sp (ρ 37 2) (m 37 5)) i).1.1), some (vI (i : Int))] []) 700 ?_ (fun i hi ihi => ?_) 0 (Nat.zero_le _) _ _ ⟨q37.rf, ⟨_, hL0⟩, FL_0 hF27⟩
  · intro ρ1 m1 hinv
    obtain ⟨hqi, ⟨ui, hLi⟩, hFi⟩ := hinv
    have hRi := hLi.d.r
    have hL1 := hL.q37 hqi
    refine tz_iload4 (n := 37) (g_at ck_X3_read 20 rfl) rfl ?_
    refine tz_sipush (n := 40) (g_at ck_X3_read 21 rfl) rfl rfl ?_
    refine tz_icmp_ge (n := 43) (tgt := 68) (g_at ck_X3_read 22 rfl) rfl rfl ⟨(by omega), (by omega), (by decide), (by decide)⟩ (fun h40 => ?_) (fun h40 => absurd h40 (by omega))
    refine tz_aload0 (n := 69) (g_at ck_X3_read 34 rfl) rfl (g_ne kd_37) ?_
    refine tz_getIw (n := 72) (kz := 4) fk_X3_40 kd_37 (g_at ck_X3_read 35 rfl) rfl rfl ?_
    rw [hLi.d.f]
    exact tz_iret (g_at ck_X3_read 36 rfl) rfl (rI_mk ⟨hqi, hRi, ⟨ui, hLi⟩, rfl, hFi⟩)
  · intro ρ1 m1 hinv
    obtain ⟨hqi, ⟨ui, hLi⟩, hFi⟩ := hinv
    have hRi := hLi.d.r
    have hL1 := hL.q37 hqi
    have hoi := hLi.d.o
    have hki := (tk_rg (n := n) hB hLi.d.p).2.2.1
    refine tz_iload4 (n := 37) (g_at ck_X3_read 20 rfl) rfl ?_
    refine tz_sipush (n := 40) (g_at ck_X3_read 21 rfl) rfl rfl ?_
    refine tz_icmp_ge (n := 43) (tgt := 68) (g_at ck_X3_read 22 rfl) rfl rfl ⟨(by omega), (by omega), (by decide), (by decide)⟩ (fun h40 => absurd h40 (by omega)) (fun h40 => ?_)
    refine tz_iload3 (n := 44) (g_at ck_X3_read 23 rfl) rfl ?_
    refine tz_if_eq (n := 47) (tgt := 68) (g_at ck_X3_read 24 rfl) rfl rfl (by omega) (fun h44 => ?_) (fun h44 => ?_)
    · skip
      refine tz_aload0 (n := 69) (g_at ck_X3_read 34 rfl) rfl (g_ne kd_37) ?_
      refine tz_getIw (n := 72) (kz := 4) fk_X3_40 kd_37 (g_at ck_X3_read 35 rfl) rfl rfl ?_
      rw [hLi.d.f]
      exact tz_iret (g_at ck_X3_read 36 rfl) rfl (rI_mk (by have es : lN9 t n sp (z0f Q sp (ρ 37 2) (m 37 5)) 700 = (lN9 t n sp (z0f Q sp (ρ 37 2) (m 37 5)) i) := lN9_stay (if_neg (fun h9 => absurd h9.1 (by omega))) 700 (by omega); rw [es]; exact ⟨hqi, hRi, ⟨ui, hLi⟩, rfl, hFi⟩))
    · skip
      refine tz_aload0 (n := 48) (g_at ck_X3_read 25 rfl) rfl (g_ne kd_37) ?_
      refine tz_getOv (n := 51) (a := 38) fk_X3_14 kd_37 (ly_37_0 (by first | exact hL1 | exact hL)) (g_at ck_X3_read 26 rfl) rfl ?_
      refine tz_getIw (n := 54) (kz := 3) fk_X3_47 kd_38 (g_at ck_X3_read 27 rfl) rfl rfl ?_
      rw [hLi.d.tk.k]
      refine tz_if_eq (n := 57) (tgt := 68) (g_at ck_X3_read 28 rfl) rfl rfl (by omega) (fun h54 => ?_) (fun h54 => ?_)
      · skip
        refine tz_aload0 (n := 69) (g_at ck_X3_read 34 rfl) rfl (g_ne kd_37) ?_
        refine tz_getIw (n := 72) (kz := 4) fk_X3_40 kd_37 (g_at ck_X3_read 35 rfl) rfl rfl ?_
        rw [hLi.d.f]
        exact tz_iret (g_at ck_X3_read 36 rfl) rfl (rI_mk (by have es : lN9 t n sp (z0f Q sp (ρ 37 2) (m 37 5)) 700 = (lN9 t n sp (z0f Q sp (ρ 37 2) (m 37 5)) i) := lN9_stay (if_neg (fun h9 => h9.2 h54)) 700 (by omega); rw [es]; exact ⟨hqi, hRi, ⟨ui, hLi⟩, rfl, hFi⟩))
      · skip
        refine tz_aload0 (n := 58) (g_at ck_X3_read 29 rfl) rfl (g_ne kd_37) ?_
        refine tz_cvI0 (n := 61) (μ' := μX3_readLine) (cb' := 0) (sb' := 0) ml_X3_50 mo_X3_readLine mv_X3_readLine np_X3_readLine kd_37 (g_at ck_X3_read 30 rfl) (sp_readLine hL1 hB hn hLi (by omega)) rfl rfl rfl ⟨by decide, by decide⟩ (Nat.le_of_ble_eq_true rfl) (by decide) (by decide) (fun x58 ρ9 m58 hq => ?_)
        obtain ⟨hq58, hR5, ⟨u58, hL58⟩, rfl, hF58⟩ := hq
        refine tz_istore3 (n := 62) (g_at ck_X3_read 31 rfl) rfl (by decide) g_hpR ?_
        refine tz_iinc4 (n := 65) (g_at ck_X3_read 32 rfl) rfl (by decide) g_hpI ?_
        refine tz_goto (tgt := 35) (g_at ck_X3_read 33 rfl) rfl ?_
        have e9 : lN9 t n sp (z0f Q sp (ρ 37 2) (m 37 5)) (i + 1) = ln9 t n sp (lN9 t n sp (z0f Q sp (ρ 37 2) (m 37 5)) i) := (show lS9 t n sp (lN9 t n sp (z0f Q sp (ρ 37 2) (m 37 5)) i) = _ from if_pos ⟨(by omega), h54⟩)
        exact gT_eq (ihi _ _ ⟨hqi.tr hq58, ⟨u58, by rw [e9]; exact hL58⟩, hFi.tr hF58⟩) rfl (by rw [e9]; rfl)
