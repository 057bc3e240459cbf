/-! Lines: people, arms. -/
noncomputable def rP9 (t : Int → Int) (n : Int) (s : PS) (ν : Mm) : PS × Mm :=
  if 8 ≤ ν 0 1 then (fl9 t n 2 s, ν)
  else if (td9 t n (ν 0 0) (nx9 t n s)).1 = 1 then
    if (td9 t n (ν 0 0) (nx9 t n (nx9 t n s))).1 = 1 then
      if (nt9 t n 99 (nx9 t n (nx9 t n (nx9 t n s)))).1 = 1 then (nx9 t n (nx9 t n (nx9 t n (nx9 t n s))), wr (wr (wr (wr ν 6 (1 + ν 0 1) (tV t n (sP (nx9 t n s)))) 5 (ν 0 1) (tV t n (sP (nx9 t n (nx9 t n s))))) 6 (9 + ν 0 1) (tV t n (sP (nx9 t n (nx9 t n (nx9 t n s)))))) 0 1 (ν 0 1 + 1))
      else (nt9 t n 99 (nx9 t n (nx9 t n (nx9 t n s))), ν)
    else (td9 t n (ν 0 0) (nx9 t n (nx9 t n s)), ν)
  else (td9 t n (ν 0 0) (nx9 t n s), ν)
theorem NL.person {m m9 ν : Mm} {sp a b c : Int} (h : NL m sp ν) (h8 : 0 ≤ ν 0 1 ∧ ν 0 1 < 8) (h0 : m9 sp 1 = ν 0 1 + 1) (h0' : m9 sp 0 = m sp 0) (h37 : m9 37 3 = m 37 3) (h5 : m9 (sp + 5) = up (m (sp + 5)) (ν 0 1) b) (hw : m9 (sp + 13) = up (m (sp + 13)) (ν 0 1) a) (hp : m9 (sp + 14) = up (m (sp + 14)) (ν 0 1) c) (k : ∀ d, d = sp + 1 ∨ d = sp + 2 ∨ d = sp + 3 ∨ d = sp + 4 ∨ d = sp + 12 ∨ d = sp + 15 ∨ d = sp + 16 → m9 d = m d) : NL m9 sp (wr (wr (wr (wr ν 6 (1 + ν 0 1) a) 5 (ν 0 1) b) 6 (9 + ν 0 1) c) 0 1 (ν 0 1 + 1)) := by
  obtain ⟨g1, g2, g3, g4, g5, g6⟩ := h
  generalize hν : wr (wr (wr (wr ν 6 (1 + ν 0 1) a) 5 (ν 0 1) b) 6 (9 + ν 0 1) c) 0 1 (ν 0 1 + 1) = N
  have e00 : N 0 0 = ν 0 0 := by rw [← hν, wr_at, if_neg (by decide), wr_ne (by decide), wr_ne (by decide), wr_ne (by decide)]
  have e01 : N 0 1 = ν 0 1 + 1 := by rw [← hν, wr_same]
  have e02 : N 0 2 = ν 0 2 := by rw [← hν, wr_at, if_neg (by decide), wr_ne (by decide), wr_ne (by decide), wr_ne (by decide)]
  have e1 : N 1 = ν 1 := by rw [← hν, wr_ne (by decide), wr_ne (by decide), wr_ne (by decide), wr_ne (by decide)]
  have e2 : N 2 = ν 2 := by rw [← hν, wr_ne (by decide), wr_ne (by decide), wr_ne (by decide), wr_ne (by decide)]
  have e3 : N 3 = ν 3 := by rw [← hν, wr_ne (by decide), wr_ne (by decide), wr_ne (by decide), wr_ne (by decide)]
  have e4 : N 4 = ν 4 := by rw [← hν, wr_ne (by decide), wr_ne (by decide), wr_ne (by decide), wr_ne (by decide)]
  have e5 : N 5 = up (ν 5) (ν 0 1) b := funext fun j => by rw [← hν, wr_ne (by decide), wr_ne (by decide), wr_at, wr_ne (by decide)]; rfl
  have e6 : ∀ j, N 6 j = if j = 9 + ν 0 1 then c else if j = 1 + ν 0 1 then a else ν 6 j := fun j => by rw [← hν, wr_ne (by decide), wr_at, wr_ne (by decide), wr_at]
  unfold NL
  rw [e00, e01, e02, e1, e2, e3, e4, e5]
  refine ⟨⟨by rw [h0']; exact g1.1, h0, by rw [h37]; exact g1.2.2⟩, ?_, ?_, ?_, ?_, ?_⟩
  · rw [k (sp + 1) (by omega), k (sp + 2) (by omega)]; exact g2
  · rw [k (sp + 3) (by omega)]; exact g3
  · rw [k (sp + 4) (by omega)]; exact g4
  · intro p q1 q2
    rw [h5]
    unfold up
    split
    · rfl
    · exact g5 p q1 (by omega)
  · refine ⟨by rw [k (sp + 12) (by omega), e6, if_neg (by omega), if_neg (by omega)]; exact g6.1, fun p q1 q2 => ?_, fun d q1 q2 => ?_⟩
    · have g := g6.2.1 p q1 q2
      rw [show sp + 12 + 1 = sp + 13 by omega, show sp + 12 + 2 = sp + 14 by omega] at g ⊢
      rw [hw, hp, e6, e6]
      unfold up
      by_cases e : p = ν 0 1
      · subst e
        rw [if_pos rfl, if_pos rfl, if_neg (by omega), if_pos rfl, if_pos rfl]
        exact ⟨rfl, rfl⟩
      · rw [if_neg e, if_neg e, if_neg (by omega), if_neg (by omega), if_neg (by omega), if_neg (by omega)]
        exact g
    · have g := g6.2.2 d q1 q2
      rw [show sp + 12 + 3 = sp + 15 by omega, show sp + 12 + 4 = sp + 16 by omega] at g ⊢
      rw [k (sp + 15) (by omega), k (sp + 16) (by omega), e6, e6, if_neg (by omega), if_neg (by omega), if_neg (by omega), if_neg (by omega)]
      exact g
theorem WN.person {ν : Mm} {a b c : Int} (h : WN ν) (h8 : 0 ≤ ν 0 1 ∧ ν 0 1 < 8) (ha : 0 ≤ a ∧ a < ν 0 0) (hb : 0 ≤ b ∧ b < ν 0 0) (hc : 0 ≤ c ∧ c ≤ 99) : WN (wr (wr (wr (wr ν 6 (1 + ν 0 1) a) 5 (ν 0 1) b) 6 (9 + ν 0 1) c) 0 1 (ν 0 1 + 1)) := by
  obtain ⟨g1, g2, g3, g4, g5, g6, g7, g8, g9, g10⟩ := h
  generalize hν : wr (wr (wr (wr ν 6 (1 + ν 0 1) a) 5 (ν 0 1) b) 6 (9 + ν 0 1) c) 0 1 (ν 0 1 + 1) = N
  have e00 : N 0 0 = ν 0 0 := by rw [← hν, wr_at, if_neg (by decide), wr_ne (by decide), wr_ne (by decide), wr_ne (by decide)]
  have e01 : N 0 1 = ν 0 1 + 1 := by rw [← hν, wr_same]
  have e02 : N 0 2 = ν 0 2 := by rw [← hν, wr_at, if_neg (by decide), wr_ne (by decide), wr_ne (by decide), wr_ne (by decide)]
  have e1 : N 1 = ν 1 := by rw [← hν, wr_ne (by decide), wr_ne (by decide), wr_ne (by decide), wr_ne (by decide)]
  have e2 : N 2 = ν 2 := by rw [← hν, wr_ne (by decide), wr_ne (by decide), wr_ne (by decide), wr_ne (by decide)]
  have e3 : N 3 = ν 3 := by rw [← hν, wr_ne (by decide), wr_ne (by decide), wr_ne (by decide), wr_ne (by decide)]
  have e4 : N 4 = ν 4 := by rw [← hν, wr_ne (by decide), wr_ne (by decide), wr_ne (by decide), wr_ne (by decide)]
  have e5 : N 5 = up (ν 5) (ν 0 1) b := funext fun j => by rw [← hν, wr_ne (by decide), wr_ne (by decide), wr_at, wr_ne (by decide)]; rfl
  have e6 : ∀ j, N 6 j = if j = 9 + ν 0 1 then c else if j = 1 + ν 0 1 then a else ν 6 j := fun j => by rw [← hν, wr_ne (by decide), wr_at, wr_ne (by decide), wr_at]
  unfold WN
  rw [e00, e01, e02, e1, e2, e3, e4, e5]
  refine ⟨g1, by omega, g3, g4, g5, g6, g7, fun p q1 q2 => ?_, fun d q1 q2 => ?_, ?_⟩
  · rw [e6, e6]
    unfold up
    by_cases e : p = ν 0 1
    · subst e
      rw [if_pos rfl, if_neg (by omega), if_pos rfl, if_pos rfl]
      exact ⟨hb, ha, hc⟩
    · rw [if_neg e, if_neg (by omega), if_neg (by omega), if_neg (by omega), if_neg (by omega)]
      exact g8 p q1 (by omega)
  · rw [e6, e6, if_neg (by omega), if_neg (by omega), if_neg (by omega), if_neg (by omega)]
    exact g9 d q1 q2
  · rw [e6, if_neg (by omega), if_neg (by omega)]
    exact g10
noncomputable def rA9 (t : Int → Int) (n : Int) (s : PS) (ν : Mm) : PS × Mm :=
  if (td9 t n (ν 0 0) (nx9 t n s)).1 = 1 then
    if bAnd (bShr (ν 0 2) (tV t n (sP (nx9 t n s)))) 1 = 1 then (fl9 t n 5 (nx9 t n s), ν)
    else if (td9 t n (ν 3 (tV t n (sP (nx9 t n s)))) (nx9 t n (nx9 t n s))).1 = 1 then
      (nx9 t n (nx9 t n (nx9 t n s)), wr (wr ν 0 2 (bOr (ν 0 2) (bShl 1 (tV t n (sP (nx9 t n s)))))) 6 (17 + tV t n (sP (nx9 t n s))) (tV t n (sP (nx9 t n (nx9 t n s)))))
    else (td9 t n (ν 3 (tV t n (sP (nx9 t n s)))) (nx9 t n (nx9 t n s)), ν)
  else (td9 t n (ν 0 0) (nx9 t n s), ν)
theorem NL.arm {m m9 ν : Mm} {sp a b x : Int} (h : NL m sp ν) (ha : 0 ≤ a ∧ a < 9) (h37 : m9 37 3 = x) (hw : m9 (sp + 15) = up (m (sp + 15)) a b) (k : ∀ d, (sp ≤ d ∧ d ≤ sp + 5) ∨ d = sp + 12 ∨ d = sp + 13 ∨ d = sp + 14 ∨ d = sp + 16 → m9 d = m d) : NL m9 sp (wr (wr ν 0 2 x) 6 (17 + a) b) := by
  obtain ⟨g1, g2, g3, g4, g5, g6⟩ := h
  generalize hν : wr (wr ν 0 2 x) 6 (17 + a) b = N
  have e00 : N 0 0 = ν 0 0 := by rw [← hν, wr_ne (by decide), wr_at, if_neg (by decide)]
  have e01 : N 0 1 = ν 0 1 := by rw [← hν, wr_ne (by decide), wr_at, if_neg (by decide)]
  have e02 : N 0 2 = x := by rw [← hν, wr_ne (by decide), wr_same]
  have e1 : N 1 = ν 1 := by rw [← hν, wr_ne (by decide), wr_ne (by decide)]
  have e2 : N 2 = ν 2 := by rw [← hν, wr_ne (by decide), wr_ne (by decide)]
  have e3 : N 3 = ν 3 := by rw [← hν, wr_ne (by decide), wr_ne (by decide)]
  have e4 : N 4 = ν 4 := by rw [← hν, wr_ne (by decide), wr_ne (by decide)]
  have e5 : N 5 = ν 5 := by rw [← hν, wr_ne (by decide), wr_ne (by decide)]
  have e6 : ∀ j, N 6 j = if j = 17 + a then b else ν 6 j := fun j => by rw [← hν, wr_at, wr_ne (by decide)]
  unfold NL
  rw [e00, e01, e02, e1, e2, e3, e4, e5]
  refine ⟨⟨by rw [k sp (by omega)]; exact g1.1, by rw [k sp (by omega)]; exact g1.2.1, h37⟩, ?_, ?_, ?_, ?_, ?_⟩
  · rw [k (sp + 1) (by omega), k (sp + 2) (by omega)]; exact g2
  · rw [k (sp + 3) (by omega)]; exact g3
  · rw [k (sp + 4) (by omega)]; exact g4
  · rw [k (sp + 5) (by omega)]; exact g5
  · refine ⟨by rw [k (sp + 12) (by omega), e6, if_neg (by omega)]; exact g6.1, fun p q1 q2 => ?_, fun d q1 q2 => ?_⟩
    · have g := g6.2.1 p q1 q2
      rw [show sp + 12 + 1 = sp + 13 by omega, show sp + 12 + 2 = sp + 14 by omega] at g ⊢
      rw [k (sp + 13) (by omega), k (sp + 14) (by omega), e6, e6, if_neg (by omega), if_neg (by omega)]
      exact g
    · have g := g6.2.2 d q1 q2
      rw [show sp + 12 + 3 = sp + 15 by omega, show sp + 12 + 4 = sp + 16 by omega] at g ⊢
      rw [hw, k (sp + 16) (by omega), e6, e6, if_neg (show ¬ 26 + d = 17 + a by omega)]
      unfold up
      by_cases e : d = a
      · subst e
        rw [if_pos rfl, if_pos rfl]
        exact ⟨rfl, g.2⟩
      · rw [if_neg e, if_neg (by omega)]
        exact g
theorem WN.arm {ν : Mm} {a b x : Int} (h : WN ν) (ha : 0 ≤ a ∧ a < 9) (hb : 0 ≤ b ∧ b < ν 3 a) (hx : 0 ≤ x ∧ x < 512) : WN (wr (wr ν 0 2 x) 6 (17 + a) b) := by
  obtain ⟨g1, g2, g3, g4, g5, g6, g7, g8, g9, g10⟩ := h
  generalize hν : wr (wr ν 0 2 x) 6 (17 + a) b = N
  have e00 : N 0 0 = ν 0 0 := by rw [← hν, wr_ne (by decide), wr_at, if_neg (by decide)]
  have e01 : N 0 1 = ν 0 1 := by rw [← hν, wr_ne (by decide), wr_at, if_neg (by decide)]
  have e02 : N 0 2 = x := by rw [← hν, wr_ne (by decide), wr_same]
  have e1 : N 1 = ν 1 := by rw [← hν, wr_ne (by decide), wr_ne (by decide)]
  have e2 : N 2 = ν 2 := by rw [← hν, wr_ne (by decide), wr_ne (by decide)]
  have e3 : N 3 = ν 3 := by rw [← hν, wr_ne (by decide), wr_ne (by decide)]
  have e4 : N 4 = ν 4 := by rw [← hν, wr_ne (by decide), wr_ne (by decide)]
  have e5 : N 5 = ν 5 := by rw [← hν, wr_ne (by decide), wr_ne (by decide)]
  have e6 : ∀ j, N 6 j = if j = 17 + a then b else ν 6 j := fun j => by rw [← hν, wr_at, wr_ne (by decide)]
  unfold WN
  rw [e00, e01, e02, e1, e2, e3, e4, e5]
  refine ⟨g1, g2, hx, g4, g5, g6, g7, fun p q1 q2 => ?_, fun d q1 q2 => ?_, ?_⟩
  · rw [e6, e6, if_neg (by omega), if_neg (by omega)]
    exact g8 p q1 q2
  · have := g9 d q1 q2
    rw [e6, e6, if_neg (show ¬ 26 + d = 17 + a by omega)]
    split
    · rename_i e
      have e9 : d = a := by omega
      subst e9
      exact ⟨hb.1, fun _ => hb.2, this.2.2⟩
    · exact this
  · rw [e6, if_neg (by omega)]
    exact g10
theorem sp_readPerson {l : Launch} {γ : Gh} {ρ m : Mm} {t : Int → Int} {n sp u : Int} {s : PS} {ν : Mm} {Q : Int → List Int} (hL : LY ρ) (hB : BY t) (hn : 0 ≤ n ∧ n ≤ 700) (hLR : LR ρ m t n sp u s ν Q) (h1 : s.1 = 1) : gE l γ μX3_readPerson 8 0 0 (rI KK fun x ρ9 m9 => ρ = ρ9 ∧ MR m9 ∧ LR ρ9 m9 t n sp u (rP9 t n s ν).1 (rP9 t n s ν).2 Q ∧ (rP9 t n s ν).1.1 = x ∧ FL sp m m9) xN KK ρ m [vR 37] := by
  refine gE.ofw cl_X3.2 ?_ rfl rfl (Nat.le_of_ble_eq_true rfl)
  show gT l γ μX3_readPerson 8 0 0 _ _ KK ρ m 0 [some (vR 37), none, none] []
  have hD := hLR.d
  have hR := hD.r
  have hsp := hLR.s3
  have hp := hD.p
  have hr9 := tk_rg (n := n) hB hp
  have hW := hLR.w
  have hw0 := hW.1
  have hw1 := hW.2.1
  have hw2 := hW.2.2.1
  have hN := hLR.nl
  have hn0 := hN.1
  have hu4 := hD.u4
  unfold isR4 at hu4
  refine tz_aload0 (n := 1) (g_at ck_X3_readPerson 0 rfl) rfl (g_ne kd_37) ?_
  refine tz_getOv (n := 4) (a := sp) fk_X3_20 kd_37 hLR.ls (g_at ck_X3_readPerson 1 rfl) rfl ?_
  refine tz_getIw (n := 7) (kz := 1) fk_X3_140 (isS_of hL hLR.s3).k0 (g_at ck_X3_readPerson 2 rfl) rfl rfl ?_
  rw [hn0.2.1]
  refine tz_bipush (n := 9) (g_at ck_X3_readPerson 3 rfl) rfl rfl ?_
  refine tz_icmp_lt (n := 12) (tgt := 18) (g_at ck_X3_readPerson 4 rfl) rfl rfl ⟨by omega, by omega, by decide, by decide⟩ (fun h9 => ?_) (fun h9 => ?_)
  · skip
    refine tz_aload0 (n := 19) (g_at ck_X3_readPerson 9 rfl) rfl (g_ne kd_37) ?_
    refine tz_getOv (n := 22) (a := 38) fk_X3_14 kd_37 (ly_37_0 hL) (g_at ck_X3_readPerson 10 rfl) rfl ?_
    refine tz_cvV0 (n := 25) (μ' := μX7_advance) (cb' := 0) (sb' := 0) ml_X3_101 mo_X7_advance mv_X7_advance np_X7_advance kd_38 (g_at ck_X3_readPerson 11 rfl) (sp_advance hL hR hB hn (show 0 ≤ tQ t n (sP s) ∧ tQ t n (sP s) ≤ n by have := tk_rg (n := n) hB hLR.d.p; have := hLR.d.p; omega) hLR.d.tk.1 hLR.d.tk.2.1 hLR.d.tk.q) rfl rfl rfl ⟨by decide, by decide⟩ (Nat.le_of_ble_eq_true rfl) (by decide) (by decide) (fun ρ9 m22 hq => ?_)
    obtain ⟨rfl, hR1, hF22, hC22⟩ := hq
    have hLR22 : LR ρ m22 t n sp u (nx9 t n s) ν Q := hLR.st (hLR.d.nx hB hR1 hF22 hC22) (FE.tok hF22) rfl
    have hF22 : FL sp m m22 := FL.fe hD.u4 (FE.tok (u := u) hF22)
    refine tz_aload0 (n := 26) (g_at ck_X3_readPerson 12 rfl) rfl (g_ne kd_37) ?_
    refine tz_aload0 (n := 27) (g_at ck_X3_readPerson 13 rfl) rfl (g_ne kd_37) ?_
    refine tz_getOv (n := 30) (a := sp) fk_X3_20 kd_37 hLR.ls (g_at ck_X3_readPerson 14 rfl) rfl ?_
    refine tz_getIw (n := 33) (kz := 0) fk_X3_113 (isS_of hL hLR.s3).k0 (g_at ck_X3_readPerson 15 rfl) rfl rfl ?_
    rw [hLR22.nl.1.1]
    refine tz_cvI1 (n := 36) (μ' := μX3_isTold) (cb' := 0) (sb' := 0) ml_X3_130 mo_X3_isTold mv_X3_isTold np_X3_isTold kd_37 (g_at ck_X3_readPerson 16 rfl) (sq_isTold hL hB hn hLR22.d h1 (by omega)) rfl rfl rfl ⟨by decide, by decide⟩ (Nat.le_of_ble_eq_true rfl) (by decide) (by decide) (fun x33 ρ9 m33 hq => ?_)
    obtain ⟨rfl, hR2, hD33, hx33, hF33⟩ := hq
    have hLR33 : LR ρ m33 t n sp u (td9 t n (ν 0 0) (nx9 t n s)) ν Q := hLR22.st hD33 hF33 td9_l
    have ho33 := hD33.o
    have hF33 : FL sp m22 m33 := FL.fe hD.u4 hF33
    refine tz_if_ne (n := 39) (tgt := 41) (g_at ck_X3_readPerson 17 rfl) rfl rfl (by omega) (fun h36 => ?_) (fun h36 => ?_)
    · skip
      have hok33 := td9_1 (t := t) (n := n) (k := (ν 0 0)) (s := (nx9 t n s)) (by omega)
      have hLS33 : LR ρ m33 t n sp u (nx9 t n s) ν Q := by have h8 := hLR33; rw [hok33.1] at h8; exact h8
      refine tz_aload0 (n := 42) (g_at ck_X3_readPerson 20 rfl) rfl (g_ne kd_37) ?_
      refine tz_cvI0 (n := 45) (μ' := μX3_take) (cb' := 0) (sb' := 0) ml_X3_119 mo_X3_take mv_X3_take np_X3_take kd_37 (g_at ck_X3_readPerson 21 rfl) (sp_take hL hB hn hLS33.d hok33.2.1) rfl rfl rfl ⟨by decide, by decide⟩ (Nat.le_of_ble_eq_true rfl) (by decide) (by decide) (fun x42 ρ9 m42 hq => ?_)
      obtain ⟨rfl, hR3, hD42, rfl, hF42⟩ := hq
      have hLR42 : LR ρ m42 t n sp u (nx9 t n (nx9 t n s)) ν Q := hLS33.st hD42 hF42 rfl
      have hG42 := hF42
      have hF42 : FL sp m33 m42 := FL.fe hD.u4 hF42
      refine tz_istore1 (n := 46) (g_at ck_X3_readPerson 22 rfl) rfl (by decide) g_hpR ?_
      refine tz_aload0 (n := 47) (g_at ck_X3_readPerson 23 rfl) rfl (g_ne kd_37) ?_
      refine tz_aload0 (n := 48) (g_at ck_X3_readPerson 24 rfl) rfl (g_ne kd_37) ?_
      refine tz_getOv (n := 51) (a := sp) fk_X3_20 kd_37 hLR.ls (g_at ck_X3_readPerson 25 rfl) rfl ?_
      refine tz_getIw (n := 54) (kz := 0) fk_X3_113 (isS_of hL hLR.s3).k0 (g_at ck_X3_readPerson 26 rfl) rfl rfl ?_
      rw [hLR42.nl.1.1]
      refine tz_cvI1 (n := 57) (μ' := μX3_isTold) (cb' := 0) (sb' := 0) ml_X3_130 mo_X3_isTold mv_X3_isTold np_X3_isTold kd_37 (g_at ck_X3_readPerson 27 rfl) (sq_isTold hL hB hn hLR42.d h1 (by omega)) rfl rfl rfl ⟨by decide, by decide⟩ (Nat.le_of_ble_eq_true rfl) (by decide) (by decide) (fun x54 ρ9 m54 hq => ?_)
      obtain ⟨rfl, hR4, hD54, hx54, hF54⟩ := hq
      have hLR54 : LR ρ m54 t n sp u (td9 t n (ν 0 0) (nx9 t n (nx9 t n s))) ν Q := hLR42.st hD54 hF54 td9_l
      have ho54 := hD54.o
      have hF54 : FL sp m42 m54 := FL.fe hD.u4 hF54
      refine tz_if_ne (n := 60) (tgt := 62) (g_at ck_X3_readPerson 28 rfl) rfl rfl (by omega) (fun h57 => ?_) (fun h57 => ?_)
      · skip
        have hok54 := td9_1 (t := t) (n := n) (k := (ν 0 0)) (s := (nx9 t n (nx9 t n s))) (by omega)
        have hLS54 : LR ρ m54 t n sp u (nx9 t n (nx9 t n s)) ν Q := by have h8 := hLR54; rw [hok54.1] at h8; exact h8
        refine tz_aload0 (n := 63) (g_at ck_X3_readPerson 31 rfl) rfl (g_ne kd_37) ?_
        refine tz_cvI0 (n := 66) (μ' := μX3_take) (cb' := 0) (sb' := 0) ml_X3_119 mo_X3_take mv_X3_take np_X3_take kd_37 (g_at ck_X3_readPerson 32 rfl) (sp_take hL hB hn hLS54.d hok54.2.1) rfl rfl rfl ⟨by decide, by decide⟩ (Nat.le_of_ble_eq_true rfl) (by decide) (by decide) (fun x63 ρ9 m63 hq => ?_)
        obtain ⟨rfl, hR5, hD63, rfl, hF63⟩ := hq
        have hLR63 : LR ρ m63 t n sp u (nx9 t n (nx9 t n (nx9 t n s))) ν Q := hLS54.st hD63 hF63 rfl
        have hG63 := hF63
        have hF63 : FL sp m54 m63 := FL.fe hD.u4 hF63
        refine tz_istore2 (n := 67) (g_at ck_X3_readPerson 33 rfl) rfl (by decide) g_hpI ?_
        refine tz_aload0 (n := 68) (g_at ck_X3_readPerson 34 rfl) rfl (g_ne kd_37) ?_
        refine tz_bipush (n := 70) (g_at ck_X3_readPerson 35 rfl) rfl rfl ?_
        refine tz_cvI1 (n := 73) (μ' := μX3_isNumberTo) (cb' := 0) (sb' := 0) ml_X3_116 mo_X3_isNumberTo mv_X3_isNumberTo np_X3_isNumberTo kd_37 (g_at ck_X3_readPerson 36 rfl) (sq_isNumberTo hL hB hn hLR63.d h1 (by omega)) rfl rfl rfl ⟨by decide, by decide⟩ (Nat.le_of_ble_eq_true rfl) (by decide) (by decide) (fun x70 ρ9 m70 hq => ?_)
        obtain ⟨rfl, hR6, hD70, hx70, hF70⟩ := hq
        have hLR70 : LR ρ m70 t n sp u (nt9 t n 99 (nx9 t n (nx9 t n (nx9 t n s)))) ν Q := hLR63.st hD70 hF70 nt9_l
        have ho70 := hD70.o
        have hF70 : FL sp m63 m70 := FL.fe hD.u4 hF70
        refine tz_if_ne (n := 76) (tgt := 78) (g_at ck_X3_readPerson 37 rfl) rfl rfl (by omega) (fun h73 => ?_) (fun h73 => ?_)
        · skip
          have hok70 := nt9_1 (t := t) (n := n) (k := 99) (s := (nx9 t n (nx9 t n (nx9 t n s)))) (by omega)
          have hLS70 : LR ρ m70 t n sp u (nx9 t n (nx9 t n (nx9 t n s))) ν Q := by have h8 := hLR70; rw [hok70.1] at h8; exact h8
          have hn70 := hLS70.nl
          have h701 := hn70.1.2.1
          refine tz_aload0 (n := 79) (g_at ck_X3_readPerson 40 rfl) rfl (g_ne kd_37) ?_
          refine tz_getOv (n := 82) (a := sp) fk_X3_20 kd_37 hLR.ls (g_at ck_X3_readPerson 41 rfl) rfl ?_
          refine tz_getOv (n := 85) (a := (sp + 12)) fk_X3_143 (isS_of hL hLR.s3).k0 (isS_of hL hLR.s3).r0_9 (g_at ck_X3_readPerson 42 rfl) rfl ?_
          refine tz_getAv (n := 88) (a := ((sp + 12) + 1)) fk_X3_147 (isS_of hL hLR.s3).mom.k0 (isS_of hL hLR.s3).mom.r0_1 (g_at ck_X3_readPerson 43 rfl) rfl ?_
          refine tz_aload0 (n := 89) (g_at ck_X3_readPerson 44 rfl) rfl (g_ne kd_37) ?_
          refine tz_getOv (n := 92) (a := sp) fk_X3_20 kd_37 hLR.ls (g_at ck_X3_readPerson 45 rfl) rfl ?_
          refine tz_getIw (n := 95) (kz := 1) fk_X3_140 (isS_of hL hLR.s3).k0 (g_at ck_X3_readPerson 46 rfl) rfl rfl ?_
          rw [h701]
          refine tz_iload1 (n := 96) (g_at ck_X3_readPerson 47 rfl) rfl ?_
          refine tz_iastr (n := 97) (isS_of hL hLR.s3).mom.k1 (by omega) (g_at ck_X3_readPerson 48 rfl) rfl hR6 (by omega) (fun hR7 => ?_)
          refine tz_aload0 (n := 98) (g_at ck_X3_readPerson 49 rfl) rfl (g_ne kd_37) ?_
          refine tz_getOv (n := 101) (a := sp) fk_X3_20 kd_37 hLR.ls (g_at ck_X3_readPerson 50 rfl) rfl ?_
          refine tz_getAv (n := 104) (a := (sp + 5)) fk_X3_152 (isS_of hL hLR.s3).k0 (isS_of hL hLR.s3).r0_6 (g_at ck_X3_readPerson 51 rfl) rfl ?_
          refine tz_aload0 (n := 105) (g_at ck_X3_readPerson 52 rfl) rfl (g_ne kd_37) ?_
          refine tz_getOv (n := 108) (a := sp) fk_X3_20 kd_37 hLR.ls (g_at ck_X3_readPerson 53 rfl) rfl ?_
          refine tz_getIw (n := 111) (kz := 1) fk_X3_140 (isS_of hL hLR.s3).k0 (g_at ck_X3_readPerson 54 rfl) rfl rfl ?_
          rw [wr_ne (show sp ≠ sp + 12 + 1 by omega), h701]
          refine tz_iload2 (n := 112) (g_at ck_X3_readPerson 55 rfl) rfl ?_
          refine tz_iastr (n := 113) (isS_of hL hLR.s3).k5 (by omega) (g_at ck_X3_readPerson 56 rfl) rfl hR7 (by omega) (fun hR8 => ?_)
          have hD78 : RD ρ (wr (wr m70 (sp + 12 + 1) (ν 0 1) (tV t n (sP (nx9 t n s)))) (sp + 5) (ν 0 1) (tV t n (sP (nx9 t n (nx9 t n s))))) t n u (nx9 t n (nx9 t n (nx9 t n s))) := hLS70.d.fr hR8 (fun a ha => by rw [wr_ne (by omega), wr_ne (by omega)])
          refine tz_aload0 (n := 114) (g_at ck_X3_readPerson 57 rfl) rfl (g_ne kd_37) ?_
          refine tz_getOv (n := 117) (a := sp) fk_X3_20 kd_37 hLR.ls (g_at ck_X3_readPerson 58 rfl) rfl ?_
          refine tz_getOv (n := 120) (a := (sp + 12)) fk_X3_143 (isS_of hL hLR.s3).k0 (isS_of hL hLR.s3).r0_9 (g_at ck_X3_readPerson 59 rfl) rfl ?_
          refine tz_getAv (n := 123) (a := ((sp + 12) + 2)) fk_X3_155 (isS_of hL hLR.s3).mom.k0 (isS_of hL hLR.s3).mom.r0_2 (g_at ck_X3_readPerson 60 rfl) rfl ?_
          refine tz_aload0 (n := 124) (g_at ck_X3_readPerson 61 rfl) rfl (g_ne kd_37) ?_
          refine tz_getOv (n := 127) (a := sp) fk_X3_20 kd_37 hLR.ls (g_at ck_X3_readPerson 62 rfl) rfl ?_
          refine tz_getIw (n := 130) (kz := 1) fk_X3_140 (isS_of hL hLR.s3).k0 (g_at ck_X3_readPerson 63 rfl) rfl rfl ?_
          rw [wr_ne (show sp ≠ sp + 5 by omega), wr_ne (show sp ≠ sp + 12 + 1 by omega), h701]
          refine tz_aload0 (n := 131) (g_at ck_X3_readPerson 64 rfl) rfl (g_ne kd_37) ?_
          refine tz_cvI0 (n := 134) (μ' := μX3_take) (cb' := 0) (sb' := 0) ml_X3_119 mo_X3_take mv_X3_take np_X3_take kd_37 (g_at ck_X3_readPerson 65 rfl) (sp_take hL hB hn hD78 hok70.2.1) rfl rfl rfl ⟨by decide, by decide⟩ (Nat.le_of_ble_eq_true rfl) (by decide) (by decide) (fun x131 ρ9 m131 hq => ?_)
          obtain ⟨rfl, hR9, hD131, rfl, hF131⟩ := hq
          refine tz_iastr (n := 135) (isS_of hL hLR.s3).mom.k2 (by omega) (g_at ck_X3_readPerson 66 rfl) rfl hR9 (by omega) (fun hR10 => ?_)
          refine tz_aload0 (n := 136) (g_at ck_X3_readPerson 67 rfl) rfl (g_ne kd_37) ?_
          refine tz_getOv (n := 139) (a := sp) fk_X3_20 kd_37 hLR.ls (g_at ck_X3_readPerson 68 rfl) rfl ?_
          refine tz_dupR (n := 140) (g_at ck_X3_readPerson 69 rfl) rfl ?_
          refine tz_getIw (n := 143) (kz := 1) fk_X3_140 (isS_of hL hLR.s3).k0 (g_at ck_X3_readPerson 70 rfl) rfl rfl ?_
          have h82 : ∀ a, sp ≤ a → a ≤ sp + 16 → ¬ (a = 9 ∨ a = 10 ∨ a = 12 ∨ a = 13 ∨ a = 26 ∨ a = 27 ∨ a = 29 ∨ a = 30) → m131 a = (wr (wr m70 (sp + 12 + 1) (ν 0 1) (tV t n (sP (nx9 t n s)))) (sp + 5) (ν 0 1) (tV t n (sP (nx9 t n (nx9 t n s))))) a := fun a q1 q2 q3 => hF131.1 a (by omega) (by omega) (by omega) (by omega)
          rw [wr_ne (show sp ≠ sp + 12 + 2 by omega), h82 sp (by omega) (by omega) (by omega), wr_ne (show sp ≠ sp + 5 by omega), wr_ne (show sp ≠ sp + 12 + 1 by omega), h701]
          refine tz_iconst (n := 144) (g_at ck_X3_readPerson 71 rfl) rfl ?_
          refine tz_iadd (n := 145) (g_at ck_X3_readPerson 72 rfl) rfl ?_
          refine tz_putIr (n := 148) (kz := 1) fk_X3_140 (isS_of hL hLR.s3).k0 (g_at ck_X3_readPerson 73 rfl) rfl hR10 (by omega) rfl (fun hR11 => ?_)
          refine tz_iconst (n := 149) (g_at ck_X3_readPerson 74 rfl) rfl ?_
          exact tz_bret (g_at ck_X3_readPerson 75 rfl) rfl (by decide) (rI_mk ⟨rfl, hR11, by unfold rP9; rw [if_neg (by omega), if_pos (by omega), if_pos (by omega), if_pos (by omega)]; exact ⟨hD131.fr hR11 (fun a ha => by rw [wr_ne (by omega), wr_ne (by omega)]), hLR.ls, hLR.s3, hn70.person (by omega) (by rw [wr_same]) (by rw [wr_at, if_neg (by decide), wr_ne (by omega), h82 sp (by omega) (by omega) (by omega), wr_ne (by omega), wr_ne (by omega)]) (by rw [wr_ne (by omega), wr_ne (by omega), hF131.2 3 (by decide) (by decide), wr_ne (by omega), wr_ne (by omega)]) (by rw [wr_ne (by omega), wr_ne (by omega), h82 _ (by omega) (by omega) (by omega), wr_eq, upA_at, wr_ne (by omega)]) (by rw [show sp + 13 = sp + 12 + 1 by omega, wr_ne (by omega), wr_ne (by omega), h82 _ (by omega) (by omega) (by omega), wr_ne (by omega), wr_eq, upA_at]) (by rw [show sp + 14 = sp + 12 + 2 by omega, wr_ne (by omega), wr_eq, upA_at, h82 _ (by omega) (by omega) (by omega), wr_ne (by omega), wr_ne (by omega)]) (fun c hc => by rw [wr_ne (by omega), wr_ne (by omega), h82 _ (by omega) (by omega) (by omega), wr_ne (by omega), wr_ne (by omega)]), hW.person (by omega) (by omega) (by omega) (by omega), (R4.fr (by have k8 := hLS70.q; have k9 := (k8.fr (m9 := (wr (wr m70 (sp + 12 + 1) (ν 0 1) (tV t n (sP (nx9 t n s)))) (sp + 5) (ν 0 1) (tV t n (sP (nx9 t n (nx9 t n s)))))) (fun a ha => by rw [wr_ne (by omega), wr_ne (by omega)])).fe hD.u4 hF131 hD131.l; rw [upQ_self (show sL (nx9 t n (nx9 t n (nx9 t n (nx9 t n s)))) = Q u from hLR.l)] at k9; exact k9) (fun a ha => by rw [wr_ne (by omega), wr_ne (by omega)])), hLR.l⟩, by unfold rP9; rw [if_neg (by omega), if_pos (by omega), if_pos (by omega), if_pos (by omega)]; exact h1, ((((((((((hF22.tr hF33)).tr hF42).tr hF54).tr hF63).tr hF70).wr (by omega)).wr (by omega)).tr (FL.fe hD.u4 hF131)).wr (by omega)).wr (by omega)⟩)
        · skip
          refine tz_iconst (n := 77) (g_at ck_X3_readPerson 38 rfl) rfl ?_
          exact tz_bret (g_at ck_X3_readPerson 39 rfl) rfl (by decide) (rI_mk ⟨rfl, hR6, by unfold rP9; rw [if_neg (by omega), if_pos (by omega), if_pos (by omega), if_neg (by omega)]; exact hLR70, by unfold rP9; rw [if_neg (by omega), if_pos (by omega), if_pos (by omega), if_neg (by omega)]; exact (show (nt9 t n 99 (nx9 t n (nx9 t n (nx9 t n s)))).1 = 0 by omega), (((((hF22.tr hF33)).tr hF42).tr hF54).tr hF63).tr hF70⟩)
      · skip
        refine tz_iconst (n := 61) (g_at ck_X3_readPerson 29 rfl) rfl ?_
        exact tz_bret (g_at ck_X3_readPerson 30 rfl) rfl (by decide) (rI_mk ⟨rfl, hR4, by unfold rP9; rw [if_neg (by omega), if_pos (by omega), if_neg (by omega)]; exact hLR54, by unfold rP9; rw [if_neg (by omega), if_pos (by omega), if_neg (by omega)]; exact (show (td9 t n (ν 0 0) (nx9 t n (nx9 t n s))).1 = 0 by omega), (((hF22.tr hF33)).tr hF42).tr hF54⟩)
    · skip
      refine tz_iconst (n := 40) (g_at ck_X3_readPerson 18 rfl) rfl ?_
      exact tz_bret (g_at ck_X3_readPerson 19 rfl) rfl (by decide) (rI_mk ⟨rfl, hR2, by unfold rP9; rw [if_neg (by omega), if_neg (by omega)]; exact hLR33, by unfold rP9; rw [if_neg (by omega), if_neg (by omega)]; exact (show (td9 t n (ν 0 0) (nx9 t n s)).1 = 0 by omega), hF22.tr hF33⟩)
  · skip
    refine tz_aload0 (n := 13) (g_at ck_X3_readPerson 5 rfl) rfl (g_ne kd_37) ?_
    refine tz_iconst (n := 14) (g_at ck_X3_readPerson 6 rfl) rfl ?_
    refine tz_cvI1 (n := 17) (μ' := μX3_fail) (cb' := 0) (sb' := 0) ml_X3_93 mo_X3_fail mv_X3_fail np_X3_fail kd_37 (g_at ck_X3_readPerson 7 rfl) (sp_fail hL hB hn hLR.d (by decide)) rfl rfl rfl ⟨by decide, by decide⟩ (Nat.le_of_ble_eq_true rfl) (by decide) (by decide) (fun x14 ρ9 m14 hq => ?_)
    obtain ⟨rfl, hR12, hD14, hx14, hF14⟩ := hq
    have hz14 : x14 = 0 := hx14.symm
    have hLF14 := hLR.st hD14 hF14 rfl
    exact tz_bret (g_at ck_X3_readPerson 8 rfl) rfl (Or.inl hz14) (rI_mk ⟨rfl, hR12, by unfold rP9; rw [if_pos (by omega)]; exact hLF14, by unfold rP9; rw [if_pos (by omega)]; exact hx14, FL.fe hD.u4 hF14⟩)
theorem bOr_512 {x c : Int} (hx : 0 ≤ x ∧ x < 512) (hc : 0 ≤ c ∧ c < 9) : 0 ≤ bOr x (bShl 1 c) ∧ bOr x (bShl 1 c) < 512 := by
  have h := bor_lt (t := x.toNat) (z := c.toNat) (n := 9) (by omega) (by omega) (by decide)
  rw [show ((x.toNat : Nat) : Int) = x by omega, show ((c.toNat : Nat) : Int) = c by omega] at h
  exact h
theorem RD.a3 {ρ m : Mm} {t : Int → Int} {n u x : Int} {s : PS} (h : RD ρ m t n u s) (hR : MR (wr m 37 3 x)) : RD ρ (wr m 37 3 x) t n u s := by
  have h4 := h.u4
  unfold isR4 at h4
  exact ⟨hR, h.ru, h.u4, h.tk.fr (wr_ne (by decide)) (wr_ne (by decide)), h.p, h.l.fr (wr_ne (by omega)) (wr_ne (by omega)), by rw [wr_at, if_neg (by decide)]; exact h.f, by rw [wr_at, if_neg (by decide)]; exact h.w, h.o⟩
theorem sp_readArm {l : Launch} {γ : Gh} {ρ m : Mm} {t : Int → Int} {n sp u : Int} {s : PS} {ν : Mm} {Q : Int → List Int} (hL : LY ρ) (hB : BY t) (hn : 0 ≤ n ∧ n ≤ 700) (hLR : LR ρ m t n sp u s ν Q) (h1 : s.1 = 1) : gE l γ μX3_readArm 8 0 0 (rI KK fun x ρ9 m9 => ρ = ρ9 ∧ MR m9 ∧ LR ρ9 m9 t n sp u (rA9 t n s ν).1 (rA9 t n s ν).2 Q ∧ (rA9 t n s ν).1.1 = x ∧ FL sp m m9) xN KK ρ m [vR 37] := by
  refine gE.ofw cl_X3.2 ?_ rfl rfl (Nat.le_of_ble_eq_true rfl)
  show gT l γ μX3_readArm 8 0 0 _ _ KK ρ m 0 [some (vR 37), none] []
  have hD := hLR.d
  have hR := hD.r
  have hsp := hLR.s3
  have hp := hD.p
  have hr9 := tk_rg (n := n) hB hp
  have hW := hLR.w
  have hw0 := hW.1
  have hw1 := hW.2.1
  have hw2 := hW.2.2.1
  have hN := hLR.nl
  have hn0 := hN.1
  have hu4 := hD.u4
  unfold isR4 at hu4
  refine tz_aload0 (n := 1) (g_at ck_X3_readArm 0 rfl) rfl (g_ne kd_37) ?_
  refine tz_getOv (n := 4) (a := 38) fk_X3_14 kd_37 (ly_37_0 hL) (g_at ck_X3_readArm 1 rfl) rfl ?_
  refine tz_cvV0 (n := 7) (μ' := μX7_advance) (cb' := 0) (sb' := 0) ml_X3_101 mo_X7_advance mv_X7_advance np_X7_advance kd_38 (g_at ck_X3_readArm 2 rfl) (sp_advance hL hR hB hn (show 0 ≤ tQ t n (sP s) ∧ tQ t n (sP s) ≤ n by have := tk_rg (n := n) hB hLR.d.p; have := hLR.d.p; omega) hLR.d.tk.1 hLR.d.tk.2.1 hLR.d.tk.q) rfl rfl rfl ⟨by decide, by decide⟩ (Nat.le_of_ble_eq_true rfl) (by decide) (by decide) (fun ρ9 m4 hq => ?_)
  obtain ⟨rfl, hR1, hF4, hC4⟩ := hq
  have hLR4 : LR ρ m4 t n sp u (nx9 t n s) ν Q := hLR.st (hLR.d.nx hB hR1 hF4 hC4) (FE.tok hF4) rfl
  have hF4 : FL sp m m4 := FL.fe hD.u4 (FE.tok (u := u) hF4)
  refine tz_aload0 (n := 8) (g_at ck_X3_readArm 3 rfl) rfl (g_ne kd_37) ?_
  refine tz_aload0 (n := 9) (g_at ck_X3_readArm 4 rfl) rfl (g_ne kd_37) ?_
  refine tz_getOv (n := 12) (a := sp) fk_X3_20 kd_37 hLR.ls (g_at ck_X3_readArm 5 rfl) rfl ?_
  refine tz_getIw (n := 15) (kz := 0) fk_X3_113 (isS_of hL hLR.s3).k0 (g_at ck_X3_readArm 6 rfl) rfl rfl ?_
  rw [hLR4.nl.1.1]
  refine tz_cvI1 (n := 18) (μ' := μX3_isTold) (cb' := 0) (sb' := 0) ml_X3_130 mo_X3_isTold mv_X3_isTold np_X3_isTold kd_37 (g_at ck_X3_readArm 7 rfl) (sq_isTold hL hB hn hLR4.d h1 (by omega)) rfl rfl rfl ⟨by decide, by decide⟩ (Nat.le_of_ble_eq_true rfl) (by decide) (by decide) (fun x15 ρ9 m15 hq => ?_)
  obtain ⟨rfl, hR2, hD15, hx15, hF15⟩ := hq
  have hLR15 : LR ρ m15 t n sp u (td9 t n (ν 0 0) (nx9 t n s)) ν Q := hLR4.st hD15 hF15 td9_l
  have ho15 := hD15.o
  have hF15 : FL sp m4 m15 := FL.fe hD.u4 hF15
  refine tz_if_ne (n := 21) (tgt := 23) (g_at ck_X3_readArm 8 rfl) rfl rfl (by omega) (fun h18 => ?_) (fun h18 => ?_)
  · skip
    have hok15 := td9_1 (t := t) (n := n) (k := (ν 0 0)) (s := (nx9 t n s)) (by omega)
    have hLS15 : LR ρ m15 t n sp u (nx9 t n s) ν Q := by have h8 := hLR15; rw [hok15.1] at h8; exact h8
    have h3b := hW.2.2.2.1 (tV t n (sP (nx9 t n s))) (by omega) (by omega)
    refine tz_aload0 (n := 24) (g_at ck_X3_readArm 11 rfl) rfl (g_ne kd_37) ?_
    refine tz_getIw (n := 27) (kz := 3) fk_X3_36 kd_37 (g_at ck_X3_readArm 12 rfl) rfl rfl ?_
    rw [hLS15.nl.1.2.2]
    refine tz_aload0 (n := 28) (g_at ck_X3_readArm 13 rfl) rfl (g_ne kd_37) ?_
    refine tz_getOv (n := 31) (a := 38) fk_X3_14 kd_37 (ly_37_0 hL) (g_at ck_X3_readArm 14 rfl) rfl ?_
    refine tz_getIw (n := 34) (kz := 5) fk_X3_110 kd_38 (g_at ck_X3_readArm 15 rfl) rfl rfl ?_
    rw [hLS15.d.tk.v hok15.2.1]
    refine tz_ishr (n := 35) (g_at ck_X3_readArm 16 rfl) rfl ?_
    refine tz_iconst (n := 36) (g_at ck_X3_readArm 17 rfl) rfl ?_
    refine tz_iand (n := 37) (g_at ck_X3_readArm 18 rfl) rfl ?_
    refine tz_iconst (n := 38) (g_at ck_X3_readArm 19 rfl) rfl ?_
    refine tz_icmp_ne (n := 41) (tgt := 47) (g_at ck_X3_readArm 20 rfl) rfl rfl ⟨(bAnd_rg _ _).1, (bAnd_rg _ _).2, by decide, by decide⟩ (fun h38 => ?_) (fun h38 => ?_)
    · skip
      refine tz_aload0 (n := 48) (g_at ck_X3_readArm 25 rfl) rfl (g_ne kd_37) ?_
      refine tz_cvI0 (n := 51) (μ' := μX3_take) (cb' := 0) (sb' := 0) ml_X3_119 mo_X3_take mv_X3_take np_X3_take kd_37 (g_at ck_X3_readArm 26 rfl) (sp_take hL hB hn hLS15.d hok15.2.1) rfl rfl rfl ⟨by decide, by decide⟩ (Nat.le_of_ble_eq_true rfl) (by decide) (by decide) (fun x48 ρ9 m48 hq => ?_)
      obtain ⟨rfl, hR3, hD48, rfl, hF48⟩ := hq
      have hLR48 : LR ρ m48 t n sp u (nx9 t n (nx9 t n s)) ν Q := hLS15.st hD48 hF48 rfl
      have hG48 := hF48
      have hF48 : FL sp m15 m48 := FL.fe hD.u4 hF48
      refine tz_istore1 (n := 52) (g_at ck_X3_readArm 27 rfl) rfl (by decide) g_hpR ?_
      refine tz_aload0 (n := 53) (g_at ck_X3_readArm 28 rfl) rfl (g_ne kd_37) ?_
      refine tz_aload0 (n := 54) (g_at ck_X3_readArm 29 rfl) rfl (g_ne kd_37) ?_
      refine tz_getOv (n := 57) (a := sp) fk_X3_20 kd_37 hLR.ls (g_at ck_X3_readArm 30 rfl) rfl ?_
      refine tz_getAv (n := 60) (a := (sp + 3)) fk_X3_133 (isS_of hL hLR.s3).k0 (isS_of hL hLR.s3).r0_4 (g_at ck_X3_readArm 31 rfl) rfl ?_
      refine tz_iload1 (n := 61) (g_at ck_X3_readArm 32 rfl) rfl ?_
      refine tz_iald (n := 62) (isS_of hL hLR.s3).k3 (by omega) (g_at ck_X3_readArm 33 rfl) rfl ?_
      rw [hLR48.nl.2.2.1 (tV t n (sP (nx9 t n s))) (by omega) (by omega)]
      refine tz_cvI1 (n := 65) (μ' := μX3_isTold) (cb' := 0) (sb' := 0) ml_X3_130 mo_X3_isTold mv_X3_isTold np_X3_isTold kd_37 (g_at ck_X3_readArm 34 rfl) (sq_isTold hL hB hn hLR48.d h1 (by omega)) rfl rfl rfl ⟨by decide, by decide⟩ (Nat.le_of_ble_eq_true rfl) (by decide) (by decide) (fun x62 ρ9 m62 hq => ?_)
      obtain ⟨rfl, hR4, hD62, hx62, hF62⟩ := hq
      have hLR62 : LR ρ m62 t n sp u (td9 t n (ν 3 (tV t n (sP (nx9 t n s)))) (nx9 t n (nx9 t n s))) ν Q := hLR48.st hD62 hF62 td9_l
      have ho62 := hD62.o
      have hF62 : FL sp m48 m62 := FL.fe hD.u4 hF62
      refine tz_if_ne (n := 68) (tgt := 70) (g_at ck_X3_readArm 35 rfl) rfl rfl (by omega) (fun h65 => ?_) (fun h65 => ?_)
      · skip
        have hok62 := td9_1 (t := t) (n := n) (k := (ν 3 (tV t n (sP (nx9 t n s))))) (s := (nx9 t n (nx9 t n s))) (by omega)
        have hLS62 : LR ρ m62 t n sp u (nx9 t n (nx9 t n s)) ν Q := by have h8 := hLR62; rw [hok62.1] at h8; exact h8
        have hbo := bOr_512 hw2 (show 0 ≤ (tV t n (sP (nx9 t n s))) ∧ (tV t n (sP (nx9 t n s))) < 9 by omega)
        refine tz_aload0 (n := 71) (g_at ck_X3_readArm 38 rfl) rfl (g_ne kd_37) ?_
        refine tz_dupR (n := 72) (g_at ck_X3_readArm 39 rfl) rfl ?_
        refine tz_getIw (n := 75) (kz := 3) fk_X3_36 kd_37 (g_at ck_X3_readArm 40 rfl) rfl rfl ?_
        rw [hLS62.nl.1.2.2]
        refine tz_iconst (n := 76) (g_at ck_X3_readArm 41 rfl) rfl ?_
        refine tz_iload1 (n := 77) (g_at ck_X3_readArm 42 rfl) rfl ?_
        refine tz_ishl (n := 78) (g_at ck_X3_readArm 43 rfl) rfl ?_
        refine tz_ior (n := 79) (g_at ck_X3_readArm 44 rfl) rfl ?_
        refine tz_putIr (n := 82) (kz := 3) fk_X3_36 kd_37 (g_at ck_X3_readArm 45 rfl) rfl hR4 (by omega) rfl (fun hR5 => ?_)
        have hD70 : RD ρ (wr m62 37 3 (bOr (ν 0 2) (bShl 1 (tV t n (sP (nx9 t n s)))))) t n u (nx9 t n (nx9 t n s)) := hLS62.d.a3 hR5
        refine tz_aload0 (n := 83) (g_at ck_X3_readArm 46 rfl) rfl (g_ne kd_37) ?_
        refine tz_getOv (n := 86) (a := sp) fk_X3_20 kd_37 hLR.ls (g_at ck_X3_readArm 47 rfl) rfl ?_
        refine tz_getOv (n := 89) (a := (sp + 12)) fk_X3_143 (isS_of hL hLR.s3).k0 (isS_of hL hLR.s3).r0_9 (g_at ck_X3_readArm 48 rfl) rfl ?_
        refine tz_getAv (n := 92) (a := ((sp + 12) + 3)) fk_X3_158 (isS_of hL hLR.s3).mom.k0 (isS_of hL hLR.s3).mom.r0_3 (g_at ck_X3_readArm 49 rfl) rfl ?_
        refine tz_iload1 (n := 93) (g_at ck_X3_readArm 50 rfl) rfl ?_
        refine tz_aload0 (n := 94) (g_at ck_X3_readArm 51 rfl) rfl (g_ne kd_37) ?_
        refine tz_cvI0 (n := 97) (μ' := μX3_take) (cb' := 0) (sb' := 0) ml_X3_119 mo_X3_take mv_X3_take np_X3_take kd_37 (g_at ck_X3_readArm 52 rfl) (sp_take hL hB hn hD70 hok62.2.1) rfl rfl rfl ⟨by decide, by decide⟩ (Nat.le_of_ble_eq_true rfl) (by decide) (by decide) (fun x94 ρ9 m94 hq => ?_)
        obtain ⟨rfl, hR6, hD94, rfl, hF94⟩ := hq
        refine tz_iastr (n := 98) (isS_of hL hLR.s3).mom.k3 (by omega) (g_at ck_X3_readArm 53 rfl) rfl hR6 (by omega) (fun hR7 => ?_)
        refine tz_iconst (n := 99) (g_at ck_X3_readArm 54 rfl) rfl ?_
        exact tz_bret (g_at ck_X3_readArm 55 rfl) rfl (by decide) (rI_mk ⟨rfl, hR7, by unfold rA9; rw [if_pos (by omega), if_neg h38, if_pos (by omega)]; exact ⟨hD94.fr hR7 (fun a ha => wr_ne (by omega)), hLR.ls, hLR.s3, hLS62.nl.arm (show 0 ≤ (tV t n (sP (nx9 t n s))) ∧ (tV t n (sP (nx9 t n s))) < 9 by omega) (by rw [wr_ne (by omega), hF94.2 3 (by decide) (by decide), wr_same]) (by rw [show sp + 15 = sp + 12 + 3 by omega, wr_eq, upA_at, hF94.1 _ (by omega) (by omega) (by omega) (by omega), wr_ne (by omega)]) (fun d hd => by rw [wr_ne (by omega), hF94.1 _ (by omega) (by omega) (by omega) (by omega), wr_ne (by omega)]), hW.arm (show 0 ≤ (tV t n (sP (nx9 t n s))) ∧ (tV t n (sP (nx9 t n s))) < 9 by omega) (by omega) hbo, (R4.fr (by have k8 := hLS62.q; have k9 := (k8.fr (m9 := (wr m62 37 3 (bOr (ν 0 2) (bShl 1 (tV t n (sP (nx9 t n s))))))) (fun a ha => wr_ne (by omega))).fe hD.u4 hF94 hD94.l; rw [upQ_self (show sL (nx9 t n (nx9 t n (nx9 t n s))) = Q u from hLR.l)] at k9; exact k9) (fun a ha => wr_ne (by omega))), hLR.l⟩, by unfold rA9; rw [if_pos (by omega), if_neg h38, if_pos (by omega)]; exact h1, FL.wr (fun a q1 q2 q3 q4 => by rw [FL.fe (sp := sp) hD.u4 hF94 a q1 q2 q3 q4, wr_ne q2]; exact (((hF4.tr hF15).tr hF48).tr hF62) a q1 q2 q3 q4) (by omega)⟩)
      · skip
        refine tz_iconst (n := 69) (g_at ck_X3_readArm 36 rfl) rfl ?_
        exact tz_bret (g_at ck_X3_readArm 37 rfl) rfl (by decide) (rI_mk ⟨rfl, hR4, by unfold rA9; rw [if_pos (by omega), if_neg h38, if_neg (by omega)]; exact hLR62, by unfold rA9; rw [if_pos (by omega), if_neg h38, if_neg (by omega)]; exact (show (td9 t n (ν 3 (tV t n (sP (nx9 t n s)))) (nx9 t n (nx9 t n s))).1 = 0 by omega), ((hF4.tr hF15).tr hF48).tr hF62⟩)
    · skip
      refine tz_aload0 (n := 42) (g_at ck_X3_readArm 21 rfl) rfl (g_ne kd_37) ?_
      refine tz_iconst (n := 43) (g_at ck_X3_readArm 22 rfl) rfl ?_
      refine tz_cvI1 (n := 46) (μ' := μX3_fail) (cb' := 0) (sb' := 0) ml_X3_93 mo_X3_fail mv_X3_fail np_X3_fail kd_37 (g_at ck_X3_readArm 23 rfl) (sp_fail hL hB hn hLS15.d (by decide)) rfl rfl rfl ⟨by decide, by decide⟩ (Nat.le_of_ble_eq_true rfl) (by decide) (by decide) (fun x43 ρ9 m43 hq => ?_)
      obtain ⟨rfl, hR8, hD43, hx43, hF43⟩ := hq
      have hz43 : x43 = 0 := hx43.symm
      have hLF43 := hLS15.st hD43 hF43 rfl
      exact tz_bret (g_at ck_X3_readArm 24 rfl) rfl (Or.inl hz43) (rI_mk ⟨rfl, hR8, by unfold rA9; rw [if_pos (by omega), if_pos h38]; exact hLF43, by unfold rA9; rw [if_pos (by omega), if_pos h38]; exact hx43, (hF4.tr hF15).tr (FL.fe hD.u4 hF43)⟩)
  · skip
    refine tz_iconst (n := 22) (g_at ck_X3_readArm 9 rfl) rfl ?_
    exact tz_bret (g_at ck_X3_readArm 10 rfl) rfl (by decide) (rI_mk ⟨rfl, hR2, by unfold rA9; rw [if_neg (by omega)]; exact hLR15, by unfold rA9; rw [if_neg (by omega)]; exact (show (td9 t n (ν 0 0) (nx9 t n s)).1 = 0 by omega), hF4.tr hF15⟩)
