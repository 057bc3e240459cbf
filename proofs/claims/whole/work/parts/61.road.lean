/-! Lines: roads, people, arms. -/
noncomputable def rR9 (t : Int → Int) (n : Int) (s : PS) (ν : Mm) : PS × Mm :=
  if (td9 t n (ν 0 0) (nx9 t n s)).1 = 1 then
    if 5 ≤ ν 3 (tV t n (sP (nx9 t n s))) then (fl9 t n 4 (nx9 t n s), ν)
    else if (td9 t n (ν 0 0) (nx9 t n (nx9 t n s))).1 = 1 then
      if tV t n (sP (nx9 t n (nx9 t n s))) = tV t n (sP (nx9 t n s)) then (fl9 t n 4 (nx9 t n (nx9 t n s)), ν)
      else (nx9 t n (nx9 t n (nx9 t n s)), wr (wr ν 4 (tV t n (sP (nx9 t n s)) * 5 + ν 3 (tV t n (sP (nx9 t n s)))) (tV t n (sP (nx9 t n (nx9 t n s))))) 3 (tV t n (sP (nx9 t n s))) (ν 3 (tV t n (sP (nx9 t n s))) + 1))
    else (td9 t n (ν 0 0) (nx9 t n (nx9 t n s)), ν)
  else (td9 t n (ν 0 0) (nx9 t n s), ν)
theorem NL.road {m m9 ν : Mm} {sp a b : Int} (h : NL m sp ν) (ha : 0 ≤ a ∧ a < ν 0 0) (h9 : ν 0 0 ≤ 9) (hr : ∀ c, 0 ≤ c → c < 9 → 0 ≤ ν 3 c ∧ ν 3 c ≤ 5) (h5 : ν 3 a < 5) (h4 : m9 (sp + 4) = up (m (sp + 4)) (a * 5 + ν 3 a) b) (h3 : m9 (sp + 3) = up (m (sp + 3)) a (ν 3 a + 1)) (h37 : m9 37 3 = m 37 3) (k : ∀ c, c = sp ∨ c = sp + 1 ∨ c = sp + 2 ∨ c = sp + 5 ∨ (sp + 12 ≤ c ∧ c ≤ sp + 16) → m9 c = m c) : NL m9 sp (wr (wr ν 4 (a * 5 + ν 3 a) b) 3 a (ν 3 a + 1)) := by
  obtain ⟨g1, g2, g3, g4, g5, g6⟩ := h
  have e0 : wr (wr ν 4 (a * 5 + ν 3 a) b) 3 a (ν 3 a + 1) 0 = ν 0 := by rw [wr_ne (by decide), wr_ne (by decide)]
  have e1 : wr (wr ν 4 (a * 5 + ν 3 a) b) 3 a (ν 3 a + 1) 1 = ν 1 := by rw [wr_ne (by decide), wr_ne (by decide)]
  have e2 : wr (wr ν 4 (a * 5 + ν 3 a) b) 3 a (ν 3 a + 1) 2 = ν 2 := by rw [wr_ne (by decide), wr_ne (by decide)]
  have e5 : wr (wr ν 4 (a * 5 + ν 3 a) b) 3 a (ν 3 a + 1) 5 = ν 5 := by rw [wr_ne (by decide), wr_ne (by decide)]
  have e6 : wr (wr ν 4 (a * 5 + ν 3 a) b) 3 a (ν 3 a + 1) 6 = ν 6 := by rw [wr_ne (by decide), wr_ne (by decide)]
  have e3 : ∀ j, wr (wr ν 4 (a * 5 + ν 3 a) b) 3 a (ν 3 a + 1) 3 j = up (ν 3) a (ν 3 a + 1) j := fun j => by rw [wr_at, wr_ne (by decide)]; rfl
  have e4 : ∀ j, wr (wr ν 4 (a * 5 + ν 3 a) b) 3 a (ν 3 a + 1) 4 j = up (ν 4) (a * 5 + ν 3 a) b j := fun j => by rw [wr_ne (by decide), wr_at]; rfl
  unfold NL
  rw [e0, e1, e2, e5, e6]
  refine ⟨by rw [k sp (by omega), h37]; exact g1, ?_, ?_, ?_, ?_, g6.gen (fun c q1 q2 => k c (by omega))⟩
  · rw [k (sp + 1) (by omega), k (sp + 2) (by omega)]; exact g2
  · intro c q1 q2
    rw [e3, h3]
    unfold up
    split
    · rfl
    · exact g3 c q1 q2
  · intro c r q1 q2 q3 q4
    rw [e3] at q4
    rw [e4, h4]
    have hrc := hr c q1 (by omega)
    have hra := hr a ha.1 (by omega)
    unfold up at q4 ⊢
    by_cases e : c = a
    · subst e
      rw [if_pos rfl] at q4
      split
      · rfl
      · exact g4 c r q1 q2 q3 (by omega)
    · rw [if_neg e] at q4
      rw [if_neg (by omega), if_neg (by omega)]
      exact g4 c r q1 q2 q3 q4
  · rw [k (sp + 5) (by omega)]; exact g5
theorem WN.road {ν : Mm} {a b : Int} (h : WN ν) (ha : 0 ≤ a ∧ a < ν 0 0) (h5 : ν 3 a < 5) (hb : 0 ≤ b ∧ b < ν 0 0) : WN (wr (wr ν 4 (a * 5 + ν 3 a) b) 3 a (ν 3 a + 1)) := by
  obtain ⟨g1, g2, g3, g4, g5, g6, g7, g8, g9, g10⟩ := h
  have e0 : wr (wr ν 4 (a * 5 + ν 3 a) b) 3 a (ν 3 a + 1) 0 = ν 0 := by rw [wr_ne (by decide), wr_ne (by decide)]
  have e1 : wr (wr ν 4 (a * 5 + ν 3 a) b) 3 a (ν 3 a + 1) 1 = ν 1 := by rw [wr_ne (by decide), wr_ne (by decide)]
  have e2 : wr (wr ν 4 (a * 5 + ν 3 a) b) 3 a (ν 3 a + 1) 2 = ν 2 := by rw [wr_ne (by decide), wr_ne (by decide)]
  have e5 : wr (wr ν 4 (a * 5 + ν 3 a) b) 3 a (ν 3 a + 1) 5 = ν 5 := by rw [wr_ne (by decide), wr_ne (by decide)]
  have e6 : wr (wr ν 4 (a * 5 + ν 3 a) b) 3 a (ν 3 a + 1) 6 = ν 6 := by rw [wr_ne (by decide), wr_ne (by decide)]
  have e3 : wr (wr ν 4 (a * 5 + ν 3 a) b) 3 a (ν 3 a + 1) 3 = up (ν 3) a (ν 3 a + 1) := funext fun j => by rw [wr_at, wr_ne (by decide)]; rfl
  have e4 : wr (wr ν 4 (a * 5 + ν 3 a) b) 3 a (ν 3 a + 1) 4 = up (ν 4) (a * 5 + ν 3 a) b := funext fun j => by rw [wr_ne (by decide), wr_at]; rfl
  have hra := g4 a ha.1 (by omega)
  unfold WN
  rw [e0, e1, e2, e3, e4, e5, e6]
  refine ⟨g1, g2, g3, fun c q1 q2 => ?_, fun c q1 q2 => ?_, g6, fun c r q1 q2 q3 q4 => ?_, g8, fun c q1 q2 => ?_, g10⟩
  · have := g4 c q1 q2
    unfold up
    split <;> omega
  · rw [up_ne (by omega)]
    exact g5 c q1 q2
  · have hrc := g4 c q1 (by omega)
    unfold up at q4 ⊢
    by_cases e : c = a
    · subst e
      rw [if_pos rfl] at q4
      split
      · exact hb
      · exact g7 c r q1 q2 q3 (by omega)
    · rw [if_neg e] at q4
      rw [if_neg (by omega)]
      exact g7 c r q1 q2 q3 q4
  · have := g9 c q1 q2
    unfold up
    split
    · rename_i e
      subst e
      omega
    · exact this
theorem sp_readRoad {l : Launch} {γ : Gh} {ρ m : Mm} {t : Int → Int} {n sp u : Int} {s : PS} {ν : Mm} {Q : Int → List Int} (hL : LY ρ) (hB : BY t) (hn : 0 ≤ n ∧ n ≤ 700) (hLR : LR ρ m t n sp u s ν Q) (h1 : s.1 = 1) : gE l γ μX3_readRoad 8 0 0 (rI KK fun x ρ9 m9 => ρ = ρ9 ∧ MR m9 ∧ LR ρ9 m9 t n sp u (rR9 t n s ν).1 (rR9 t n s ν).2 Q ∧ (rR9 t n s ν).1.1 = x ∧ FL sp m m9) xN KK ρ m [vR 37] := by
  refine gE.ofw cl_X3.2 ?_ rfl rfl (Nat.le_of_ble_eq_true rfl)
  show gT l γ μX3_readRoad 8 0 0 _ _ KK ρ m 0 [some (vR 37), none] []
  have hD := hLR.d
  have hR := hD.r
  have hsp := hLR.s3
  have hp := hD.p
  have hr9 := tk_rg (n := n) hB hp
  have hW := hLR.w
  have hw0 := hW.1
  have hw1 := hW.2.1
  have hw2 := hW.2.2.1
  have hN := hLR.nl
  have hn0 := hN.1
  have hu4 := hD.u4
  unfold isR4 at hu4
  refine tz_aload0 (n := 1) (g_at ck_X3_readRoad 0 rfl) rfl (g_ne kd_37) ?_
  refine tz_getOv (n := 4) (a := 38) fk_X3_14 kd_37 (ly_37_0 hL) (g_at ck_X3_readRoad 1 rfl) rfl ?_
  refine tz_cvV0 (n := 7) (μ' := μX7_advance) (cb' := 0) (sb' := 0) ml_X3_101 mo_X7_advance mv_X7_advance np_X7_advance kd_38 (g_at ck_X3_readRoad 2 rfl) (sp_advance hL hR hB hn (show 0 ≤ tQ t n (sP s) ∧ tQ t n (sP s) ≤ n by have := tk_rg (n := n) hB hLR.d.p; have := hLR.d.p; omega) hLR.d.tk.1 hLR.d.tk.2.1 hLR.d.tk.q) rfl rfl rfl ⟨by decide, by decide⟩ (Nat.le_of_ble_eq_true rfl) (by decide) (by decide) (fun ρ9 m4 hq => ?_)
  obtain ⟨rfl, hR1, hF4, hC4⟩ := hq
  have hLR4 : LR ρ m4 t n sp u (nx9 t n s) ν Q := hLR.st (hLR.d.nx hB hR1 hF4 hC4) (FE.tok hF4) rfl
  have hF4 : FL sp m m4 := FL.fe hD.u4 (FE.tok (u := u) hF4)
  refine tz_aload0 (n := 8) (g_at ck_X3_readRoad 3 rfl) rfl (g_ne kd_37) ?_
  refine tz_aload0 (n := 9) (g_at ck_X3_readRoad 4 rfl) rfl (g_ne kd_37) ?_
  refine tz_getOv (n := 12) (a := sp) fk_X3_20 kd_37 hLR.ls (g_at ck_X3_readRoad 5 rfl) rfl ?_
  refine tz_getIw (n := 15) (kz := 0) fk_X3_113 (isS_of hL hLR.s3).k0 (g_at ck_X3_readRoad 6 rfl) rfl rfl ?_
  rw [hLR4.nl.1.1]
  refine tz_cvI1 (n := 18) (μ' := μX3_isTold) (cb' := 0) (sb' := 0) ml_X3_130 mo_X3_isTold mv_X3_isTold np_X3_isTold kd_37 (g_at ck_X3_readRoad 7 rfl) (sq_isTold hL hB hn hLR4.d h1 (by omega)) rfl rfl rfl ⟨by decide, by decide⟩ (Nat.le_of_ble_eq_true rfl) (by decide) (by decide) (fun x15 ρ9 m15 hq => ?_)
  obtain ⟨rfl, hR2, hD15, hx15, hF15⟩ := hq
  have hLR15 : LR ρ m15 t n sp u (td9 t n (ν 0 0) (nx9 t n s)) ν Q := hLR4.st hD15 hF15 td9_l
  have ho15 := hD15.o
  have hF15 : FL sp m4 m15 := FL.fe hD.u4 hF15
  refine tz_if_ne (n := 21) (tgt := 23) (g_at ck_X3_readRoad 8 rfl) rfl rfl (by omega) (fun h18 => ?_) (fun h18 => ?_)
  · skip
    have hok15 := td9_1 (t := t) (n := n) (k := (ν 0 0)) (s := (nx9 t n s)) (by omega)
    have hLS15 : LR ρ m15 t n sp u (nx9 t n s) ν Q := by have h8 := hLR15; rw [hok15.1] at h8; exact h8
    have h3a := hLS15.nl.2.2.1 (tV t n (sP (nx9 t n s))) (by omega) (by omega)
    have h3b := hW.2.2.2.1 (tV t n (sP (nx9 t n s))) (by omega) (by omega)
    refine tz_aload0 (n := 24) (g_at ck_X3_readRoad 11 rfl) rfl (g_ne kd_37) ?_
    refine tz_getOv (n := 27) (a := sp) fk_X3_20 kd_37 hLR.ls (g_at ck_X3_readRoad 12 rfl) rfl ?_
    refine tz_getAv (n := 30) (a := (sp + 3)) fk_X3_133 (isS_of hL hLR.s3).k0 (isS_of hL hLR.s3).r0_4 (g_at ck_X3_readRoad 13 rfl) rfl ?_
    refine tz_aload0 (n := 31) (g_at ck_X3_readRoad 14 rfl) rfl (g_ne kd_37) ?_
    refine tz_getOv (n := 34) (a := 38) fk_X3_14 kd_37 (ly_37_0 hL) (g_at ck_X3_readRoad 15 rfl) rfl ?_
    refine tz_getIw (n := 37) (kz := 5) fk_X3_110 kd_38 (g_at ck_X3_readRoad 16 rfl) rfl rfl ?_
    rw [hLS15.d.tk.v hok15.2.1]
    refine tz_iald (n := 38) (isS_of hL hLR.s3).k3 (by omega) (g_at ck_X3_readRoad 17 rfl) rfl ?_
    rw [h3a]
    refine tz_iconst (n := 39) (g_at ck_X3_readRoad 18 rfl) rfl ?_
    refine tz_icmp_lt (n := 42) (tgt := 48) (g_at ck_X3_readRoad 19 rfl) rfl rfl ⟨by omega, by omega, by decide, by decide⟩ (fun h39 => ?_) (fun h39 => ?_)
    · skip
      refine tz_aload0 (n := 49) (g_at ck_X3_readRoad 24 rfl) rfl (g_ne kd_37) ?_
      refine tz_cvI0 (n := 52) (μ' := μX3_take) (cb' := 0) (sb' := 0) ml_X3_119 mo_X3_take mv_X3_take np_X3_take kd_37 (g_at ck_X3_readRoad 25 rfl) (sp_take hL hB hn hLS15.d hok15.2.1) rfl rfl rfl ⟨by decide, by decide⟩ (Nat.le_of_ble_eq_true rfl) (by decide) (by decide) (fun x49 ρ9 m49 hq => ?_)
      obtain ⟨rfl, hR3, hD49, rfl, hF49⟩ := hq
      have hLR49 : LR ρ m49 t n sp u (nx9 t n (nx9 t n s)) ν Q := hLS15.st hD49 hF49 rfl
      have hG49 := hF49
      have hF49 : FL sp m15 m49 := FL.fe hD.u4 hF49
      refine tz_istore1 (n := 53) (g_at ck_X3_readRoad 26 rfl) rfl (by decide) g_hpR ?_
      refine tz_aload0 (n := 54) (g_at ck_X3_readRoad 27 rfl) rfl (g_ne kd_37) ?_
      refine tz_aload0 (n := 55) (g_at ck_X3_readRoad 28 rfl) rfl (g_ne kd_37) ?_
      refine tz_getOv (n := 58) (a := sp) fk_X3_20 kd_37 hLR.ls (g_at ck_X3_readRoad 29 rfl) rfl ?_
      refine tz_getIw (n := 61) (kz := 0) fk_X3_113 (isS_of hL hLR.s3).k0 (g_at ck_X3_readRoad 30 rfl) rfl rfl ?_
      rw [hLR49.nl.1.1]
      refine tz_cvI1 (n := 64) (μ' := μX3_isTold) (cb' := 0) (sb' := 0) ml_X3_130 mo_X3_isTold mv_X3_isTold np_X3_isTold kd_37 (g_at ck_X3_readRoad 31 rfl) (sq_isTold hL hB hn hLR49.d h1 (by omega)) rfl rfl rfl ⟨by decide, by decide⟩ (Nat.le_of_ble_eq_true rfl) (by decide) (by decide) (fun x61 ρ9 m61 hq => ?_)
      obtain ⟨rfl, hR4, hD61, hx61, hF61⟩ := hq
      have hLR61 : LR ρ m61 t n sp u (td9 t n (ν 0 0) (nx9 t n (nx9 t n s))) ν Q := hLR49.st hD61 hF61 td9_l
      have ho61 := hD61.o
      have hF61 : FL sp m49 m61 := FL.fe hD.u4 hF61
      refine tz_if_ne (n := 67) (tgt := 69) (g_at ck_X3_readRoad 32 rfl) rfl rfl (by omega) (fun h64 => ?_) (fun h64 => ?_)
      · skip
        have hok61 := td9_1 (t := t) (n := n) (k := (ν 0 0)) (s := (nx9 t n (nx9 t n s))) (by omega)
        have hLS61 : LR ρ m61 t n sp u (nx9 t n (nx9 t n s)) ν Q := by have h8 := hLR61; rw [hok61.1] at h8; exact h8
        refine tz_aload0 (n := 70) (g_at ck_X3_readRoad 35 rfl) rfl (g_ne kd_37) ?_
        refine tz_getOv (n := 73) (a := 38) fk_X3_14 kd_37 (ly_37_0 hL) (g_at ck_X3_readRoad 36 rfl) rfl ?_
        refine tz_getIw (n := 76) (kz := 5) fk_X3_110 kd_38 (g_at ck_X3_readRoad 37 rfl) rfl rfl ?_
        rw [hLS61.d.tk.v hok61.2.1]
        refine tz_iload1 (n := 77) (g_at ck_X3_readRoad 38 rfl) rfl ?_
        refine tz_icmp_ne (n := 80) (tgt := 86) (g_at ck_X3_readRoad 39 rfl) rfl rfl ⟨by omega, by omega, by omega, by omega⟩ (fun h77 => ?_) (fun h77 => ?_)
        · skip
          refine tz_aload0 (n := 87) (g_at ck_X3_readRoad 44 rfl) rfl (g_ne kd_37) ?_
          refine tz_getOv (n := 90) (a := sp) fk_X3_20 kd_37 hLR.ls (g_at ck_X3_readRoad 45 rfl) rfl ?_
          refine tz_iload1 (n := 91) (g_at ck_X3_readRoad 46 rfl) rfl ?_
          refine tz_aload0 (n := 92) (g_at ck_X3_readRoad 47 rfl) rfl (g_ne kd_37) ?_
          refine tz_cvI0 (n := 95) (μ' := μX3_take) (cb' := 0) (sb' := 0) ml_X3_119 mo_X3_take mv_X3_take np_X3_take kd_37 (g_at ck_X3_readRoad 48 rfl) (sp_take hL hB hn hLS61.d hok61.2.1) rfl rfl rfl ⟨by decide, by decide⟩ (Nat.le_of_ble_eq_true rfl) (by decide) (by decide) (fun x92 ρ9 m92 hq => ?_)
          obtain ⟨rfl, hR5, hD92, rfl, hF92⟩ := hq
          have hLR92 : LR ρ m92 t n sp u (nx9 t n (nx9 t n (nx9 t n s))) ν Q := hLS61.st hD92 hF92 rfl
          have hG92 := hF92
          have hF92 : FL sp m61 m92 := FL.fe hD.u4 hF92
          have hr92 := hLR92.nl.2.2.1 (tV t n (sP (nx9 t n s))) (by omega) (by omega)
          refine tz_cvV2 (n := 98) (μ' := μX6_addRoad) (cb' := 0) (sb' := 0) ml_X3_136 mo_X6_addRoad mv_X6_addRoad np_X6_addRoad (isS_of hL hLR.s3).k0 (g_at ck_X3_readRoad 49 rfl) (sp_addRoad (isS_of hL hLR.s3) hR5 (by omega) (by rw [hr92]; omega) (by omega)) rfl rfl rfl ⟨by decide, by decide⟩ (Nat.le_of_ble_eq_true rfl) (by decide) (by decide) (fun ρ9 m95 hq => ?_)
          obtain ⟨rfl, hR6, rfl⟩ := hq
          refine tz_iconst (n := 99) (g_at ck_X3_readRoad 50 rfl) rfl ?_
          exact tz_bret (g_at ck_X3_readRoad 51 rfl) rfl (by decide) (rI_mk ⟨rfl, hR6, by unfold rR9; rw [if_pos (by omega), if_neg (by omega), if_pos (by omega), if_neg h77]; exact ⟨hLR92.d.fr hR6 (fun a ha => by rw [wr_ne (by omega), wr_ne (by omega)]), hLR.ls, hLR.s3, hLR92.nl.road (by omega) hw0.2 hW.2.2.2.1 (by omega) (by rw [hr92, wr_ne (by omega), wr_eq, upA_at]) (by rw [hr92, wr_eq, upA_at, wr_ne (show sp + 3 ≠ sp + 4 by omega), hr92]) (by rw [wr_ne (by omega), wr_ne (by omega)]) (fun c hc => by rw [wr_ne (by omega), wr_ne (by omega)]), hW.road (by omega) (by omega) (by omega), hLR92.q.fr (fun a ha => by rw [wr_ne (by omega), wr_ne (by omega)]), hLR.l⟩, by unfold rR9; rw [if_pos (by omega), if_neg (by omega), if_pos (by omega), if_neg h77]; exact h1, (((((hF4.tr hF15).tr hF49).tr hF61).tr hF92).wr (by omega)).wr (by omega)⟩)
        · skip
          refine tz_aload0 (n := 81) (g_at ck_X3_readRoad 40 rfl) rfl (g_ne kd_37) ?_
          refine tz_iconst (n := 82) (g_at ck_X3_readRoad 41 rfl) rfl ?_
          refine tz_cvI1 (n := 85) (μ' := μX3_fail) (cb' := 0) (sb' := 0) ml_X3_93 mo_X3_fail mv_X3_fail np_X3_fail kd_37 (g_at ck_X3_readRoad 42 rfl) (sp_fail hL hB hn hLS61.d (by decide)) rfl rfl rfl ⟨by decide, by decide⟩ (Nat.le_of_ble_eq_true rfl) (by decide) (by decide) (fun x82 ρ9 m82 hq => ?_)
          obtain ⟨rfl, hR7, hD82, hx82, hF82⟩ := hq
          have hz82 : x82 = 0 := hx82.symm
          have hLF82 := hLS61.st hD82 hF82 rfl
          exact tz_bret (g_at ck_X3_readRoad 43 rfl) rfl (Or.inl hz82) (rI_mk ⟨rfl, hR7, by unfold rR9; rw [if_pos (by omega), if_neg (by omega), if_pos (by omega), if_pos h77]; exact hLF82, by unfold rR9; rw [if_pos (by omega), if_neg (by omega), if_pos (by omega), if_pos h77]; exact hx82, (((hF4.tr hF15).tr hF49).tr hF61).tr (FL.fe hD.u4 hF82)⟩)
      · skip
        refine tz_iconst (n := 68) (g_at ck_X3_readRoad 33 rfl) rfl ?_
        exact tz_bret (g_at ck_X3_readRoad 34 rfl) rfl (by decide) (rI_mk ⟨rfl, hR4, by unfold rR9; rw [if_pos (by omega), if_neg (by omega), if_neg (by omega)]; exact hLR61, by unfold rR9; rw [if_pos (by omega), if_neg (by omega), if_neg (by omega)]; exact (show (td9 t n (ν 0 0) (nx9 t n (nx9 t n s))).1 = 0 by omega), ((hF4.tr hF15).tr hF49).tr hF61⟩)
    · skip
      refine tz_aload0 (n := 43) (g_at ck_X3_readRoad 20 rfl) rfl (g_ne kd_37) ?_
      refine tz_iconst (n := 44) (g_at ck_X3_readRoad 21 rfl) rfl ?_
      refine tz_cvI1 (n := 47) (μ' := μX3_fail) (cb' := 0) (sb' := 0) ml_X3_93 mo_X3_fail mv_X3_fail np_X3_fail kd_37 (g_at ck_X3_readRoad 22 rfl) (sp_fail hL hB hn hLS15.d (by decide)) rfl rfl rfl ⟨by decide, by decide⟩ (Nat.le_of_ble_eq_true rfl) (by decide) (by decide) (fun x44 ρ9 m44 hq => ?_)
      obtain ⟨rfl, hR8, hD44, hx44, hF44⟩ := hq
      have hz44 : x44 = 0 := hx44.symm
      have hLF44 := hLS15.st hD44 hF44 rfl
      exact tz_bret (g_at ck_X3_readRoad 23 rfl) rfl (Or.inl hz44) (rI_mk ⟨rfl, hR8, by unfold rR9; rw [if_pos (by omega), if_pos (by omega)]; exact hLF44, by unfold rR9; rw [if_pos (by omega), if_pos (by omega)]; exact hx44, (hF4.tr hF15).tr (FL.fe hD.u4 hF44)⟩)
  · skip
    refine tz_iconst (n := 22) (g_at ck_X3_readRoad 9 rfl) rfl ?_
    exact tz_bret (g_at ck_X3_readRoad 10 rfl) rfl (by decide) (rI_mk ⟨rfl, hR2, by unfold rR9; rw [if_neg (by omega)]; exact hLR15, by unfold rR9; rw [if_neg (by omega)]; exact (show (td9 t n (ν 0 0) (nx9 t n s)).1 = 0 by omega), hF4.tr hF15⟩)
