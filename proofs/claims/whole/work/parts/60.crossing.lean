/-! Lines: crossings, roads, people, arms. -/
noncomputable def rC9 (t : Int → Int) (n : Int) (s : PS) (ν : Mm) : PS × Mm :=
  if 9 ≤ ν 0 0 then (fl9 t n 2 s, ν)
  else if (nt9 t n 9 (nx9 t n s)).1 = 1 then
    if (nt9 t n 1 (nx9 t n (nx9 t n s))).1 = 1 then (nx9 t n (nx9 t n (nx9 t n s)), wr (wr (wr ν 1 (ν 0 0) (tV t n (sP (nx9 t n s)))) 2 (ν 0 0) (tV t n (sP (nx9 t n (nx9 t n s))))) 0 0 (ν 0 0 + 1))
    else (nt9 t n 1 (nx9 t n (nx9 t n s)), ν)
  else (nt9 t n 9 (nx9 t n s), ν)
theorem NL.cross {m m9 ν : Mm} {sp a b : Int} (h : NL m sp ν) (h0 : m9 sp 0 = ν 0 0 + 1) (h0' : m9 sp 1 = m sp 1) (h37 : m9 37 3 = m 37 3) (h1 : m9 (sp + 1) = up (m (sp + 1)) (ν 0 0) a) (h2 : m9 (sp + 2) = up (m (sp + 2)) (ν 0 0) b) (k : ∀ c, c = sp + 3 ∨ c = sp + 4 ∨ c = sp + 5 ∨ (sp + 12 ≤ c ∧ c ≤ sp + 16) → m9 c = m c) (hw : ν 3 (ν 0 0) = 0) : NL m9 sp (wr (wr (wr ν 1 (ν 0 0) a) 2 (ν 0 0) b) 0 0 (ν 0 0 + 1)) := by
  obtain ⟨g1, g2, g3, g4, g5, g6⟩ := h
  have e3 : ∀ j, wr (wr (wr ν 1 (ν 0 0) a) 2 (ν 0 0) b) 0 0 (ν 0 0 + 1) 3 j = ν 3 j := fun j => by rw [wr_ne (by decide), wr_ne (by decide), wr_ne (by decide)]
  have e4 : ∀ j, wr (wr (wr ν 1 (ν 0 0) a) 2 (ν 0 0) b) 0 0 (ν 0 0 + 1) 4 j = ν 4 j := fun j => by rw [wr_ne (by decide), wr_ne (by decide), wr_ne (by decide)]
  have e5 : ∀ j, wr (wr (wr ν 1 (ν 0 0) a) 2 (ν 0 0) b) 0 0 (ν 0 0 + 1) 5 j = ν 5 j := fun j => by rw [wr_ne (by decide), wr_ne (by decide), wr_ne (by decide)]
  have e6 : wr (wr (wr ν 1 (ν 0 0) a) 2 (ν 0 0) b) 0 0 (ν 0 0 + 1) 6 = ν 6 := by rw [wr_ne (by decide), wr_ne (by decide), wr_ne (by decide)]
  have e00 : wr (wr (wr ν 1 (ν 0 0) a) 2 (ν 0 0) b) 0 0 (ν 0 0 + 1) 0 0 = ν 0 0 + 1 := wr_same
  have e01 : wr (wr (wr ν 1 (ν 0 0) a) 2 (ν 0 0) b) 0 0 (ν 0 0 + 1) 0 1 = ν 0 1 := by rw [wr_at, if_neg (by decide), wr_ne (by decide), wr_ne (by decide)]
  have e02 : wr (wr (wr ν 1 (ν 0 0) a) 2 (ν 0 0) b) 0 0 (ν 0 0 + 1) 0 2 = ν 0 2 := by rw [wr_at, if_neg (by decide), wr_ne (by decide), wr_ne (by decide)]
  have e1 : ∀ j, wr (wr (wr ν 1 (ν 0 0) a) 2 (ν 0 0) b) 0 0 (ν 0 0 + 1) 1 j = up (ν 1) (ν 0 0) a j := fun j => by rw [wr_ne (by decide), wr_ne (by decide), wr_at]; rfl
  have e2 : ∀ j, wr (wr (wr ν 1 (ν 0 0) a) 2 (ν 0 0) b) 0 0 (ν 0 0 + 1) 2 j = up (ν 2) (ν 0 0) b j := fun j => by rw [wr_ne (by decide), wr_at, wr_ne (by decide)]; rfl
  refine ⟨⟨by rw [e00]; exact h0, by rw [e01, h0']; exact g1.2.1, by rw [e02, h37]; exact g1.2.2⟩, ?_, ?_, ?_, ?_, ?_⟩
  · intro c q1 q2
    rw [e00] at q2
    rw [e1, e2, h1, h2]
    unfold up
    split
    · exact ⟨rfl, rfl⟩
    · exact g2 c q1 (by omega)
  · intro c q1 q2
    rw [e3, k (sp + 3) (by omega)]
    exact g3 c q1 q2
  · intro c r q1 q2 q3 q4
    rw [e00] at q2
    rw [e3] at q4
    rw [e4, k (sp + 4) (by omega)]
    by_cases e : c = ν 0 0
    · rw [e, hw] at q4
      omega
    · exact g4 c r q1 (by omega) q3 q4
  · intro p q1 q2
    rw [e01] at q2
    rw [e5, k (sp + 5) (by omega)]
    exact g5 p q1 q2
  · rw [e6]
    exact g6.gen (fun c q1 q2 => k c (by omega))
theorem WN.cross {ν : Mm} {a b : Int} (h : WN ν) (h9 : ν 0 0 < 9) (ha : 0 ≤ a ∧ a ≤ 9) (hb : 0 ≤ b ∧ b ≤ 1) : WN (wr (wr (wr ν 1 (ν 0 0) a) 2 (ν 0 0) b) 0 0 (ν 0 0 + 1)) := by
  obtain ⟨g1, g2, g3, g4, g5, g6, g7, g8, g9, g10⟩ := h
  have e3 : wr (wr (wr ν 1 (ν 0 0) a) 2 (ν 0 0) b) 0 0 (ν 0 0 + 1) 3 = ν 3 := by rw [wr_ne (by decide), wr_ne (by decide), wr_ne (by decide)]
  have e4 : wr (wr (wr ν 1 (ν 0 0) a) 2 (ν 0 0) b) 0 0 (ν 0 0 + 1) 4 = ν 4 := by rw [wr_ne (by decide), wr_ne (by decide), wr_ne (by decide)]
  have e5 : wr (wr (wr ν 1 (ν 0 0) a) 2 (ν 0 0) b) 0 0 (ν 0 0 + 1) 5 = ν 5 := by rw [wr_ne (by decide), wr_ne (by decide), wr_ne (by decide)]
  have e6 : wr (wr (wr ν 1 (ν 0 0) a) 2 (ν 0 0) b) 0 0 (ν 0 0 + 1) 6 = ν 6 := by rw [wr_ne (by decide), wr_ne (by decide), wr_ne (by decide)]
  have e00 : wr (wr (wr ν 1 (ν 0 0) a) 2 (ν 0 0) b) 0 0 (ν 0 0 + 1) 0 0 = ν 0 0 + 1 := wr_same
  have e01 : wr (wr (wr ν 1 (ν 0 0) a) 2 (ν 0 0) b) 0 0 (ν 0 0 + 1) 0 1 = ν 0 1 := by rw [wr_at, if_neg (by decide), wr_ne (by decide), wr_ne (by decide)]
  have e02 : wr (wr (wr ν 1 (ν 0 0) a) 2 (ν 0 0) b) 0 0 (ν 0 0 + 1) 0 2 = ν 0 2 := by rw [wr_at, if_neg (by decide), wr_ne (by decide), wr_ne (by decide)]
  have e1 : ∀ j, wr (wr (wr ν 1 (ν 0 0) a) 2 (ν 0 0) b) 0 0 (ν 0 0 + 1) 1 j = up (ν 1) (ν 0 0) a j := fun j => by rw [wr_ne (by decide), wr_ne (by decide), wr_at]; rfl
  have e2 : ∀ j, wr (wr (wr ν 1 (ν 0 0) a) 2 (ν 0 0) b) 0 0 (ν 0 0 + 1) 2 j = up (ν 2) (ν 0 0) b j := fun j => by rw [wr_ne (by decide), wr_at, wr_ne (by decide)]; rfl
  unfold WN
  rw [e00, e01, e02, e3, e4, e5, e6]
  refine ⟨by omega, g2, g3, g4, fun c q1 q2 => g5 c (by omega) q2, fun c q1 q2 => ?_, fun c r q1 q2 q3 q4 => ?_, fun p q1 q2 => ?_, g9, g10⟩
  · rw [e1, e2]
    unfold up
    split
    · exact ⟨ha.1, ha.2, hb.1, hb.2⟩
    · exact g6 c q1 (by omega)
  · by_cases e : c = ν 0 0
    · have := g5 c (by omega) (by omega)
      omega
    · have := g7 c r q1 (by omega) q3 q4
      omega
  · have := g8 p q1 q2
    omega
theorem sp_readCrossing {l : Launch} {γ : Gh} {ρ m : Mm} {t : Int → Int} {n sp u : Int} {s : PS} {ν : Mm} {Q : Int → List Int} (hL : LY ρ) (hB : BY t) (hn : 0 ≤ n ∧ n ≤ 700) (hLR : LR ρ m t n sp u s ν Q) (h1 : s.1 = 1) : gE l γ μX3_readCrossing 8 0 0 (rI KK fun x ρ9 m9 => ρ = ρ9 ∧ MR m9 ∧ LR ρ9 m9 t n sp u (rC9 t n s ν).1 (rC9 t n s ν).2 Q ∧ (rC9 t n s ν).1.1 = x ∧ FL sp m m9) xN KK ρ m [vR 37] := by
  refine gE.ofw cl_X3.2 ?_ rfl rfl (Nat.le_of_ble_eq_true rfl)
  show gT l γ μX3_readCrossing 8 0 0 _ _ KK ρ m 0 [some (vR 37), none] []
  have hD := hLR.d
  have hR := hD.r
  have hsp := hLR.s3
  have hp := hD.p
  have hr9 := tk_rg (n := n) hB hp
  have hW := hLR.w
  have hw0 := hW.1
  have hw1 := hW.2.1
  have hw2 := hW.2.2.1
  have hN := hLR.nl
  have hn0 := hN.1
  have hu4 := hD.u4
  unfold isR4 at hu4
  refine tz_aload0 (n := 1) (g_at ck_X3_readCrossing 0 rfl) rfl (g_ne kd_37) ?_
  refine tz_getOv (n := 4) (a := sp) fk_X3_20 kd_37 hLR.ls (g_at ck_X3_readCrossing 1 rfl) rfl ?_
  refine tz_getIw (n := 7) (kz := 0) fk_X3_113 (isS_of hL hLR.s3).k0 (g_at ck_X3_readCrossing 2 rfl) rfl rfl ?_
  rw [hn0.1]
  refine tz_bipush (n := 9) (g_at ck_X3_readCrossing 3 rfl) rfl rfl ?_
  refine tz_icmp_lt (n := 12) (tgt := 18) (g_at ck_X3_readCrossing 4 rfl) rfl rfl ⟨by omega, by omega, by decide, by decide⟩ (fun h9 => ?_) (fun h9 => ?_)
  · skip
    refine tz_aload0 (n := 19) (g_at ck_X3_readCrossing 9 rfl) rfl (g_ne kd_37) ?_
    refine tz_getOv (n := 22) (a := 38) fk_X3_14 kd_37 (ly_37_0 hL) (g_at ck_X3_readCrossing 10 rfl) rfl ?_
    refine tz_cvV0 (n := 25) (μ' := μX7_advance) (cb' := 0) (sb' := 0) ml_X3_101 mo_X7_advance mv_X7_advance np_X7_advance kd_38 (g_at ck_X3_readCrossing 11 rfl) (sp_advance hL hR hB hn (show 0 ≤ tQ t n (sP s) ∧ tQ t n (sP s) ≤ n by have := tk_rg (n := n) hB hLR.d.p; have := hLR.d.p; omega) hLR.d.tk.1 hLR.d.tk.2.1 hLR.d.tk.q) rfl rfl rfl ⟨by decide, by decide⟩ (Nat.le_of_ble_eq_true rfl) (by decide) (by decide) (fun ρ9 m22 hq => ?_)
    obtain ⟨rfl, hR1, hF22, hC22⟩ := hq
    have hLR22 : LR ρ m22 t n sp u (nx9 t n s) ν Q := hLR.st (hLR.d.nx hB hR1 hF22 hC22) (FE.tok hF22) rfl
    have hF22 : FL sp m m22 := FL.fe hD.u4 (FE.tok (u := u) hF22)
    refine tz_aload0 (n := 26) (g_at ck_X3_readCrossing 12 rfl) rfl (g_ne kd_37) ?_
    refine tz_bipush (n := 28) (g_at ck_X3_readCrossing 13 rfl) rfl rfl ?_
    refine tz_cvI1 (n := 31) (μ' := μX3_isNumberTo) (cb' := 0) (sb' := 0) ml_X3_116 mo_X3_isNumberTo mv_X3_isNumberTo np_X3_isNumberTo kd_37 (g_at ck_X3_readCrossing 14 rfl) (sq_isNumberTo hL hB hn hLR22.d h1 (by omega)) rfl rfl rfl ⟨by decide, by decide⟩ (Nat.le_of_ble_eq_true rfl) (by decide) (by decide) (fun x28 ρ9 m28 hq => ?_)
    obtain ⟨rfl, hR2, hD28, hx28, hF28⟩ := hq
    have hLR28 : LR ρ m28 t n sp u (nt9 t n 9 (nx9 t n s)) ν Q := hLR22.st hD28 hF28 nt9_l
    have ho28 := hD28.o
    have hF28 : FL sp m22 m28 := FL.fe hD.u4 hF28
    refine tz_if_ne (n := 34) (tgt := 36) (g_at ck_X3_readCrossing 15 rfl) rfl rfl (by omega) (fun h31 => ?_) (fun h31 => ?_)
    · skip
      have hok28 := nt9_1 (t := t) (n := n) (k := 9) (s := (nx9 t n s)) (by omega)
      have hLS28 : LR ρ m28 t n sp u (nx9 t n s) ν Q := by have h8 := hLR28; rw [hok28.1] at h8; exact h8
      refine tz_aload0 (n := 37) (g_at ck_X3_readCrossing 18 rfl) rfl (g_ne kd_37) ?_
      refine tz_cvI0 (n := 40) (μ' := μX3_take) (cb' := 0) (sb' := 0) ml_X3_119 mo_X3_take mv_X3_take np_X3_take kd_37 (g_at ck_X3_readCrossing 19 rfl) (sp_take hL hB hn hLS28.d hok28.2.1) rfl rfl rfl ⟨by decide, by decide⟩ (Nat.le_of_ble_eq_true rfl) (by decide) (by decide) (fun x37 ρ9 m37 hq => ?_)
      obtain ⟨rfl, hR3, hD37, rfl, hF37⟩ := hq
      have hLR37 : LR ρ m37 t n sp u (nx9 t n (nx9 t n s)) ν Q := hLS28.st hD37 hF37 rfl
      have hG37 := hF37
      have hF37 : FL sp m28 m37 := FL.fe hD.u4 hF37
      refine tz_istore1 (n := 41) (g_at ck_X3_readCrossing 20 rfl) rfl (by decide) g_hpR ?_
      refine tz_aload0 (n := 42) (g_at ck_X3_readCrossing 21 rfl) rfl (g_ne kd_37) ?_
      refine tz_iconst (n := 43) (g_at ck_X3_readCrossing 22 rfl) rfl ?_
      refine tz_cvI1 (n := 46) (μ' := μX3_isNumberTo) (cb' := 0) (sb' := 0) ml_X3_116 mo_X3_isNumberTo mv_X3_isNumberTo np_X3_isNumberTo kd_37 (g_at ck_X3_readCrossing 23 rfl) (sq_isNumberTo hL hB hn hLR37.d h1 (by omega)) rfl rfl rfl ⟨by decide, by decide⟩ (Nat.le_of_ble_eq_true rfl) (by decide) (by decide) (fun x43 ρ9 m43 hq => ?_)
      obtain ⟨rfl, hR4, hD43, hx43, hF43⟩ := hq
      have hLR43 : LR ρ m43 t n sp u (nt9 t n 1 (nx9 t n (nx9 t n s))) ν Q := hLR37.st hD43 hF43 nt9_l
      have ho43 := hD43.o
      have hF43 : FL sp m37 m43 := FL.fe hD.u4 hF43
      refine tz_if_ne (n := 49) (tgt := 51) (g_at ck_X3_readCrossing 24 rfl) rfl rfl (by omega) (fun h46 => ?_) (fun h46 => ?_)
      · skip
        have hok43 := nt9_1 (t := t) (n := n) (k := 1) (s := (nx9 t n (nx9 t n s))) (by omega)
        have hLS43 : LR ρ m43 t n sp u (nx9 t n (nx9 t n s)) ν Q := by have h8 := hLR43; rw [hok43.1] at h8; exact h8
        have hn43 := hLS43.nl
        have h430 := hn43.1.1
        refine tz_aload0 (n := 52) (g_at ck_X3_readCrossing 27 rfl) rfl (g_ne kd_37) ?_
        refine tz_getOv (n := 55) (a := sp) fk_X3_20 kd_37 hLR.ls (g_at ck_X3_readCrossing 28 rfl) rfl ?_
        refine tz_getAv (n := 58) (a := (sp + 1)) fk_X3_123 (isS_of hL hLR.s3).k0 (isS_of hL hLR.s3).r0_2 (g_at ck_X3_readCrossing 29 rfl) rfl ?_
        refine tz_aload0 (n := 59) (g_at ck_X3_readCrossing 30 rfl) rfl (g_ne kd_37) ?_
        refine tz_getOv (n := 62) (a := sp) fk_X3_20 kd_37 hLR.ls (g_at ck_X3_readCrossing 31 rfl) rfl ?_
        refine tz_getIw (n := 65) (kz := 0) fk_X3_113 (isS_of hL hLR.s3).k0 (g_at ck_X3_readCrossing 32 rfl) rfl rfl ?_
        rw [h430]
        refine tz_iload1 (n := 66) (g_at ck_X3_readCrossing 33 rfl) rfl ?_
        refine tz_iastr (n := 67) (isS_of hL hLR.s3).k1 (by omega) (g_at ck_X3_readCrossing 34 rfl) rfl hR4 (by omega) (fun hR5 => ?_)
        have hD51 : RD ρ (wr m43 (sp + 1) (ν 0 0) (tV t n (sP (nx9 t n s)))) t n u (nx9 t n (nx9 t n s)) := hLS43.d.fr hR5 (fun a ha => wr_ne (by omega))
        refine tz_aload0 (n := 68) (g_at ck_X3_readCrossing 35 rfl) rfl (g_ne kd_37) ?_
        refine tz_getOv (n := 71) (a := sp) fk_X3_20 kd_37 hLR.ls (g_at ck_X3_readCrossing 36 rfl) rfl ?_
        refine tz_getAv (n := 74) (a := (sp + 2)) fk_X3_127 (isS_of hL hLR.s3).k0 (isS_of hL hLR.s3).r0_3 (g_at ck_X3_readCrossing 37 rfl) rfl ?_
        refine tz_aload0 (n := 75) (g_at ck_X3_readCrossing 38 rfl) rfl (g_ne kd_37) ?_
        refine tz_getOv (n := 78) (a := sp) fk_X3_20 kd_37 hLR.ls (g_at ck_X3_readCrossing 39 rfl) rfl ?_
        refine tz_getIw (n := 81) (kz := 0) fk_X3_113 (isS_of hL hLR.s3).k0 (g_at ck_X3_readCrossing 40 rfl) rfl rfl ?_
        rw [wr_ne (show sp ≠ sp + 1 by omega), h430]
        refine tz_aload0 (n := 82) (g_at ck_X3_readCrossing 41 rfl) rfl (g_ne kd_37) ?_
        refine tz_cvI0 (n := 85) (μ' := μX3_take) (cb' := 0) (sb' := 0) ml_X3_119 mo_X3_take mv_X3_take np_X3_take kd_37 (g_at ck_X3_readCrossing 42 rfl) (sp_take hL hB hn hD51 hok43.2.1) rfl rfl rfl ⟨by decide, by decide⟩ (Nat.le_of_ble_eq_true rfl) (by decide) (by decide) (fun x82 ρ9 m82 hq => ?_)
        obtain ⟨rfl, hR6, hD82, rfl, hF82⟩ := hq
        refine tz_iastr (n := 86) (isS_of hL hLR.s3).k2 (by omega) (g_at ck_X3_readCrossing 43 rfl) rfl hR6 (by omega) (fun hR7 => ?_)
        refine tz_aload0 (n := 87) (g_at ck_X3_readCrossing 44 rfl) rfl (g_ne kd_37) ?_
        refine tz_getOv (n := 90) (a := sp) fk_X3_20 kd_37 hLR.ls (g_at ck_X3_readCrossing 45 rfl) rfl ?_
        refine tz_dupR (n := 91) (g_at ck_X3_readCrossing 46 rfl) rfl ?_
        refine tz_getIw (n := 94) (kz := 0) fk_X3_113 (isS_of hL hLR.s3).k0 (g_at ck_X3_readCrossing 47 rfl) rfl rfl ?_
        have h82 : ∀ a, sp ≤ a → a ≤ sp + 16 → ¬ (a = 9 ∨ a = 10 ∨ a = 12 ∨ a = 13 ∨ a = 26 ∨ a = 27 ∨ a = 29 ∨ a = 30) → m82 a = (wr m43 (sp + 1) (ν 0 0) (tV t n (sP (nx9 t n s)))) a := fun a q1 q2 q3 => hF82.1 a (by omega) (by omega) (by omega) (by omega)
        rw [wr_ne (show sp ≠ sp + 2 by omega), h82 sp (by omega) (by omega) (by omega), wr_ne (show sp ≠ sp + 1 by omega), h430]
        refine tz_iconst (n := 95) (g_at ck_X3_readCrossing 48 rfl) rfl ?_
        refine tz_iadd (n := 96) (g_at ck_X3_readCrossing 49 rfl) rfl ?_
        refine tz_putIr (n := 99) (kz := 0) fk_X3_113 (isS_of hL hLR.s3).k0 (g_at ck_X3_readCrossing 50 rfl) rfl hR7 (by omega) rfl (fun hR8 => ?_)
        refine tz_iconst (n := 100) (g_at ck_X3_readCrossing 51 rfl) rfl ?_
        exact tz_bret (g_at ck_X3_readCrossing 52 rfl) rfl (by decide) (rI_mk ⟨rfl, hR8, by unfold rC9; rw [if_neg (by omega), if_pos (by omega), if_pos (by omega)]; exact ⟨hD82.fr hR8 (fun a ha => by rw [wr_ne (by omega), wr_ne (by omega)]), hLR.ls, hLR.s3, hn43.cross (by rw [wr_same]) (by rw [wr_at, if_neg (by decide), wr_ne (by omega), h82 sp (by omega) (by omega) (by omega), wr_ne (by omega)]) (by rw [wr_ne (by omega), wr_ne (by omega), hF82.2 3 (by decide) (by decide), wr_ne (by omega)]) (by rw [wr_ne (by omega), wr_ne (by omega), h82 _ (by omega) (by omega) (by omega), wr_eq, upA_at]) (by rw [wr_ne (by omega), wr_eq, upA_at, h82 _ (by omega) (by omega) (by omega), wr_ne (by omega)]) (fun c hc => by rw [wr_ne (by omega), wr_ne (by omega), h82 _ (by omega) (by omega) (by omega), wr_ne (by omega)]) (hW.2.2.2.2.1 _ (Int.le_refl _) (by omega)), hW.cross (by omega) (by omega) (by omega), (R4.fr (by have k8 := hLS43.q; have k9 := (k8.fr (m9 := (wr m43 (sp + 1) (ν 0 0) (tV t n (sP (nx9 t n s))))) (fun a ha => wr_ne (by omega))).fe hD.u4 hF82 hD82.l; rw [upQ_self (show sL (nx9 t n (nx9 t n (nx9 t n s))) = Q u from hLR.l)] at k9; exact k9) (fun a ha => by rw [wr_ne (by omega), wr_ne (by omega)])), hLR.l⟩, by unfold rC9; rw [if_neg (by omega), if_pos (by omega), if_pos (by omega)]; exact h1, (((((hF22.tr hF28).tr hF37).tr hF43).wr (by omega)).tr (FL.fe hD.u4 hF82)).wr (by omega) |>.wr (by omega)⟩)
      · skip
        refine tz_iconst (n := 50) (g_at ck_X3_readCrossing 25 rfl) rfl ?_
        exact tz_bret (g_at ck_X3_readCrossing 26 rfl) rfl (by decide) (rI_mk ⟨rfl, hR4, by unfold rC9; rw [if_neg (by omega), if_pos (by omega), if_neg (by omega)]; exact hLR43, by unfold rC9; rw [if_neg (by omega), if_pos (by omega), if_neg (by omega)]; exact (show (nt9 t n 1 (nx9 t n (nx9 t n s))).1 = 0 by omega), ((hF22.tr hF28).tr hF37).tr hF43⟩)
    · skip
      refine tz_iconst (n := 35) (g_at ck_X3_readCrossing 16 rfl) rfl ?_
      exact tz_bret (g_at ck_X3_readCrossing 17 rfl) rfl (by decide) (rI_mk ⟨rfl, hR2, by unfold rC9; rw [if_neg (by omega), if_neg (by omega)]; exact hLR28, by unfold rC9; rw [if_neg (by omega), if_neg (by omega)]; exact (show (nt9 t n 9 (nx9 t n s)).1 = 0 by omega), hF22.tr hF28⟩)
  · skip
    refine tz_aload0 (n := 13) (g_at ck_X3_readCrossing 5 rfl) rfl (g_ne kd_37) ?_
    refine tz_iconst (n := 14) (g_at ck_X3_readCrossing 6 rfl) rfl ?_
    refine tz_cvI1 (n := 17) (μ' := μX3_fail) (cb' := 0) (sb' := 0) ml_X3_93 mo_X3_fail mv_X3_fail np_X3_fail kd_37 (g_at ck_X3_readCrossing 7 rfl) (sp_fail hL hB hn hLR.d (by decide)) rfl rfl rfl ⟨by decide, by decide⟩ (Nat.le_of_ble_eq_true rfl) (by decide) (by decide) (fun x14 ρ9 m14 hq => ?_)
    obtain ⟨rfl, hR9, hD14, hx14, hF14⟩ := hq
    have hz14 : x14 = 0 := hx14.symm
    have hLF14 := hLR.st hD14 hF14 rfl
    exact tz_bret (g_at ck_X3_readCrossing 8 rfl) rfl (Or.inl hz14) (rI_mk ⟨rfl, hR9, by unfold rC9; rw [if_pos (by omega)]; exact hLF14, by unfold rC9; rw [if_pos (by omega)]; exact hx14, FL.fe hD.u4 hF14⟩)
