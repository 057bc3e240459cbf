/-! Rules: the deepest expression; all depths. -/
theorem cb9_0 {t : Int → Int} {n p : Int} (h : cb9 t n p = 0) : tK t n p ≠ 2 ∧ tK t n p ≠ 1 ∧ tK t n p ≠ 40 := by
  have := ite10n h
  omega
theorem cb9_w {t : Int → Int} {n p : Int} (h : cb9 t n p = 0) (i : Nat) : wdI t n p i = 0 := if_neg (fun h9 => (cb9_0 h).2.1 h9.1)
def Cz (l : Launch) (γ : Gh) (ρ : Mm) (t : Int → Int) (n : Int) (μ : MD) (d : Nat) : Prop := ∀ (u : Int) (m : Mm) (s : PS), RD ρ m t n u s → s.1 = 1 → cb9 t n (sP s) = 0 → gE l γ μ d 0 0 (rI KK fun x ρ9 m9 => ρ = ρ9 ∧ MR m9 ∧ RD ρ9 m9 t n u (fl9 t n 1 s) ∧ (fl9 t n 1 s).1 = x ∧ FE u m m9) xN KK ρ m [vR 37, vI 6]
theorem sz_readPart {l : Launch} {γ : Gh} {ρ m : Mm} {t : Int → Int} {n u : Int} {s : PS} (hL : LY ρ) (hB : BY t) (hn : 0 ≤ n ∧ n ≤ 700) (hD : RD ρ m t n u s) (h1 : s.1 = 1) (hz : cb9 t n (sP s) = 0) : gE l γ μX3_readPart 2 0 0 (rI KK fun x ρ9 m9 => ρ = ρ9 ∧ MR m9 ∧ RD ρ9 m9 t n u (fl9 t n 1 s) ∧ (fl9 t n 1 s).1 = x ∧ FE u m m9) xN KK ρ m [vR 37, vI 6] := by
  refine gE.ofw cl_X3.2 ?_ rfl rfl (Nat.le_of_ble_eq_true rfl)
  show gT l γ μX3_readPart 2 0 0 _ _ KK ρ m 0 [some (vR 37), some (vI 6)] []
  have hR := hD.r
  have hp := hD.p
  have hr9 := tk_rg (n := n) hB hp
  have hu4 := hD.u4
  unfold isR4 at hu4
  have hk := cb9_0 hz
  refine tz_aload0 (n := 1) (g_at ck_X3_readPart 0 rfl) rfl (g_ne kd_37) ?_
  refine tz_getOv (n := 4) (a := 38) fk_X3_14 kd_37 (ly_37_0 hL) (g_at ck_X3_readPart 1 rfl) rfl ?_
  refine tz_getIw (n := 7) (kz := 3) fk_X3_47 kd_38 (g_at ck_X3_readPart 2 rfl) rfl rfl ?_
  rw [hD.tk.k]
  refine tz_bipush (n := 9) (g_at ck_X3_readPart 3 rfl) rfl rfl ?_
  refine tz_icmp_ne (n := 12) (tgt := 44) (g_at ck_X3_readPart 4 rfl) rfl rfl ⟨by omega, by omega, by decide, by decide⟩ (fun h9 => ?_) (fun h9 => absurd h9 (by omega))
  refine tz_aload0 (n := 45) (g_at ck_X3_readPart 22 rfl) rfl (g_ne kd_37) ?_
  refine tz_getOv (n := 48) (a := 38) fk_X3_14 kd_37 (ly_37_0 hL) (g_at ck_X3_readPart 23 rfl) rfl ?_
  refine tz_getIw (n := 51) (kz := 3) fk_X3_47 kd_38 (g_at ck_X3_readPart 24 rfl) rfl rfl ?_
  rw [hD.tk.k]
  refine tz_iconst (n := 52) (g_at ck_X3_readPart 25 rfl) rfl ?_
  refine tz_icmp_ne (n := 55) (tgt := 60) (g_at ck_X3_readPart 26 rfl) rfl rfl ⟨by omega, by omega, by decide, by decide⟩ (fun h52 => ?_) (fun h52 => absurd h52 (by omega))
  refine tz_aload0 (n := 61) (g_at ck_X3_readPart 30 rfl) rfl (g_ne kd_37) ?_
  refine tz_cvI0 (n := 64) (μ' := μX3_isNumber) (cb' := 0) (sb' := 0) ml_X3_107 mo_X3_isNumber mv_X3_isNumber np_X3_isNumber kd_37 (g_at ck_X3_readPart 31 rfl) (sp_isNumber hL hB hn hD h1) rfl rfl rfl ⟨by decide, by decide⟩ (Nat.le_of_ble_eq_true rfl) (by decide) (by decide) (fun x61 ρ9 m61 hq => ?_)
  obtain ⟨rfl, hR1, hD61, hx61, hF61⟩ := hq
  have hnm : nm9 t n s = fl9 t n 1 s := if_neg hk.1
  rw [hnm] at hD61 hx61
  have hx61 : x61 = 0 := hx61.symm
  refine tz_if_ne (n := 67) (tgt := 69) (g_at ck_X3_readPart 32 rfl) rfl rfl (by omega) (fun h64 => absurd h64 (by omega)) (fun h64 => ?_)
  refine tz_iconst (n := 68) (g_at ck_X3_readPart 33 rfl) rfl ?_
  exact tz_bret (g_at ck_X3_readPart 34 rfl) rfl (by decide) (rI_mk ⟨rfl, hR1, hD61, rfl, hF61⟩)
theorem sz_readProduct {l : Launch} {γ : Gh} {ρ m : Mm} {t : Int → Int} {n u : Int} {s : PS} (hL : LY ρ) (hB : BY t) (hn : 0 ≤ n ∧ n ≤ 700) (hD : RD ρ m t n u s) (h1 : s.1 = 1) (hz : cb9 t n (sP s) = 0) (hP : Cz l γ ρ t n μX3_readPart 2) : gE l γ μX3_readProduct 3 0 0 (rI KK fun x ρ9 m9 => ρ = ρ9 ∧ MR m9 ∧ RD ρ9 m9 t n u (fl9 t n 1 s) ∧ (fl9 t n 1 s).1 = x ∧ FE u m m9) xN KK ρ m [vR 37, vI 6] := by
  refine gE.ofw cl_X3.2 ?_ rfl rfl (Nat.le_of_ble_eq_true rfl)
  show gT l γ μX3_readProduct 3 0 0 _ _ KK ρ m 0 [some (vR 37), some (vI 6), none, none, none] []
  have hR := hD.r
  have hp := hD.p
  have hr9 := tk_rg (n := n) hB hp
  have hu4 := hD.u4
  unfold isR4 at hu4
  have hk := cb9_0 hz
  refine tz_aload0 (n := 1) (g_at ck_X3_readProduct 0 rfl) rfl (g_ne kd_37) ?_
  refine tz_iload1 (n := 2) (g_at ck_X3_readProduct 1 rfl) rfl ?_
  refine tz_cvI1 (n := 5) (μ' := μX3_readPart) (cb' := 0) (sb' := 0) ml_X3_194 mo_X3_readPart mv_X3_readPart np_X3_readPart kd_37 (g_at ck_X3_readProduct 2 rfl) (hP u _ s hD h1 hz) rfl rfl rfl ⟨by decide, by decide⟩ (Nat.le_of_ble_eq_true rfl) (by decide) (by decide) (fun x2 ρ9 m2 hq => ?_)
  obtain ⟨rfl, hR1, hD2, hx2, hF2⟩ := hq
  have hx2 : x2 = 0 := hx2.symm
  subst hx2
  refine tz_istore2 (n := 6) (g_at ck_X3_readProduct 3 rfl) rfl (by decide) g_hpI ?_
  refine tz_iconst (n := 7) (g_at ck_X3_readProduct 4 rfl) rfl ?_
  refine tz_istore3 (n := 8) (g_at ck_X3_readProduct 5 rfl) rfl (by decide) g_hpI ?_
  refine tz_iload3 (n := 9) (g_at ck_X3_readProduct 6 rfl) rfl ?_
  refine tz_sipush (n := 12) (g_at ck_X3_readProduct 7 rfl) rfl rfl ?_
  refine tz_icmp_ge (n := 15) (tgt := 92) (g_at ck_X3_readProduct 8 rfl) rfl rfl (by decide) (fun h12 => absurd h12 (by omega)) (fun h12 => ?_)
  refine tz_iload2 (n := 16) (g_at ck_X3_readProduct 9 rfl) rfl ?_
  refine tz_if_eq (n := 19) (tgt := 92) (g_at ck_X3_readProduct 10 rfl) rfl rfl (by decide) (fun h16 => ?_) (fun h16 => absurd h16 (by omega))
  refine tz_iload2 (n := 93) (g_at ck_X3_readProduct 43 rfl) rfl ?_
  exact tz_bret (g_at ck_X3_readProduct 44 rfl) rfl (by decide) (rI_mk ⟨rfl, hR1, hD2, rfl, hF2⟩)
theorem sz_readSum {l : Launch} {γ : Gh} {ρ m : Mm} {t : Int → Int} {n u : Int} {s : PS} (hL : LY ρ) (hB : BY t) (hn : 0 ≤ n ∧ n ≤ 700) (hD : RD ρ m t n u s) (h1 : s.1 = 1) (hz : cb9 t n (sP s) = 0) (hP : Cz l γ ρ t n μX3_readProduct 3) : gE l γ μX3_readSum 4 0 0 (rI KK fun x ρ9 m9 => ρ = ρ9 ∧ MR m9 ∧ RD ρ9 m9 t n u (fl9 t n 1 s) ∧ (fl9 t n 1 s).1 = x ∧ FE u m m9) xN KK ρ m [vR 37, vI 6] := by
  refine gE.ofw cl_X3.2 ?_ rfl rfl (Nat.le_of_ble_eq_true rfl)
  show gT l γ μX3_readSum 4 0 0 _ _ KK ρ m 0 [some (vR 37), some (vI 6), none, none, none] []
  have hR := hD.r
  have hp := hD.p
  have hr9 := tk_rg (n := n) hB hp
  have hu4 := hD.u4
  unfold isR4 at hu4
  have hk := cb9_0 hz
  refine tz_aload0 (n := 1) (g_at ck_X3_readSum 0 rfl) rfl (g_ne kd_37) ?_
  refine tz_iload1 (n := 2) (g_at ck_X3_readSum 1 rfl) rfl ?_
  refine tz_cvI1 (n := 5) (μ' := μX3_readProduct) (cb' := 0) (sb' := 0) ml_X3_191 mo_X3_readProduct mv_X3_readProduct np_X3_readProduct kd_37 (g_at ck_X3_readSum 2 rfl) (hP u _ s hD h1 hz) rfl rfl rfl ⟨by decide, by decide⟩ (Nat.le_of_ble_eq_true rfl) (by decide) (by decide) (fun x2 ρ9 m2 hq => ?_)
  obtain ⟨rfl, hR1, hD2, hx2, hF2⟩ := hq
  have hx2 : x2 = 0 := hx2.symm
  subst hx2
  refine tz_istore2 (n := 6) (g_at ck_X3_readSum 3 rfl) rfl (by decide) g_hpI ?_
  refine tz_iconst (n := 7) (g_at ck_X3_readSum 4 rfl) rfl ?_
  refine tz_istore3 (n := 8) (g_at ck_X3_readSum 5 rfl) rfl (by decide) g_hpI ?_
  refine tz_iload3 (n := 9) (g_at ck_X3_readSum 6 rfl) rfl ?_
  refine tz_sipush (n := 12) (g_at ck_X3_readSum 7 rfl) rfl rfl ?_
  refine tz_icmp_ge (n := 15) (tgt := 92) (g_at ck_X3_readSum 8 rfl) rfl rfl (by decide) (fun h12 => absurd h12 (by omega)) (fun h12 => ?_)
  refine tz_iload2 (n := 16) (g_at ck_X3_readSum 9 rfl) rfl ?_
  refine tz_if_eq (n := 19) (tgt := 92) (g_at ck_X3_readSum 10 rfl) rfl rfl (by decide) (fun h16 => ?_) (fun h16 => absurd h16 (by omega))
  refine tz_iload2 (n := 93) (g_at ck_X3_readSum 43 rfl) rfl ?_
  exact tz_bret (g_at ck_X3_readSum 44 rfl) rfl (by decide) (rI_mk ⟨rfl, hR1, hD2, rfl, hF2⟩)
theorem sz_readTest {l : Launch} {γ : Gh} {ρ m : Mm} {t : Int → Int} {n u : Int} {s : PS} (hL : LY ρ) (hB : BY t) (hn : 0 ≤ n ∧ n ≤ 700) (hD : RD ρ m t n u s) (h1 : s.1 = 1) (hz : cb9 t n (sP s) = 0) (hP : Cz l γ ρ t n μX3_readSum 4) : gE l γ μX3_readTest 5 0 0 (rI KK fun x ρ9 m9 => ρ = ρ9 ∧ MR m9 ∧ RD ρ9 m9 t n u (fl9 t n 1 s) ∧ (fl9 t n 1 s).1 = x ∧ FE u m m9) xN KK ρ m [vR 37, vI 6] := by
  refine gE.ofw cl_X3.2 ?_ rfl rfl (Nat.le_of_ble_eq_true rfl)
  show gT l γ μX3_readTest 5 0 0 _ _ KK ρ m 0 [some (vR 37), some (vI 6), none, none] []
  have hR := hD.r
  have hp := hD.p
  have hr9 := tk_rg (n := n) hB hp
  have hu4 := hD.u4
  unfold isR4 at hu4
  have hk := cb9_0 hz
  refine tz_aload0 (n := 1) (g_at ck_X3_readTest 0 rfl) rfl (g_ne kd_37) ?_
  refine tz_iload1 (n := 2) (g_at ck_X3_readTest 1 rfl) rfl ?_
  refine tz_cvI1 (n := 5) (μ' := μX3_readSum) (cb' := 0) (sb' := 0) ml_X3_188 mo_X3_readSum mv_X3_readSum np_X3_readSum kd_37 (g_at ck_X3_readTest 2 rfl) (hP u _ s hD h1 hz) rfl rfl rfl ⟨by decide, by decide⟩ (Nat.le_of_ble_eq_true rfl) (by decide) (by decide) (fun x2 ρ9 m2 hq => ?_)
  obtain ⟨rfl, hR1, hD2, hx2, hF2⟩ := hq
  have hx2 : x2 = 0 := hx2.symm
  subst hx2
  refine tz_istore2 (n := 6) (g_at ck_X3_readTest 3 rfl) rfl (by decide) g_hpI ?_
  refine tz_iload2 (n := 7) (g_at ck_X3_readTest 4 rfl) rfl ?_
  refine tz_if_eq (n := 10) (tgt := 75) (g_at ck_X3_readTest 5 rfl) rfl rfl (by decide) (fun h7 => ?_) (fun h7 => absurd h7 (by omega))
  refine tz_iload2 (n := 76) (g_at ck_X3_readTest 36 rfl) rfl ?_
  exact tz_bret (g_at ck_X3_readTest 37 rfl) rfl (by decide) (rI_mk ⟨rfl, hR1, hD2, rfl, hF2⟩)
theorem sz_readNot {l : Launch} {γ : Gh} {ρ m : Mm} {t : Int → Int} {n u : Int} {s : PS} (hL : LY ρ) (hB : BY t) (hn : 0 ≤ n ∧ n ≤ 700) (hD : RD ρ m t n u s) (h1 : s.1 = 1) (hz : cb9 t n (sP s) = 0) (hP : Cz l γ ρ t n μX3_readTest 5) : gE l γ μX3_readNot 6 0 0 (rI KK fun x ρ9 m9 => ρ = ρ9 ∧ MR m9 ∧ RD ρ9 m9 t n u (fl9 t n 1 s) ∧ (fl9 t n 1 s).1 = x ∧ FE u m m9) xN KK ρ m [vR 37, vI 6] := by
  refine gE.ofw cl_X3.2 ?_ rfl rfl (Nat.le_of_ble_eq_true rfl)
  show gT l γ μX3_readNot 6 0 0 _ _ KK ρ m 0 [some (vR 37), some (vI 6), none, none, none] []
  have hR := hD.r
  have hp := hD.p
  have hr9 := tk_rg (n := n) hB hp
  have hu4 := hD.u4
  unfold isR4 at hu4
  have hk := cb9_0 hz
  refine tz_iconst (n := 1) (g_at ck_X3_readNot 0 rfl) rfl ?_
  refine tz_istore2 (n := 2) (g_at ck_X3_readNot 1 rfl) rfl (by decide) g_hpI ?_
  refine tz_iload2 (n := 3) (g_at ck_X3_readNot 2 rfl) rfl ?_
  refine tz_bipush (n := 5) (g_at ck_X3_readNot 3 rfl) rfl rfl ?_
  refine tz_icmp_ge (n := 8) (tgt := 33) (g_at ck_X3_readNot 4 rfl) rfl rfl (by decide) (fun h5 => absurd h5 (by omega)) (fun h5 => ?_)
  refine tz_aload0 (n := 9) (g_at ck_X3_readNot 5 rfl) rfl (g_ne kd_37) ?_
  refine tz_getOv (n := 12) (a := 38) fk_X3_14 kd_37 (ly_37_0 hL) (g_at ck_X3_readNot 6 rfl) rfl ?_
  refine tz_ldcSw (n := 14) st_7 (g_at ck_X3_readNot 7 rfl) rfl ?_
  refine tz_cvI1 (n := 17) (μ' := μX7_isWord) (cb' := 0) (sb' := 0) ml_X3_62 mo_X7_isWord mv_X7_isWord np_X7_isWord kd_38 (g_at ck_X3_readNot 8 rfl) (sp_isWord (i9 := 7) sn_7 hL hR hB hn hD.p hD.tk) rfl rfl rfl ⟨by decide, by decide⟩ (Nat.le_of_ble_eq_true rfl) (by decide) (by decide) (fun x14 ρ9 m14 hq => ?_)
  obtain ⟨rfl, hR1, rfl, rfl⟩ := hq
  rw [cb9_w hz 7]
  refine tz_if_eq (n := 20) (tgt := 33) (g_at ck_X3_readNot 9 rfl) rfl rfl (by decide) (fun h17 => ?_) (fun h17 => absurd h17 (by omega))
  refine tz_iload2 (n := 34) (g_at ck_X3_readNot 15 rfl) rfl ?_
  refine tz_bipush (n := 36) (g_at ck_X3_readNot 16 rfl) rfl rfl ?_
  refine tz_icmp_ne (n := 39) (tgt := 57) (g_at ck_X3_readNot 17 rfl) rfl rfl (by decide) (fun h36 => ?_) (fun h36 => absurd h36 (by omega))
  refine tz_aload0 (n := 58) (g_at ck_X3_readNot 27 rfl) rfl (g_ne kd_37) ?_
  refine tz_iload1 (n := 59) (g_at ck_X3_readNot 28 rfl) rfl ?_
  refine tz_cvI1 (n := 62) (μ' := μX3_readTest) (cb' := 0) (sb' := 0) ml_X3_185 mo_X3_readTest mv_X3_readTest np_X3_readTest kd_37 (g_at ck_X3_readNot 29 rfl) (hP u _ s hD h1 hz) rfl rfl rfl ⟨by decide, by decide⟩ (Nat.le_of_ble_eq_true rfl) (by decide) (by decide) (fun x59 ρ9 m59 hq => ?_)
  obtain ⟨rfl, hR2, hD59, hx59, hF59⟩ := hq
  have hx59 : x59 = 0 := hx59.symm
  subst hx59
  refine tz_istore3 (n := 63) (g_at ck_X3_readNot 30 rfl) rfl (by decide) g_hpI ?_
  refine tz_iconst (n := 64) (g_at ck_X3_readNot 31 rfl) rfl ?_
  refine tz_istore4 (n := 66) (g_at ck_X3_readNot 32 rfl) rfl (by decide) g_hpI ?_
  refine tz_iload4 (n := 68) (g_at ck_X3_readNot 33 rfl) rfl ?_
  refine tz_iload2 (n := 69) (g_at ck_X3_readNot 34 rfl) rfl ?_
  refine tz_icmp_ge (n := 72) (tgt := 87) (g_at ck_X3_readNot 35 rfl) rfl rfl (by decide) (fun h69 => ?_) (fun h69 => absurd h69 (by omega))
  refine tz_iload3 (n := 88) (g_at ck_X3_readNot 42 rfl) rfl ?_
  exact tz_bret (g_at ck_X3_readNot 43 rfl) rfl (by decide) (rI_mk ⟨rfl, hR2, hD59, rfl, hF59⟩)
theorem sz_readAnd {l : Launch} {γ : Gh} {ρ m : Mm} {t : Int → Int} {n u : Int} {s : PS} (hL : LY ρ) (hB : BY t) (hn : 0 ≤ n ∧ n ≤ 700) (hD : RD ρ m t n u s) (h1 : s.1 = 1) (hz : cb9 t n (sP s) = 0) (hP : Cz l γ ρ t n μX3_readNot 6) : gE l γ μX3_readAnd 7 0 0 (rI KK fun x ρ9 m9 => ρ = ρ9 ∧ MR m9 ∧ RD ρ9 m9 t n u (fl9 t n 1 s) ∧ (fl9 t n 1 s).1 = x ∧ FE u m m9) xN KK ρ m [vR 37, vI 6] := by
  refine gE.ofw cl_X3.2 ?_ rfl rfl (Nat.le_of_ble_eq_true rfl)
  show gT l γ μX3_readAnd 7 0 0 _ _ KK ρ m 0 [some (vR 37), some (vI 6), none, none] []
  have hR := hD.r
  have hp := hD.p
  have hr9 := tk_rg (n := n) hB hp
  have hu4 := hD.u4
  unfold isR4 at hu4
  have hk := cb9_0 hz
  refine tz_aload0 (n := 1) (g_at ck_X3_readAnd 0 rfl) rfl (g_ne kd_37) ?_
  refine tz_iload1 (n := 2) (g_at ck_X3_readAnd 1 rfl) rfl ?_
  refine tz_cvI1 (n := 5) (μ' := μX3_readNot) (cb' := 0) (sb' := 0) ml_X3_178 mo_X3_readNot mv_X3_readNot np_X3_readNot kd_37 (g_at ck_X3_readAnd 2 rfl) (hP u _ s hD h1 hz) rfl rfl rfl ⟨by decide, by decide⟩ (Nat.le_of_ble_eq_true rfl) (by decide) (by decide) (fun x2 ρ9 m2 hq => ?_)
  obtain ⟨rfl, hR1, hD2, hx2, hF2⟩ := hq
  have hx2 : x2 = 0 := hx2.symm
  subst hx2
  refine tz_istore2 (n := 6) (g_at ck_X3_readAnd 3 rfl) rfl (by decide) g_hpI ?_
  refine tz_iconst (n := 7) (g_at ck_X3_readAnd 4 rfl) rfl ?_
  refine tz_istore3 (n := 8) (g_at ck_X3_readAnd 5 rfl) rfl (by decide) g_hpI ?_
  refine tz_iload3 (n := 9) (g_at ck_X3_readAnd 6 rfl) rfl ?_
  refine tz_sipush (n := 12) (g_at ck_X3_readAnd 7 rfl) rfl rfl ?_
  refine tz_icmp_ge (n := 15) (tgt := 59) (g_at ck_X3_readAnd 8 rfl) rfl rfl (by decide) (fun h12 => absurd h12 (by omega)) (fun h12 => ?_)
  refine tz_iload2 (n := 16) (g_at ck_X3_readAnd 9 rfl) rfl ?_
  refine tz_if_eq (n := 19) (tgt := 59) (g_at ck_X3_readAnd 10 rfl) rfl rfl (by decide) (fun h16 => ?_) (fun h16 => absurd h16 (by omega))
  refine tz_iload2 (n := 60) (g_at ck_X3_readAnd 29 rfl) rfl ?_
  exact tz_bret (g_at ck_X3_readAnd 30 rfl) rfl (by decide) (rI_mk ⟨rfl, hR1, hD2, rfl, hF2⟩)
noncomputable def x6 (t : Int → Int) (n : Int) (s : PS) : PS := if cb9 t n (sP s) = 1 then fl9 t n 2 s else fl9 t n 1 s
theorem sz_readExpr {l : Launch} {γ : Gh} {ρ m : Mm} {t : Int → Int} {n u : Int} {s : PS} (hL : LY ρ) (hB : BY t) (hn : 0 ≤ n ∧ n ≤ 700) (hD : RD ρ m t n u s) (h1 : s.1 = 1) (hP : Cz l γ ρ t n μX3_readAnd 7) : gE l γ μX3_readExpr 8 0 0 (rI KK fun x ρ9 m9 => ρ = ρ9 ∧ MR m9 ∧ RD ρ9 m9 t n u (x6 t n s) ∧ (x6 t n s).1 = x ∧ FE u m m9) xN KK ρ m [vR 37, vI 6] := by
  refine gE.ofw cl_X3.2 ?_ rfl rfl (Nat.le_of_ble_eq_true rfl)
  show gT l γ μX3_readExpr 8 0 0 _ _ KK ρ m 0 [some (vR 37), some (vI 6), none, none] []
  have hR := hD.r
  have hp := hD.p
  have hr9 := tk_rg (n := n) hB hp
  have hu4 := hD.u4
  unfold isR4 at hu4
  refine tz_iload1 (n := 1) (g_at ck_X3_readExpr 0 rfl) rfl ?_
  refine tz_bipush (n := 3) (g_at ck_X3_readExpr 1 rfl) rfl rfl ?_
  refine tz_icmp_lt (n := 6) (tgt := 19) (g_at ck_X3_readExpr 2 rfl) rfl rfl (by decide) (fun h3 => absurd h3 (by omega)) (fun h3 => ?_)
  refine tz_aload0 (n := 7) (g_at ck_X3_readExpr 3 rfl) rfl (g_ne kd_37) ?_
  refine tz_cvI0 (n := 10) (μ' := μX3_canBegin) (cb' := 0) (sb' := 0) ml_X3_167 mo_X3_canBegin mv_X3_canBegin np_X3_canBegin kd_37 (g_at ck_X3_readExpr 4 rfl) (sp_canBegin hL hB hn hD) rfl rfl rfl ⟨by decide, by decide⟩ (Nat.le_of_ble_eq_true rfl) (by decide) (by decide) (fun x7 ρ9 m7 hq => ?_)
  obtain ⟨rfl, hR1, rfl, rfl⟩ := hq
  have hcb : cb9 t n (sP s) = 0 ∨ cb9 t n (sP s) = 1 := by unfold cb9; split <;> simp
  refine tz_if_eq (n := 13) (tgt := 19) (g_at ck_X3_readExpr 5 rfl) rfl rfl (by omega) (fun h10 => ?_) (fun h10 => ?_)
  · skip
    refine tz_aload0 (n := 20) (g_at ck_X3_readExpr 10 rfl) rfl (g_ne kd_37) ?_
    refine tz_iload1 (n := 21) (g_at ck_X3_readExpr 11 rfl) rfl ?_
    refine tz_cvI1 (n := 24) (μ' := μX3_readAnd) (cb' := 0) (sb' := 0) ml_X3_170 mo_X3_readAnd mv_X3_readAnd np_X3_readAnd kd_37 (g_at ck_X3_readExpr 12 rfl) (hP u _ s hD h1 (by omega)) rfl rfl rfl ⟨by decide, by decide⟩ (Nat.le_of_ble_eq_true rfl) (by decide) (by decide) (fun x21 ρ9 m21 hq => ?_)
    obtain ⟨rfl, hR2, hD21, hx21, hF21⟩ := hq
    have hx21 : x21 = 0 := hx21.symm
    subst hx21
    refine tz_istore2 (n := 25) (g_at ck_X3_readExpr 13 rfl) rfl (by decide) g_hpI ?_
    refine tz_iconst (n := 26) (g_at ck_X3_readExpr 14 rfl) rfl ?_
    refine tz_istore3 (n := 27) (g_at ck_X3_readExpr 15 rfl) rfl (by decide) g_hpI ?_
    refine tz_iload3 (n := 28) (g_at ck_X3_readExpr 16 rfl) rfl ?_
    refine tz_sipush (n := 31) (g_at ck_X3_readExpr 17 rfl) rfl rfl ?_
    refine tz_icmp_ge (n := 34) (tgt := 78) (g_at ck_X3_readExpr 18 rfl) rfl rfl (by decide) (fun h31 => absurd h31 (by omega)) (fun h31 => ?_)
    refine tz_iload2 (n := 35) (g_at ck_X3_readExpr 19 rfl) rfl ?_
    refine tz_if_eq (n := 38) (tgt := 78) (g_at ck_X3_readExpr 20 rfl) rfl rfl (by decide) (fun h35 => ?_) (fun h35 => absurd h35 (by omega))
    refine tz_iload2 (n := 79) (g_at ck_X3_readExpr 39 rfl) rfl ?_
    exact tz_bret (g_at ck_X3_readExpr 40 rfl) rfl (by decide) (rI_mk (by unfold x6; rw [if_neg (by omega)]; exact ⟨rfl, hR2, hD21, rfl, hF21⟩))
  · skip
    refine tz_aload0 (n := 14) (g_at ck_X3_readExpr 6 rfl) rfl (g_ne kd_37) ?_
    refine tz_iconst (n := 15) (g_at ck_X3_readExpr 7 rfl) rfl ?_
    refine tz_cvI1 (n := 18) (μ' := μX3_fail) (cb' := 0) (sb' := 0) ml_X3_93 mo_X3_fail mv_X3_fail np_X3_fail kd_37 (g_at ck_X3_readExpr 8 rfl) (sp_fail hL hB hn hD (by decide)) rfl rfl rfl ⟨by decide, by decide⟩ (Nat.le_of_ble_eq_true rfl) (by decide) (by decide) (fun x15 ρ9 m15 hq => ?_)
    obtain ⟨rfl, hR3, hD15, hx15, hF15⟩ := hq
    have hz15 : x15 = 0 := hx15.symm
    exact tz_bret (g_at ck_X3_readExpr 9 rfl) rfl (Or.inl hz15) (rI_mk (by unfold x6; rw [if_pos (by omega)]; exact ⟨rfl, hR3, hD15, hx15, hF15⟩))
section
variable {l : Launch} {γ : Gh} {ρ : Mm} {t : Int → Int} {n : Int}
theorem ct_6z (hL : LY ρ) (hB : BY t) (hn : 0 ≤ n ∧ n ≤ 700) : Ct l γ ρ t n μX3_readExpr 8 6 (x6 t n) := by
  have p1 : Cz l γ ρ t n μX3_readPart 2 := fun u m s hD h1 hz => sz_readPart hL hB hn hD h1 hz
  have p2 : Cz l γ ρ t n μX3_readProduct 3 := fun u m s hD h1 hz => sz_readProduct hL hB hn hD h1 hz p1
  have p3 : Cz l γ ρ t n μX3_readSum 4 := fun u m s hD h1 hz => sz_readSum hL hB hn hD h1 hz p2
  have p4 : Cz l γ ρ t n μX3_readTest 5 := fun u m s hD h1 hz => sz_readTest hL hB hn hD h1 hz p3
  have p5 : Cz l γ ρ t n μX3_readNot 6 := fun u m s hD h1 hz => sz_readNot hL hB hn hD h1 hz p4
  have p6 : Cz l γ ρ t n μX3_readAnd 7 := fun u m s hD h1 hz => sz_readAnd hL hB hn hD h1 hz p5
  exact fun u m s hD h1 => sz_readExpr hL hB hn hD h1 p6
/-- an expression with k more within it -/
noncomputable def xk (t : Int → Int) (n : Int) : Nat → PS → PS
  | 0 => x6 t n
  | k + 1 => cx9 t n (tO9 t n) (by9 t n (xk t n k))
theorem ct_k (hL : LY ρ) (hB : BY t) (hn : 0 ≤ n ∧ n ≤ 700) : ∀ k : Nat, k ≤ 6 → Ct l γ ρ t n μX3_readExpr (8 + 7 * k) (6 - (k : Int)) (xk t n k)
  | 0, _ => ct_6z hL hB hn
  | k + 1, hk => by
    have ih := ct_k hL hB hn k (by omega)
    rw [show (6 : Int) - (k : Int) = 6 - ((k + 1 : Nat) : Int) + 1 by omega] at ih
    have h := ct_e hL hB hn (by omega) (show 0 ≤ 6 - ((k + 1 : Nat) : Int) ∧ 6 - ((k + 1 : Nat) : Int) < 6 by omega) (ct_b hL hB hn (by omega) ih)
    rw [show 8 + 7 * k + 1 + 1 + 1 + 1 + 1 + 1 + 1 = 8 + 7 * (k + 1) by omega] at h
    exact h
theorem ct_0 (hL : LY ρ) (hB : BY t) (hn : 0 ≤ n ∧ n ≤ 700) : Ct l γ ρ t n μX3_readExpr 50 0 (xk t n 6) := ct_k hL hB hn 6 (by decide)
end
