/-! The machine in the reference: an expression. -/
section
variable {t : Int → Int} {n : Int} {z : MZ}
theorem opd_zd {a : Int} : ∀ {f : Nat} {z : MZ}, zD z ≤ zD (opd t n f a z)
  | 0, _ => Int.le_refl _
  | f + 1, z => by
    have hp : ∀ y : MZ, zD (prt t n y) = zD y := fun y => by
      unfold prt
      split
      · split
        · rfl
        · split <;> rfl
      · rfl
    unfold opd
    by_cases g : (zs z).1 = 1
    · rw [if_pos g]
      have hn := nots_d (t := t) (n := n) (z := z) (a := a) 7
      by_cases h : (zs (nots t n a z 7)).1 = 1 ∧ tK t n (sP (zs (nots t n a z 7))) = 40
      · rw [if_pos h]
        have ih := @opd_zd 1 f (dpr t n (nxZ t n (psh 14 (nots t n a z 7))))
        have d := (dp_d (t := t) (n := n) (z := nxZ t n (psh 14 (nots t n a z 7)))).1
        have e : zD (nxZ t n (psh 14 (nots t n a z 7))) = zD (nots t n a z 7) := rfl
        omega
      · rw [if_neg h, hp]
        omega
    · rw [if_neg g]
      exact Int.le_refl _
theorem hd_a (g : (zs z).1 = 1) (h : wdI t n (sP (zs z)) 12 = 1) : hdS t n z = opd t n (fu z) 1 (nxZ t n (tsZ 0 (psh 4 (drZ 2 z)))) := (if_pos g).trans (if_pos h)
theorem hd_o (g : (zs z).1 = 1) (h0 : ¬ wdI t n (sP (zs z)) 12 = 1) (h : wdI t n (sP (zs z)) 13 = 1) : hdS t n z = opd t n (fu z) 1 (nxZ t n (tsZ 0 (psh 5 (drZ 1 z)))) := (if_pos g).trans ((if_neg h0).trans (if_pos h))
theorem hd_t {a : Int} (g : (zs z).1 = 1) (h1 : tK t n (sP (zs z)) ≠ 1) (h : (tK t n (sP (zs z)) = 60 ∧ a = 6) ∨ (tK t n (sP (zs z)) = 61 ∧ a = 7)) (h0 : zT z (zD z) = 0) : hdS t n z = opd t n (fu z) 0 (nxZ t n (tsZ 1 (psh a (drZ 4 z)))) := by
  unfold hdS
  rw [if_pos g, if_neg (nwd h1), if_neg (nwd h1), if_pos ⟨by omega, h0⟩]
  rcases h with ⟨k, e⟩ | ⟨k, e⟩
  · rw [if_pos k, e]
  · rw [if_neg (by omega), e]
theorem hd_p {a : Int} (g : (zs z).1 = 1) (h : (tK t n (sP (zs z)) = 43 ∧ a = 8) ∨ (tK t n (sP (zs z)) = 45 ∧ a = 9)) : hdS t n z = opd t n (fu z) 0 (nxZ t n (psh a (drZ 5 z))) := by
  unfold hdS
  rw [if_pos g, if_neg (nwd (by omega)), if_neg (nwd (by omega)), if_neg (by omega), if_pos (by omega)]
  rcases h with ⟨k, e⟩ | ⟨k, e⟩
  · rw [if_pos k, e]
  · rw [if_neg (by omega), e]
theorem hd_m {a : Int} (g : (zs z).1 = 1) (h : (tK t n (sP (zs z)) = 42 ∧ a = 10) ∨ (tK t n (sP (zs z)) = 47 ∧ a = 11)) : hdS t n z = opd t n (fu z) 0 (nxZ t n (psh a (drZ 6 z))) := by
  unfold hdS
  rw [if_pos g, if_neg (nwd (by omega)), if_neg (nwd (by omega)), if_neg (by omega), if_neg (by omega), if_pos (by omega)]
  rcases h with ⟨k, e⟩ | ⟨k, e⟩
  · rw [if_pos k, e]
  · rw [if_neg (by omega), e]
theorem hd_fix {y : MZ} {j : Nat} (h : hdN t n z j = y) (hy : hdS t n y = y) {i : Nat} (hi : hdS t n (hdN t n z i) = hdN t n z i) : hdN t n z i = y := by
  have st : ∀ (x : MZ), hdS t n x = x → ∀ k, hdN t n x k = x := fun x hx k => by
    induction k with
    | zero => rfl
    | succ k ih => rw [hdN_s, ih, hx]
  by_cases c : i ≤ j
  · have e := hdN_add (t := t) (n := n) (z := z) i (j - i)
    rw [show i + (j - i) = j by omega, st _ hi, h] at e
    exact e.symm
  · have e := hdN_add (t := t) (n := n) (z := z) j (i - j)
    rw [show j + (i - j) = i by omega, h, st _ hy] at e
    exact e
end
theorem GS.c {ρ m : Mm} {t : Int → Int} {n : Int} {s s' : PS} (h : GS ρ m t n s) (h1 : s'.1 = s.1) (h2 : s.1 = 1 → sP s' = sP s) (h3 : s.1 = 0 → sF s' = sF s ∧ sW s' = sW s) : GS ρ m t n s' := by
  obtain ⟨g1, g2, g3, g4, g5⟩ := h
  refine ⟨g1, g2, g3, g4, ?_⟩
  rcases g5 with ⟨e1, e2⟩ | ⟨e1, e2⟩
  · left
    rw [h2 e1, h1]
    exact ⟨e1, e2⟩
  · right
    rw [(h3 e1).1, (h3 e1).2, h1]
    exact ⟨e1, e2⟩
theorem mp_expression {l : Launch} {γ : Gh} {ρ m : Mm} {t : Int → Int} {n b : Int} {s : PS} (hB : BY t) (hn : 0 ≤ n ∧ n ≤ 700) (hG : GS ρ m t n s) (hg : s.1 = 1) (h28 : m 84 28 = b) (hb : 0 ≤ b ∧ b + 2 ≤ 2 * sP s) (hl : ((sL s).length : Int) ≤ sP s) (h101 : ∀ i, 0 ≤ i → i < 9 → m 101 i = 0 ∨ m 101 i = 1) : gE l γ μX11_expression 5 0 0 (rV KK fun ρ9 m9 => q23 ρ ρ9 ∧ MR m9 ∧ GS ρ9 m9 t n (xk t n 6 s) ∧ FX [84, 99, 100, 101] [13, 14, 17, 18, 19, 20, 21, 22, 28, 29, 30, 31, 32] m m9 ∧ below b m m9 ∧ (∀ i, 0 ≤ i → i < 9 → m9 101 i = 0 ∨ m9 101 i = 1) ∧ ((xk t n 6 s).1 = 1 → ∃ N : List Int, sL (xk t n 6 s) = sL s ++ N ∧ OKp N 31 ∧ (∀ c ∈ N, -14 ≤ c ∧ c ≤ 9999) ∧ N ≠ [] ∧ CdC m9 b (encL N ++ [0]) ∧ sP s ≤ sP (xk t n 6 s) ∧ m9 84 28 ≤ 2 * sP (xk t n 6 s) ∧ (N.length : Int) ≤ sP (xk t n 6 s) - sP s)) xN KK ρ m [vR 84] := by
  refine gE.ofw cl_X11.2 ?_ rfl rfl (Nat.le_of_ble_eq_true rfl)
  show gT l γ μX11_expression 5 0 0 _ _ KK ρ m 0 [some (vR 84), none, none] []
  have hR := hG.1
  have hL := hG.2.1
  have hgg := hG.g hg
  have hgd := gd9_1 (m 84 13)
  refine tz_aload0 (n := 1) (g_at ck_X11_expression 0 rfl) rfl (g_ne kd_84) ?_
  refine tz_cvI0 (n := 4) (μ' := μX11_isGood) (cb' := 0) (sb' := 0) ml_X11_191 mo_X11_isGood mv_X11_isGood np_X11_isGood kd_84 (g_at ck_X11_expression 1 rfl) (mp_isGood hR) rfl rfl rfl ⟨by decide, by decide⟩ (Nat.le_of_ble_eq_true rfl) (by decide) (by decide) (fun x1 ρ9 m1 hq => ?_)
  obtain ⟨rfl, hR1, rfl, rfl⟩ := hq
  refine tz_if_ne (n := 7) (tgt := 8) (g_at ck_X11_expression 2 rfl) rfl rfl (by omega) (fun h4 => ?_) (fun h4 => absurd h4 (by omega))
  have hg13 := hgg.2.2.1
  refine tz_aload0 (n := 9) (g_at ck_X11_expression 4 rfl) rfl (g_ne kd_84) ?_
  refine tz_iconst (n := 10) (g_at ck_X11_expression 5 rfl) rfl ?_
  refine tz_putIr (n := 13) (kz := 29) fk_X11_220 kd_84 (g_at ck_X11_expression 6 rfl) rfl hR1 ⟨(by decide), (by decide)⟩ rfl (fun hR2 => ?_)
  refine tz_aload0 (n := 14) (g_at ck_X11_expression 7 rfl) rfl (g_ne kd_84) ?_
  refine tz_iconst (n := 15) (g_at ck_X11_expression 8 rfl) rfl ?_
  refine tz_putIr (n := 18) (kz := 30) fk_X11_223 kd_84 (g_at ck_X11_expression 9 rfl) rfl hR2 ⟨(by decide), (by decide)⟩ rfl (fun hR3 => ?_)
  refine tz_aload0 (n := 19) (g_at ck_X11_expression 10 rfl) rfl (g_ne kd_84) ?_
  refine tz_iconst (n := 20) (g_at ck_X11_expression 11 rfl) rfl ?_
  refine tz_putIr (n := 23) (kz := 31) fk_X11_204 kd_84 (g_at ck_X11_expression 12 rfl) rfl hR3 ⟨(by decide), (by decide)⟩ rfl (fun hR4 => ?_)
  refine tz_aload0 (n := 24) (g_at ck_X11_expression 13 rfl) rfl (g_ne kd_84) ?_
  refine tz_iconst (n := 25) (g_at ck_X11_expression 14 rfl) rfl ?_
  refine tz_putIr (n := 28) (kz := 32) fk_X11_226 kd_84 (g_at ck_X11_expression 15 rfl) rfl hR4 ⟨(by decide), (by decide)⟩ rfl (fun hR5 => ?_)
  obtain ⟨m0, e0⟩ : ∃ m0, m0 = wr (wr (wr (wr m 84 29 0) 84 30 4) 84 31 0) 84 32 0 := ⟨_, rfl⟩
  rw [← e0] at hR5 ⊢
  have hXm : FX [84] [29, 30, 31, 32] m m0 := by rw [e0]; exact (((FX.rf.w (by decide) (fun _ => by decide)).w (by decide) (fun _ => by decide)).w (by decide) (fun _ => by decide)).w (by decide) (fun _ => by decide)
  have hX0 : FX [84, 99, 100, 101] [13, 14, 17, 18, 19, 20, 21, 22, 28, 29, 30, 31, 32] m m0 := hXm.sub (by decide) (by decide)
  have hG0 := hG.x hR5 rfl hXm (by decide) (by decide)
  have hf0 : m0 84 29 = 0 ∧ m0 84 30 = 4 ∧ m0 84 31 = 0 ∧ m0 84 32 = 0 := by rw [e0]; refine ⟨?_, ?_, ?_, ?_⟩ <;> simp [wr]
  obtain ⟨T0, hT0⟩ : ∃ T0 : Int → Int, T0 = fun i => if 0 ≤ i ∧ i < 9 then m 101 i else 0 := ⟨_, rfl⟩
  have hT01 : ∀ i, T0 i = 0 ∨ T0 i = 1 := fun i => by rw [hT0]; show (if 0 ≤ i ∧ i < 9 then m 101 i else 0) = 0 ∨ (if 0 ≤ i ∧ i < 9 then m 101 i else 0) = 1; split; exact h101 i (by omega) (by omega); exact Or.inl rfl
  have hZ0 : ZM ρ m0 t n b (mz s [] [] 0 T0) := ⟨hG0, ⟨by rw [hXm.2 28 (by decide), h28]; show b = b + ((0 : Nat) : Int); omega, fun i h9 => absurd h9 (Nat.not_lt_zero i)⟩, ⟨hf0.2.2.1, trivial⟩, hf0.2.2.2, fun i i1 i2 => by rw [hXm.1 101 (by decide)]; show m 101 i = T0 i; rw [hT0]; exact (if_pos ⟨i1, i2⟩).symm, hf0.1, hf0.2.1⟩
  refine tz_aload0 (n := 29) (g_at ck_X11_expression 16 rfl) rfl (g_ne kd_84) ?_
  refine tz_cvV0 (n := 32) (μ' := μX11_deeper) (cb' := 0) (sb' := 0) ml_X11_235 mo_X11_deeper mv_X11_deeper np_X11_deeper kd_84 (g_at ck_X11_expression 17 rfl) (mp_deeper hB hn hZ0 hg (show 0 ≤ (0 : Int) ∧ (0 : Int) ≤ 6 by decide)) rfl rfl rfl ⟨by decide, by decide⟩ (Nat.le_of_ble_eq_true rfl) (by decide) (by decide) (fun ρ9 m29 hq => ?_)
  obtain ⟨rfl, hR6, hZ29, hX29⟩ := hq
  rw [show dpr t n (mz s [] [] 0 T0) = (mz s [] [] 1 (up T0 1 0)) from if_pos (show (0 : Int) < 6 by decide)] at hZ29
  have hI29 : ZI n b (mz s [] [] 1 (up T0 1 0)) := ⟨⟨hb.1, hn.2⟩, show 0 ≤ (1 : Int) ∧ (1 : Int) ≤ 6 by decide, fun x hx => absurd hx (by simp [zS, mz]), fun i => by show up T0 1 0 i = 0 ∨ up T0 1 0 i = 1; by_cases e9 : i = 1; rw [e9, up_at]; exact Or.inl rfl; rw [up_ne e9]; exact hT01 i, by show b + ((0 : Nat) : Int) + ((0 : Nat) : Int) + 2 ≤ 2 * n ∧ ((0 : Nat) : Int) ≤ n; have h9 := hgg.2.1; omega, fun _ => by show b + ((0 : Nat) : Int) + ((0 : Nat) : Int) + 2 ≤ 2 * sP s ∧ ((0 : Nat) : Int) ≤ sP s ∧ (0 : Int) = 1 - 1; have h9 := hgg.2.1; omega⟩
  refine tz_aload0 (n := 33) (g_at ck_X11_expression 18 rfl) rfl (g_ne kd_84) ?_
  refine tz_iconst (n := 34) (g_at ck_X11_expression 19 rfl) rfl ?_
  refine tz_cvV1 (n := 37) (μ' := μX11_operand) (cb' := 0) (sb' := 0) ml_X11_244 mo_X11_operand mv_X11_operand np_X11_operand kd_84 (g_at ck_X11_expression 20 rfl) (mp_operand hB hn hZ29 hI29 hg (Or.inr rfl) (show 1 ≤ (1 : Int) by decide)) rfl rfl rfl ⟨by decide, by decide⟩ (Nat.le_of_ble_eq_true rfl) (by decide) (by decide) (fun ρ9 m34 hq => ?_)
  obtain ⟨hq34, hR7, hZ34, hX34, hI34, hp34⟩ := hq
  obtain ⟨zo, ezo⟩ : ∃ zo, zo = opd t n 6 1 (mz s [] [] 1 (up T0 1 0)) := ⟨_, rfl⟩
  have e6 : opd t n (fu (mz s [] [] 1 (up T0 1 0))) 1 (mz s [] [] 1 (up T0 1 0)) = zo := ezo.symm
  rw [e6] at hZ34 hI34 hp34
  obtain ⟨j, y, hy, hres⟩ := sim_X (t := t) (n := n) hn.2 hB 5 (by decide) (mz s [] [] 1 (up T0 1 0)) s hg hg rfl hgg.2.1 hl rfl trivial (fun _ => by show up T0 1 0 (6 - ((5 : Nat) : Int)) = 0; rw [show (6 : Int) - ((5 : Nat) : Int) = 1 by decide, up_at])
  rw [show (5 : Nat) + 1 = 6 from rfl, ← ezo] at hy
  have hfy : hdS t n y = y := by rcases hres with ⟨hO, hF⟩ | hBd; exact hd_stay (fol_no hF (fun h9 => by have h8 : zD y = 1 := hO.1.2.2.2.2.1; omega)); rcases hBd.2 with h9 | h9; exact hd_stay (fun h8 => by have h7 := h8.1; omega); exact hd_stay h9.2.1
  refine g_cut (T := ∀ ρ3 m3 : Mm, (q23 ρ ρ3 ∧ MR m3 ∧ ZX b m0 m3 ∧ ZM ρ3 m3 t n b y ∧ ZI n b y) → gT l γ μX11_expression 5 0 0 (rV KK fun ρ9 m9 => q23 ρ ρ9 ∧ MR m9 ∧ GS ρ9 m9 t n (xk t n 6 s) ∧ FX [84, 99, 100, 101] [13, 14, 17, 18, 19, 20, 21, 22, 28, 29, 30, 31, 32] m m9 ∧ below b m m9 ∧ (∀ i, 0 ≤ i → i < 9 → m9 101 i = 0 ∨ m9 101 i = 1) ∧ ((xk t n 6 s).1 = 1 → ∃ N : List Int, sL (xk t n 6 s) = sL s ++ N ∧ OKp N 31 ∧ (∀ c ∈ N, -14 ≤ c ∧ c ≤ 9999) ∧ N ≠ [] ∧ CdC m9 b (encL N ++ [0]) ∧ sP s ≤ sP (xk t n 6 s) ∧ m9 84 28 ≤ 2 * sP (xk t n 6 s) ∧ (N.length : Int) ≤ sP (xk t n 6 s) - sP s)) xN KK ρ3 m3 335 [some (vR 84), none, none] []) (fun hj335 => ?_) ?_
  · skip
    refine tz_iconst (n := 38) (g_at ck_X11_expression 21 rfl) rfl ?_
    refine tz_istore1 (n := 39) (g_at ck_X11_expression 22 rfl) rfl (by decide) g_hpR ?_
    refine g_for (fun i : Nat => ∀ ρ1 m1 : Mm, (q23 ρ ρ1 ∧ MR m1 ∧ ZX b m0 m1 ∧ ZM ρ1 m1 t n b (hdN t n zo i) ∧ ZI n b (hdN t n zo i) ∧ ((zs (hdN t n zo i)).1 = 1 → 1 ≤ zD (hdN t n zo i) ∧ (i : Int) ≤ (sP (zs (hdN t n zo i))))) → gT l γ μX11_expression 5 0 0 _ _ KK ρ1 m1 39 [some (vR 84), some (vI 1), none] []) 701 ?_ (fun i hi ihi => ?_) 0 (Nat.zero_le _) _ _ ⟨hq34, hR7, hX29.tr hX34, hZ34, hI34, fun h9 => ⟨by show 1 ≤ zD zo; rw [ezo]; exact opd_zd (z := (mz s [] [] 1 (up T0 1 0))), by have h8 : sP s ≤ sP (zs zo) := hp34 h9; show ((0 : Nat) : Int) ≤ sP (zs zo); omega⟩⟩
    · intro ρ1 m1 hinv
      obtain ⟨hq1, hR1, hX1, hZ1, hI1, hp1⟩ := hinv
      have hG1 := hZ1.1
      have hL := hG1.2.1
      have hbb := hG1.b
      have hgd1 := gd9_1 (m1 84 13)
      have hbad : (zs (hdN t n zo 701)).1 = 0 := hbb.2.resolve_right (fun h9 => by have h8 := hp1 h9; have h7 := (hG1.g h9).2.1; omega)
      have hz13 : m1 84 13 ≠ 0 := fun h9 => by have h8 := hbb.1.mpr h9; omega
      refine tz_iload1 (n := 40) (g_at ck_X11_expression 23 rfl) rfl ?_
      refine tz_if_eq (n := 43) (tgt := 335) (g_at ck_X11_expression 24 rfl) rfl rfl (by decide) (fun h40 => absurd h40 (by omega)) (fun h40 => ?_)
      refine tz_aload0 (n := 44) (g_at ck_X11_expression 25 rfl) rfl (g_ne kd_84) ?_
      refine tz_cvI0 (n := 47) (μ' := μX11_isGood) (cb' := 0) (sb' := 0) ml_X11_191 mo_X11_isGood mv_X11_isGood np_X11_isGood kd_84 (g_at ck_X11_expression 26 rfl) (mp_isGood hR1) rfl rfl rfl ⟨by decide, by decide⟩ (Nat.le_of_ble_eq_true rfl) (by decide) (by decide) (fun x44 ρ9 m44 hq => ?_)
      obtain ⟨rfl, hR8, rfl, rfl⟩ := hq
      refine tz_if_eq (n := 50) (tgt := 335) (g_at ck_X11_expression 27 rfl) rfl rfl (by omega) (fun h47 => ?_) (fun h47 => absurd h47 (by omega))
      refine tz_drop1 ?_
      have ey := hd_fix hy hfy (i := 701) (hd_stay (fun h9 => by have h8 := h9.1; omega))
      exact hj335 _ _ ⟨hq1, hR8, hX1, by rw [← ey]; exact hZ1, by rw [← ey]; exact hI1⟩
    · intro ρ1 m1 hinv
      obtain ⟨hq1, hR1, hX1, hZ1, hI1, hp1⟩ := hinv
      have hG1 := hZ1.1
      have hL := hG1.2.1
      have hbb := hG1.b
      have hgd1 := gd9_1 (m1 84 13)
      have hi11 := hI1.1
      have hi12 := hI1.2.1
      have hi15 := hI1.2.2.2.2.1
      refine tz_iload1 (n := 40) (g_at ck_X11_expression 23 rfl) rfl ?_
      refine tz_if_eq (n := 43) (tgt := 335) (g_at ck_X11_expression 24 rfl) rfl rfl (by decide) (fun h40 => absurd h40 (by omega)) (fun h40 => ?_)
      refine tz_aload0 (n := 44) (g_at ck_X11_expression 25 rfl) rfl (g_ne kd_84) ?_
      refine tz_cvI0 (n := 47) (μ' := μX11_isGood) (cb' := 0) (sb' := 0) ml_X11_191 mo_X11_isGood mv_X11_isGood np_X11_isGood kd_84 (g_at ck_X11_expression 26 rfl) (mp_isGood hR1) rfl rfl rfl ⟨by decide, by decide⟩ (Nat.le_of_ble_eq_true rfl) (by decide) (by decide) (fun x44 ρ9 m44 hq => ?_)
      obtain ⟨rfl, hR9, rfl, rfl⟩ := hq
      refine tz_if_eq (n := 50) (tgt := 335) (g_at ck_X11_expression 27 rfl) rfl rfl (by omega) (fun h47 => ?_) (fun h47 => ?_)
      · skip
        refine tz_drop1 ?_
        have hbad : (zs (hdN t n zo i)).1 = 0 := hbb.2.resolve_right (fun h9 => by have h8 := hbb.1.mp h9; omega)
        have ey := hd_fix hy hfy (i := i) (hd_stay (fun h9 => by have h8 := h9.1; omega))
        exact hj335 _ _ ⟨hq1, hR9, hX1, by rw [← ey]; exact hZ1, by rw [← ey]; exact hI1⟩
      · skip
        have hg1 : (zs (hdN t n zo i)).1 = 1 := hbb.1.mpr (by omega)
        have hi16 := hI1.2.2.2.2.2 hg1
        have hpd := hp1 hg1
        have hgp := (hG1.g hg1).2.1
        have hrg := tk_rg (t := t) hB hgp
        have hkc : tK t n (sP (zs (hdN t n zo i))) ≠ 0 → (sP (zs (hdN t n zo i))) + 1 ≤ tQ t n (sP (zs (hdN t n zo i))) ∧ tQ t n (sP (zs (hdN t n zo i))) ≤ n := nx_lt hB hG1 hg1
        refine tz_aload0 (n := 51) (g_at ck_X11_expression 28 rfl) rfl (g_ne kd_84) ?_
        refine tz_cvI0 (n := 54) (μ' := μX11_knownWord) (cb' := 0) (sb' := 0) ml_X11_216 mo_X11_knownWord mv_X11_knownWord np_X11_knownWord kd_84 (g_at ck_X11_expression 29 rfl) (mp_knownWord hB hn hG1 hg1) rfl rfl rfl ⟨by decide, by decide⟩ (Nat.le_of_ble_eq_true rfl) (by decide) (by decide) (fun x51 ρ9 m51 hq => ?_)
        obtain ⟨rfl, hR10, hk51, rfl⟩ := hq
        have hkr := hk51.rg
        refine tz_istore2 (n := 55) (g_at ck_X11_expression 30 rfl) rfl (by decide) g_hpI ?_
        refine tz_iload2 (n := 56) (g_at ck_X11_expression 31 rfl) rfl ?_
        refine tz_bipush (n := 58) (g_at ck_X11_expression 32 rfl) rfl rfl ?_
        refine tz_icmp_eq (n := 61) (tgt := 67) (g_at ck_X11_expression 33 rfl) rfl rfl (by omega) (fun h58 => ?_) (fun h58 => ?_)
        · skip
          have hwa : wdI t n (sP (zs (hdN t n zo i))) 12 = 1 := (hk51.eq (k := 10) (by decide)).mp (by omega)
          have hk1 : tK t n (sP (zs (hdN t n zo i))) = 1 := wd_1 hwa
          have hlt := hkc (by omega)
          refine tz_aload0 (n := 68) (g_at ck_X11_expression 37 rfl) rfl (g_ne kd_84) ?_
          refine tz_iload2 (n := 69) (g_at ck_X11_expression 38 rfl) rfl ?_
          refine tz_bipush (n := 71) (g_at ck_X11_expression 39 rfl) rfl rfl ?_
          refine tz_icmp_ne (n := 74) (tgt := 78) (g_at ck_X11_expression 40 rfl) rfl rfl (by omega) (fun h71 => absurd h71 (by omega)) (fun h71 => ?_)
          refine tz_iconst (n := 75) (g_at ck_X11_expression 41 rfl) rfl ?_
          refine tz_goto (tgt := 79) (g_at ck_X11_expression 42 rfl) rfl ?_
          refine tz_cvV1 (n := 82) (μ' := μX11_drops) (cb' := 0) (sb' := 0) ml_X11_241 mo_X11_drops mv_X11_drops np_X11_drops kd_84 (g_at ck_X11_expression 44 rfl) (mp_drops hL hR10 hZ1.2.1 hZ1.2.2.1 (by omega) (by omega) hI1.2.2.1 (by decide)) rfl rfl rfl ⟨by decide, by decide⟩ (Nat.le_of_ble_eq_true rfl) (by decide) (by decide) (fun ρ9 m79 hq => ?_)
          obtain ⟨rfl, hR11, hX79, hb79, hC79, hS79⟩ := hq
          have hZd := hZ1.drp hR11 hX79 hC79 hS79
          have hXd : ZX b m1 m79 := ⟨hX79.sub (by decide) (by decide), hb79⟩
          have hdl := (dr_len (v := 2) (zS (hdN t n zo i)) (zW (hdN t n zo i))).2
          have hIL : ((zS (drZ 2 (hdN t n zo i))).length : Int) ≤ 700 := by show ((dr 2 (zW (hdN t n zo i)) (zS (hdN t n zo i))).2.length : Int) ≤ 700; omega
          refine tz_aload0 (n := 83) (g_at ck_X11_expression 45 rfl) rfl (g_ne kd_84) ?_
          refine tz_iload2 (n := 84) (g_at ck_X11_expression 46 rfl) rfl ?_
          refine tz_bipush (n := 86) (g_at ck_X11_expression 47 rfl) rfl rfl ?_
          refine tz_icmp_ne (n := 89) (tgt := 93) (g_at ck_X11_expression 48 rfl) rfl rfl (by omega) (fun h86 => absurd h86 (by omega)) (fun h86 => ?_)
          refine tz_iconst (n := 90) (g_at ck_X11_expression 49 rfl) rfl ?_
          refine tz_goto (tgt := 94) (g_at ck_X11_expression 50 rfl) rfl ?_
          refine tz_cvV1 (n := 97) (μ' := μX11_waitsFor) (cb' := 0) (sb' := 0) ml_X11_232 mo_X11_waitsFor mv_X11_waitsFor np_X11_waitsFor kd_84 (g_at ck_X11_expression 52 rfl) (mp_waitsFor hL hR11 (by rw [hZd.2.2.1.1]; omega) (by decide)) rfl rfl rfl ⟨by decide, by decide⟩ (Nat.le_of_ble_eq_true rfl) (by decide) (by decide) (fun ρ9 m94 hq => ?_)
          obtain ⟨rfl, hR12, rfl⟩ := hq
          have hZw := hZd.wt hR12
          refine tz_aload0 (n := 98) (g_at ck_X11_expression 53 rfl) rfl (g_ne kd_84) ?_
          refine tz_getAv (n := 101) (a := 101) fk_X11_68 kd_84 (ly_84_41 hL) (g_at ck_X11_expression 54 rfl) rfl ?_
          refine tz_aload0 (n := 102) (g_at ck_X11_expression 55 rfl) rfl (g_ne kd_84) ?_
          refine tz_getIw (n := 105) (kz := 32) fk_X11_226 kd_84 (g_at ck_X11_expression 56 rfl) rfl rfl ?_
          rw [show ∀ a : Int, (wtM m79 a) 84 32 = zD (hdN t n zo i) from fun a => by rw [FX.wt.2 32 (by decide), hX79.2 32 (by decide)]; exact hZ1.2.2.2.1]
          refine tz_iconst (n := 106) (g_at ck_X11_expression 57 rfl) rfl ?_
          refine tz_zastr (n := 107) kd_101 (by omega) (g_at ck_X11_expression 58 rfl) rfl hR12 (Or.inl rfl) (fun hR13 => ?_)
          have hZt := hZw.ts hR13 (by show 0 ≤ zD (hdN t n zo i); omega)
          have hIo : ZI n b (nxZ t n (tsZ 0 (psh 4 (drZ 2 (hdN t n zo i))))) := (hI1.drp.pn (t := t) hg1 (by decide) hlt).ts (Or.inl rfl)
          refine tz_aload0 (n := 108) (g_at ck_X11_expression 59 rfl) rfl (g_ne kd_84) ?_
          refine tz_cvV0 (n := 111) (μ' := μX11_goes) (cb' := 0) (sb' := 0) ml_X11_195 mo_X11_goes mv_X11_goes np_X11_goes kd_84 (g_at ck_X11_expression 60 rfl) (mp_goes hL hR13 hB hn (show 0 ≤ tQ t n (sP (zs (hdN t n zo i))) ∧ tQ t n (sP (zs (hdN t n zo i))) ≤ n by omega) hZt.1.2.2.1 hZt.1.2.2.2.1 (hZt.1.g hg1).1.2.2.1) rfl rfl rfl ⟨by decide, by decide⟩ (Nat.le_of_ble_eq_true rfl) (by decide) (by decide) (fun ρ9 m108 hq => ?_)
          obtain ⟨w108, rfl, hR14, hX108, hK108⟩ := hq
          have hq108 : q23 ρ1 (wr ρ1 84 23 w108) := q23.w
          have hG108 := hZt.1.nx hg1 hB hR14 hq108 hX108 (by decide) (by decide) hK108
          have hZg := hZt.s hG108 hX108 (by decide)
          refine tz_aload0 (n := 112) (g_at ck_X11_expression 61 rfl) rfl (g_ne kd_84) ?_
          refine tz_iconst (n := 113) (g_at ck_X11_expression 62 rfl) rfl ?_
          refine tz_cvV1 (n := 116) (μ' := μX11_operand) (cb' := 0) (sb' := 0) ml_X11_244 mo_X11_operand mv_X11_operand np_X11_operand kd_84 (g_at ck_X11_expression 63 rfl) (mp_operand hB hn hZg hIo hg1 (Or.inr rfl) (show 1 ≤ zD (hdN t n zo i) by omega)) rfl rfl rfl ⟨by decide, by decide⟩ (Nat.le_of_ble_eq_true rfl) (by decide) (by decide) (fun ρ9 m113 hq => ?_)
          obtain ⟨hq113, hR15, hZ113, hX113, hI113, hp113⟩ := hq
          refine tz_goto (tgt := 332) (g_at ck_X11_expression 64 rfl) rfl ?_
          refine tz_goto (tgt := 39) (g_at ck_X11_expression 167 rfl) rfl ?_
          refine tz_drop2 ?_
          have e9 : hdN t n zo (i + 1) = _ := hd_a hg1 hwa
          exact ihi _ _ ⟨(hq1.tr hq108).tr hq113, hR15, ((((hX1.tr hXd).tr (ZX.x FX.wt (by decide) (by decide) (by decide))).tr (ZX.x (L := [101]) (ks := []) (FX.rf.w (by decide) (fun h9 => absurd h9 (by decide))) (by decide) (by decide) (by decide))).tr (ZX.x hX108 (by decide) (by decide) (by decide))).tr hX113, by rw [e9]; exact hZ113, by rw [e9]; exact hI113, fun h9 => by rw [e9] at h9 ⊢; exact ⟨Int.le_trans (show 1 ≤ zD (hdN t n zo i) by omega) opd_zd, Int.le_trans (show ((i + 1 : Nat) : Int) ≤ (sP (zs (hdN t n zo i))) + 1 by omega) (Int.le_trans hlt.1 (hp113 h9))⟩⟩
        · skip
          refine tz_iload2 (n := 62) (g_at ck_X11_expression 34 rfl) rfl ?_
          refine tz_bipush (n := 64) (g_at ck_X11_expression 35 rfl) rfl rfl ?_
          refine tz_icmp_ne (n := 67) (tgt := 119) (g_at ck_X11_expression 36 rfl) rfl rfl (by omega) (fun h64 => ?_) (fun h64 => ?_)
          · skip
            refine tz_aload0 (n := 120) (g_at ck_X11_expression 65 rfl) rfl (g_ne kd_84) ?_
            refine tz_bipush (n := 122) (g_at ck_X11_expression 66 rfl) rfl rfl ?_
            refine tz_cvI1 (n := 125) (μ' := μX11_isSign) (cb' := 0) (sb' := 0) ml_X11_229 mo_X11_isSign mv_X11_isSign np_X11_isSign kd_84 (g_at ck_X11_expression 67 rfl) (mp_isSign hB hn hG1 hg1 (by decide)) rfl rfl rfl ⟨by decide, by decide⟩ (Nat.le_of_ble_eq_true rfl) (by decide) (by decide) (fun x122 ρ9 m122 hq => ?_)
            obtain ⟨rfl, hR16, rfl, rfl⟩ := hq
            have hk60 := ki9_1 t n (sP (zs (hdN t n zo i))) 60
            refine tz_if_ne (n := 128) (tgt := 137) (g_at ck_X11_expression 68 rfl) rfl rfl (by omega) (fun h125 => ?_) (fun h125 => ?_)
            · skip
              refine tz_aload0 (n := 138) (g_at ck_X11_expression 73 rfl) rfl (g_ne kd_84) ?_
              refine tz_getAv (n := 141) (a := 101) fk_X11_68 kd_84 (ly_84_41 hL) (g_at ck_X11_expression 74 rfl) rfl ?_
              refine tz_aload0 (n := 142) (g_at ck_X11_expression 75 rfl) rfl (g_ne kd_84) ?_
              refine tz_getIw (n := 145) (kz := 32) fk_X11_226 kd_84 (g_at ck_X11_expression 76 rfl) rfl rfl ?_
              rw [hZ1.2.2.2.1]
              refine tz_zald (n := 146) kd_101 (by omega) (g_at ck_X11_expression 77 rfl) rfl ?_
              rw [hZ1.2.2.2.2.1 (zD (hdN t n zo i)) (by omega) (by omega)]
              refine tz_if_ne (n := 149) (tgt := 196) (g_at ck_X11_expression 78 rfl) rfl rfl (by have h9 := hI1.2.2.2.1 (zD (hdN t n zo i)); omega) (fun h146 => ?_) (fun h146 => ?_)
              · skip
                refine tz_aload0 (n := 197) (g_at ck_X11_expression 103 rfl) rfl (g_ne kd_84) ?_
                refine tz_bipush (n := 199) (g_at ck_X11_expression 104 rfl) rfl rfl ?_
                refine tz_cvI1 (n := 202) (μ' := μX11_isSign) (cb' := 0) (sb' := 0) ml_X11_229 mo_X11_isSign mv_X11_isSign np_X11_isSign kd_84 (g_at ck_X11_expression 105 rfl) (mp_isSign hB hn hG1 hg1 (by decide)) rfl rfl rfl ⟨by decide, by decide⟩ (Nat.le_of_ble_eq_true rfl) (by decide) (by decide) (fun x199 ρ9 m199 hq => ?_)
                obtain ⟨rfl, hR17, rfl, rfl⟩ := hq
                have hk43 := ki9_1 t n (sP (zs (hdN t n zo i))) 43
                refine tz_if_ne (n := 205) (tgt := 214) (g_at ck_X11_expression 106 rfl) rfl rfl (by omega) (fun h202 => ?_) (fun h202 => ?_)
                · skip
                  have hlt := hkc (by omega)
                  refine tz_aload0 (n := 215) (g_at ck_X11_expression 111 rfl) rfl (g_ne kd_84) ?_
                  refine tz_iconst (n := 216) (g_at ck_X11_expression 112 rfl) rfl ?_
                  refine tz_cvV1 (n := 219) (μ' := μX11_drops) (cb' := 0) (sb' := 0) ml_X11_241 mo_X11_drops mv_X11_drops np_X11_drops kd_84 (g_at ck_X11_expression 113 rfl) (mp_drops hL hR17 hZ1.2.1 hZ1.2.2.1 (by omega) (by omega) hI1.2.2.1 (by decide)) rfl rfl rfl ⟨by decide, by decide⟩ (Nat.le_of_ble_eq_true rfl) (by decide) (by decide) (fun ρ9 m216 hq => ?_)
                  obtain ⟨rfl, hR18, hX216, hb216, hC216, hS216⟩ := hq
                  have hZd := hZ1.drp hR18 hX216 hC216 hS216
                  have hXd : ZX b m1 m216 := ⟨hX216.sub (by decide) (by decide), hb216⟩
                  have hdl := (dr_len (v := 5) (zS (hdN t n zo i)) (zW (hdN t n zo i))).2
                  have hIL : ((zS (drZ 5 (hdN t n zo i))).length : Int) ≤ 700 := by show ((dr 5 (zW (hdN t n zo i)) (zS (hdN t n zo i))).2.length : Int) ≤ 700; omega
                  refine tz_aload0 (n := 220) (g_at ck_X11_expression 114 rfl) rfl (g_ne kd_84) ?_
                  refine tz_aload0 (n := 221) (g_at ck_X11_expression 115 rfl) rfl (g_ne kd_84) ?_
                  refine tz_bipush (n := 223) (g_at ck_X11_expression 116 rfl) rfl rfl ?_
                  refine tz_cvI1 (n := 226) (μ' := μX11_isSign) (cb' := 0) (sb' := 0) ml_X11_229 mo_X11_isSign mv_X11_isSign np_X11_isSign kd_84 (g_at ck_X11_expression 117 rfl) (mp_isSign hB hn hZd.1 hg1 (by decide)) rfl rfl rfl ⟨by decide, by decide⟩ (Nat.le_of_ble_eq_true rfl) (by decide) (by decide) (fun x223 ρ9 m223 hq => ?_)
                  obtain ⟨rfl, hR19, rfl, rfl⟩ := hq
                  rw [show sP (zs (drZ 5 (hdN t n zo i))) = (sP (zs (hdN t n zo i))) from rfl]
                  have hk43b := ki9_1 t n (sP (zs (hdN t n zo i))) 43
                  refine tz_if_eq (n := 229) (tgt := 234) (g_at ck_X11_expression 118 rfl) rfl rfl (by omega) (fun h226 => absurd h226 (by omega)) (fun h226 => ?_)
                  refine tz_bipush (n := 231) (g_at ck_X11_expression 119 rfl) rfl rfl ?_
                  refine tz_goto (tgt := 236) (g_at ck_X11_expression 120 rfl) rfl ?_
                  refine tz_cvV1 (n := 239) (μ' := μX11_waitsFor) (cb' := 0) (sb' := 0) ml_X11_232 mo_X11_waitsFor mv_X11_waitsFor np_X11_waitsFor kd_84 (g_at ck_X11_expression 122 rfl) (mp_waitsFor hL hR19 (by rw [hZd.2.2.1.1]; omega) (by decide)) rfl rfl rfl ⟨by decide, by decide⟩ (Nat.le_of_ble_eq_true rfl) (by decide) (by decide) (fun ρ9 m236 hq => ?_)
                  obtain ⟨rfl, hR20, rfl⟩ := hq
                  have hZw := hZd.wt hR20
                  have hIo : ZI n b (nxZ t n (psh 8 (drZ 5 (hdN t n zo i)))) := hI1.drp.pn (t := t) hg1 (by decide) hlt
                  refine tz_aload0 (n := 240) (g_at ck_X11_expression 123 rfl) rfl (g_ne kd_84) ?_
                  refine tz_cvV0 (n := 243) (μ' := μX11_goes) (cb' := 0) (sb' := 0) ml_X11_195 mo_X11_goes mv_X11_goes np_X11_goes kd_84 (g_at ck_X11_expression 124 rfl) (mp_goes hL hR20 hB hn (show 0 ≤ tQ t n (sP (zs (hdN t n zo i))) ∧ tQ t n (sP (zs (hdN t n zo i))) ≤ n by omega) hZw.1.2.2.1 hZw.1.2.2.2.1 (hZw.1.g hg1).1.2.2.1) rfl rfl rfl ⟨by decide, by decide⟩ (Nat.le_of_ble_eq_true rfl) (by decide) (by decide) (fun ρ9 m240 hq => ?_)
                  obtain ⟨w240, rfl, hR21, hX240, hK240⟩ := hq
                  have hq240 : q23 ρ1 (wr ρ1 84 23 w240) := q23.w
                  have hG240 := hZw.1.nx hg1 hB hR21 hq240 hX240 (by decide) (by decide) hK240
                  have hZg := hZw.s hG240 hX240 (by decide)
                  refine tz_aload0 (n := 244) (g_at ck_X11_expression 125 rfl) rfl (g_ne kd_84) ?_
                  refine tz_iconst (n := 245) (g_at ck_X11_expression 126 rfl) rfl ?_
                  refine tz_cvV1 (n := 248) (μ' := μX11_operand) (cb' := 0) (sb' := 0) ml_X11_244 mo_X11_operand mv_X11_operand np_X11_operand kd_84 (g_at ck_X11_expression 127 rfl) (mp_operand hB hn hZg hIo hg1 (Or.inl rfl) (show 1 ≤ zD (hdN t n zo i) by omega)) rfl rfl rfl ⟨by decide, by decide⟩ (Nat.le_of_ble_eq_true rfl) (by decide) (by decide) (fun ρ9 m245 hq => ?_)
                  obtain ⟨hq245, hR22, hZ245, hX245, hI245, hp245⟩ := hq
                  refine tz_goto (tgt := 332) (g_at ck_X11_expression 128 rfl) rfl ?_
                  refine tz_goto (tgt := 39) (g_at ck_X11_expression 167 rfl) rfl ?_
                  refine tz_drop2 ?_
                  have e9 : hdN t n zo (i + 1) = _ := hd_p (t := t) (n := n) (z := (hdN t n zo i)) (a := 8) hg1 (Or.inl ⟨by omega, rfl⟩)
                  exact ihi _ _ ⟨(hq1.tr hq240).tr hq245, hR22, (((hX1.tr hXd).tr (ZX.x FX.wt (by decide) (by decide) (by decide))).tr (ZX.x hX240 (by decide) (by decide) (by decide))).tr hX245, by rw [e9]; exact hZ245, by rw [e9]; exact hI245, fun h9 => by rw [e9] at h9 ⊢; exact ⟨Int.le_trans (show 1 ≤ zD (hdN t n zo i) by omega) opd_zd, Int.le_trans (show ((i + 1 : Nat) : Int) ≤ (sP (zs (hdN t n zo i))) + 1 by omega) (Int.le_trans hlt.1 (hp245 h9))⟩⟩
                · skip
                  refine tz_aload0 (n := 206) (g_at ck_X11_expression 107 rfl) rfl (g_ne kd_84) ?_
                  refine tz_bipush (n := 208) (g_at ck_X11_expression 108 rfl) rfl rfl ?_
                  refine tz_cvI1 (n := 211) (μ' := μX11_isSign) (cb' := 0) (sb' := 0) ml_X11_229 mo_X11_isSign mv_X11_isSign np_X11_isSign kd_84 (g_at ck_X11_expression 109 rfl) (mp_isSign hB hn hG1 hg1 (by decide)) rfl rfl rfl ⟨by decide, by decide⟩ (Nat.le_of_ble_eq_true rfl) (by decide) (by decide) (fun x208 ρ9 m208 hq => ?_)
                  obtain ⟨rfl, hR23, rfl, rfl⟩ := hq
                  have hk45 := ki9_1 t n (sP (zs (hdN t n zo i))) 45
                  refine tz_if_eq (n := 214) (tgt := 251) (g_at ck_X11_expression 110 rfl) rfl rfl (by omega) (fun h211 => ?_) (fun h211 => ?_)
                  · skip
                    refine tz_aload0 (n := 252) (g_at ck_X11_expression 129 rfl) rfl (g_ne kd_84) ?_
                    refine tz_bipush (n := 254) (g_at ck_X11_expression 130 rfl) rfl rfl ?_
                    refine tz_cvI1 (n := 257) (μ' := μX11_isSign) (cb' := 0) (sb' := 0) ml_X11_229 mo_X11_isSign mv_X11_isSign np_X11_isSign kd_84 (g_at ck_X11_expression 131 rfl) (mp_isSign hB hn hG1 hg1 (by decide)) rfl rfl rfl ⟨by decide, by decide⟩ (Nat.le_of_ble_eq_true rfl) (by decide) (by decide) (fun x254 ρ9 m254 hq => ?_)
                    obtain ⟨rfl, hR24, rfl, rfl⟩ := hq
                    have hk42 := ki9_1 t n (sP (zs (hdN t n zo i))) 42
                    refine tz_if_ne (n := 260) (tgt := 269) (g_at ck_X11_expression 132 rfl) rfl rfl (by omega) (fun h257 => ?_) (fun h257 => ?_)
                    · skip
                      have hlt := hkc (by omega)
                      refine tz_aload0 (n := 270) (g_at ck_X11_expression 137 rfl) rfl (g_ne kd_84) ?_
                      refine tz_bipush (n := 272) (g_at ck_X11_expression 138 rfl) rfl rfl ?_
                      refine tz_cvV1 (n := 275) (μ' := μX11_drops) (cb' := 0) (sb' := 0) ml_X11_241 mo_X11_drops mv_X11_drops np_X11_drops kd_84 (g_at ck_X11_expression 139 rfl) (mp_drops hL hR24 hZ1.2.1 hZ1.2.2.1 (by omega) (by omega) hI1.2.2.1 (by decide)) rfl rfl rfl ⟨by decide, by decide⟩ (Nat.le_of_ble_eq_true rfl) (by decide) (by decide) (fun ρ9 m272 hq => ?_)
                      obtain ⟨rfl, hR25, hX272, hb272, hC272, hS272⟩ := hq
                      have hZd := hZ1.drp hR25 hX272 hC272 hS272
                      have hXd : ZX b m1 m272 := ⟨hX272.sub (by decide) (by decide), hb272⟩
                      have hdl := (dr_len (v := 6) (zS (hdN t n zo i)) (zW (hdN t n zo i))).2
                      have hIL : ((zS (drZ 6 (hdN t n zo i))).length : Int) ≤ 700 := by show ((dr 6 (zW (hdN t n zo i)) (zS (hdN t n zo i))).2.length : Int) ≤ 700; omega
                      refine tz_aload0 (n := 276) (g_at ck_X11_expression 140 rfl) rfl (g_ne kd_84) ?_
                      refine tz_aload0 (n := 277) (g_at ck_X11_expression 141 rfl) rfl (g_ne kd_84) ?_
                      refine tz_bipush (n := 279) (g_at ck_X11_expression 142 rfl) rfl rfl ?_
                      refine tz_cvI1 (n := 282) (μ' := μX11_isSign) (cb' := 0) (sb' := 0) ml_X11_229 mo_X11_isSign mv_X11_isSign np_X11_isSign kd_84 (g_at ck_X11_expression 143 rfl) (mp_isSign hB hn hZd.1 hg1 (by decide)) rfl rfl rfl ⟨by decide, by decide⟩ (Nat.le_of_ble_eq_true rfl) (by decide) (by decide) (fun x279 ρ9 m279 hq => ?_)
                      obtain ⟨rfl, hR26, rfl, rfl⟩ := hq
                      rw [show sP (zs (drZ 6 (hdN t n zo i))) = (sP (zs (hdN t n zo i))) from rfl]
                      have hk42b := ki9_1 t n (sP (zs (hdN t n zo i))) 42
                      refine tz_if_eq (n := 285) (tgt := 290) (g_at ck_X11_expression 144 rfl) rfl rfl (by omega) (fun h282 => absurd h282 (by omega)) (fun h282 => ?_)
                      refine tz_bipush (n := 287) (g_at ck_X11_expression 145 rfl) rfl rfl ?_
                      refine tz_goto (tgt := 292) (g_at ck_X11_expression 146 rfl) rfl ?_
                      refine tz_cvV1 (n := 295) (μ' := μX11_waitsFor) (cb' := 0) (sb' := 0) ml_X11_232 mo_X11_waitsFor mv_X11_waitsFor np_X11_waitsFor kd_84 (g_at ck_X11_expression 148 rfl) (mp_waitsFor hL hR26 (by rw [hZd.2.2.1.1]; omega) (by decide)) rfl rfl rfl ⟨by decide, by decide⟩ (Nat.le_of_ble_eq_true rfl) (by decide) (by decide) (fun ρ9 m292 hq => ?_)
                      obtain ⟨rfl, hR27, rfl⟩ := hq
                      have hZw := hZd.wt hR27
                      have hIo : ZI n b (nxZ t n (psh 10 (drZ 6 (hdN t n zo i)))) := hI1.drp.pn (t := t) hg1 (by decide) hlt
                      refine tz_aload0 (n := 296) (g_at ck_X11_expression 149 rfl) rfl (g_ne kd_84) ?_
                      refine tz_cvV0 (n := 299) (μ' := μX11_goes) (cb' := 0) (sb' := 0) ml_X11_195 mo_X11_goes mv_X11_goes np_X11_goes kd_84 (g_at ck_X11_expression 150 rfl) (mp_goes hL hR27 hB hn (show 0 ≤ tQ t n (sP (zs (hdN t n zo i))) ∧ tQ t n (sP (zs (hdN t n zo i))) ≤ n by omega) hZw.1.2.2.1 hZw.1.2.2.2.1 (hZw.1.g hg1).1.2.2.1) rfl rfl rfl ⟨by decide, by decide⟩ (Nat.le_of_ble_eq_true rfl) (by decide) (by decide) (fun ρ9 m296 hq => ?_)
                      obtain ⟨w296, rfl, hR28, hX296, hK296⟩ := hq
                      have hq296 : q23 ρ1 (wr ρ1 84 23 w296) := q23.w
                      have hG296 := hZw.1.nx hg1 hB hR28 hq296 hX296 (by decide) (by decide) hK296
                      have hZg := hZw.s hG296 hX296 (by decide)
                      refine tz_aload0 (n := 300) (g_at ck_X11_expression 151 rfl) rfl (g_ne kd_84) ?_
                      refine tz_iconst (n := 301) (g_at ck_X11_expression 152 rfl) rfl ?_
                      refine tz_cvV1 (n := 304) (μ' := μX11_operand) (cb' := 0) (sb' := 0) ml_X11_244 mo_X11_operand mv_X11_operand np_X11_operand kd_84 (g_at ck_X11_expression 153 rfl) (mp_operand hB hn hZg hIo hg1 (Or.inl rfl) (show 1 ≤ zD (hdN t n zo i) by omega)) rfl rfl rfl ⟨by decide, by decide⟩ (Nat.le_of_ble_eq_true rfl) (by decide) (by decide) (fun ρ9 m301 hq => ?_)
                      obtain ⟨hq301, hR29, hZ301, hX301, hI301, hp301⟩ := hq
                      refine tz_goto (tgt := 332) (g_at ck_X11_expression 154 rfl) rfl ?_
                      refine tz_goto (tgt := 39) (g_at ck_X11_expression 167 rfl) rfl ?_
                      refine tz_drop2 ?_
                      have e9 : hdN t n zo (i + 1) = _ := hd_m (t := t) (n := n) (z := (hdN t n zo i)) (a := 10) hg1 (Or.inl ⟨by omega, rfl⟩)
                      exact ihi _ _ ⟨(hq1.tr hq296).tr hq301, hR29, (((hX1.tr hXd).tr (ZX.x FX.wt (by decide) (by decide) (by decide))).tr (ZX.x hX296 (by decide) (by decide) (by decide))).tr hX301, by rw [e9]; exact hZ301, by rw [e9]; exact hI301, fun h9 => by rw [e9] at h9 ⊢; exact ⟨Int.le_trans (show 1 ≤ zD (hdN t n zo i) by omega) opd_zd, Int.le_trans (show ((i + 1 : Nat) : Int) ≤ (sP (zs (hdN t n zo i))) + 1 by omega) (Int.le_trans hlt.1 (hp301 h9))⟩⟩
                    · skip
                      refine tz_aload0 (n := 261) (g_at ck_X11_expression 133 rfl) rfl (g_ne kd_84) ?_
                      refine tz_bipush (n := 263) (g_at ck_X11_expression 134 rfl) rfl rfl ?_
                      refine tz_cvI1 (n := 266) (μ' := μX11_isSign) (cb' := 0) (sb' := 0) ml_X11_229 mo_X11_isSign mv_X11_isSign np_X11_isSign kd_84 (g_at ck_X11_expression 135 rfl) (mp_isSign hB hn hG1 hg1 (by decide)) rfl rfl rfl ⟨by decide, by decide⟩ (Nat.le_of_ble_eq_true rfl) (by decide) (by decide) (fun x263 ρ9 m263 hq => ?_)
                      obtain ⟨rfl, hR30, rfl, rfl⟩ := hq
                      have hk47 := ki9_1 t n (sP (zs (hdN t n zo i))) 47
                      refine tz_if_eq (n := 269) (tgt := 307) (g_at ck_X11_expression 136 rfl) rfl rfl (by omega) (fun h266 => ?_) (fun h266 => ?_)
                      · skip
                        refine tz_aload0 (n := 308) (g_at ck_X11_expression 155 rfl) rfl (g_ne kd_84) ?_
                        refine tz_bipush (n := 310) (g_at ck_X11_expression 156 rfl) rfl rfl ?_
                        refine tz_cvI1 (n := 313) (μ' := μX11_isSign) (cb' := 0) (sb' := 0) ml_X11_229 mo_X11_isSign mv_X11_isSign np_X11_isSign kd_84 (g_at ck_X11_expression 157 rfl) (mp_isSign hB hn hG1 hg1 (by decide)) rfl rfl rfl ⟨by decide, by decide⟩ (Nat.le_of_ble_eq_true rfl) (by decide) (by decide) (fun x310 ρ9 m310 hq => ?_)
                        obtain ⟨rfl, hR31, rfl, rfl⟩ := hq
                        have hk41 := ki9_1 t n (sP (zs (hdN t n zo i))) 41
                        refine tz_if_eq (n := 316) (tgt := 330) (g_at ck_X11_expression 158 rfl) rfl rfl (by omega) (fun h313 => ?_) (fun h313 => ?_)
                        · skip
                          have hns : ¬ stp t n (hdN t n zo i) := fun h9 => by rcases h9.2 with k | k | k | k | k | k; have h8 := (hk51.eq (k := 10) (by decide)).mpr k; omega; have h8 := (hk51.eq (k := 11) (by decide)).mpr k; omega; exact h146 k.2; omega; omega; omega
                          refine tz_iconst (n := 331) (g_at ck_X11_expression 165 rfl) rfl ?_
                          refine tz_istore1 (n := 332) (g_at ck_X11_expression 166 rfl) rfl (by decide) g_hpR ?_
                          refine tz_goto (tgt := 39) (g_at ck_X11_expression 167 rfl) rfl ?_
                          refine tz_iload1 (n := 40) (g_at ck_X11_expression 23 rfl) rfl ?_
                          refine tz_if_eq (n := 43) (tgt := 335) (g_at ck_X11_expression 24 rfl) rfl rfl (by decide) (fun h40 => ?_) (fun h40 => absurd h40 (by omega))
                          refine tz_drop1 ?_
                          refine tz_drop2 ?_
                          have ey := hd_fix hy hfy (i := i) (hd_stay hns)
                          exact hj335 _ _ ⟨hq1, hR31, hX1, by rw [← ey]; exact hZ1, by rw [← ey]; exact hI1⟩
                        · skip
                          have hopn : opn (zS (hdN t n zo i)) = zD (hdN t n zo i) - 1 := hi16.2.2
                          have hlt := hkc (by omega)
                          refine tz_aload0 (n := 317) (g_at ck_X11_expression 159 rfl) rfl (g_ne kd_84) ?_
                          refine tz_cvI0 (n := 320) (μ' := μX11_isOpened) (cb' := 0) (sb' := 0) ml_X11_248 mo_X11_isOpened mv_X11_isOpened np_X11_isOpened kd_84 (g_at ck_X11_expression 160 rfl) (mp_isOpened hZ1 hI1.2.2.1 (by omega)) rfl rfl rfl ⟨by decide, by decide⟩ (Nat.le_of_ble_eq_true rfl) (by decide) (by decide) (fun x317 ρ9 m317 hq => ?_)
                          obtain ⟨rfl, hR32, rfl, rfl⟩ := hq
                          have hif : (if 0 < opn (zS (hdN t n zo i)) then (1 : Int) else 0) = 0 ∨ (if 0 < opn (zS (hdN t n zo i)) then (1 : Int) else 0) = 1 := by split <;> simp
                          refine tz_if_eq (n := 323) (tgt := 330) (g_at ck_X11_expression 161 rfl) rfl rfl (by omega) (fun h320 => ?_) (fun h320 => ?_)
                          · skip
                            have hns : ¬ stp t n (hdN t n zo i) := fun h9 => by rcases h9.2 with k | k | k | k | k | k; have h8 := (hk51.eq (k := 10) (by decide)).mpr k; omega; have h8 := (hk51.eq (k := 11) (by decide)).mpr k; omega; exact h146 k.2; omega; omega; exact absurd h320 (by rw [if_pos (by omega)]; decide)
                            refine tz_iconst (n := 331) (g_at ck_X11_expression 165 rfl) rfl ?_
                            refine tz_istore1 (n := 332) (g_at ck_X11_expression 166 rfl) rfl (by decide) g_hpR ?_
                            refine tz_goto (tgt := 39) (g_at ck_X11_expression 167 rfl) rfl ?_
                            refine tz_iload1 (n := 40) (g_at ck_X11_expression 23 rfl) rfl ?_
                            refine tz_if_eq (n := 43) (tgt := 335) (g_at ck_X11_expression 24 rfl) rfl rfl (by decide) (fun h40 => ?_) (fun h40 => absurd h40 (by omega))
                            refine tz_drop1 ?_
                            refine tz_drop2 ?_
                            have ey := hd_fix hy hfy (i := i) (hd_stay hns)
                            exact hj335 _ _ ⟨hq1, hR32, hX1, by rw [← ey]; exact hZ1, by rw [← ey]; exact hI1⟩
                          · skip
                            have hd2 : 1 < zD (hdN t n zo i) := by by_cases h9 : 0 < opn (zS (hdN t n zo i)); omega; rw [if_neg h9] at h320; exact absurd rfl h320
                            refine tz_aload0 (n := 324) (g_at ck_X11_expression 162 rfl) rfl (g_ne kd_84) ?_
                            refine tz_cvV0 (n := 327) (μ' := μX11_closes) (cb' := 0) (sb' := 0) ml_X11_251 mo_X11_closes mv_X11_closes np_X11_closes kd_84 (g_at ck_X11_expression 163 rfl) (mp_closes hB hn hZ1 hg1 hI1 hd2 (by omega)) rfl rfl rfl ⟨by decide, by decide⟩ (Nat.le_of_ble_eq_true rfl) (by decide) (by decide) (fun ρ9 m324 hq => ?_)
                            obtain ⟨hq324, hR33, hZ324, hX324⟩ := hq
                            refine tz_goto (tgt := 332) (g_at ck_X11_expression 164 rfl) rfl ?_
                            refine tz_goto (tgt := 39) (g_at ck_X11_expression 167 rfl) rfl ?_
                            refine tz_drop2 ?_
                            have e9 : hdN t n zo (i + 1) = nxZ t n (mz (zs (hdN t n zo i)) (zW (drZ 0 (hdN t n zo i))) (zS (drZ 0 (hdN t n zo i))).tail (zD (hdN t n zo i) - 1) (zT (hdN t n zo i))) := hCl (t := t) (n := n) (y := (hdN t n zo i)) hg1 (by omega) hd2
                            exact ihi _ _ ⟨hq1.tr hq324, hR33, hX1.tr hX324, by rw [e9]; exact hZ324, by rw [e9]; exact (hI1.cl (t := t) hg1 hd2 hlt).1, fun _ => by rw [e9]; show 1 ≤ zD (hdN t n zo i) - 1 ∧ ((i + 1 : Nat) : Int) ≤ tQ t n (sP (zs (hdN t n zo i))); omega⟩
                      · skip
                        have hlt := hkc (by omega)
                        refine tz_aload0 (n := 270) (g_at ck_X11_expression 137 rfl) rfl (g_ne kd_84) ?_
                        refine tz_bipush (n := 272) (g_at ck_X11_expression 138 rfl) rfl rfl ?_
                        refine tz_cvV1 (n := 275) (μ' := μX11_drops) (cb' := 0) (sb' := 0) ml_X11_241 mo_X11_drops mv_X11_drops np_X11_drops kd_84 (g_at ck_X11_expression 139 rfl) (mp_drops hL hR30 hZ1.2.1 hZ1.2.2.1 (by omega) (by omega) hI1.2.2.1 (by decide)) rfl rfl rfl ⟨by decide, by decide⟩ (Nat.le_of_ble_eq_true rfl) (by decide) (by decide) (fun ρ9 m272 hq => ?_)
                        obtain ⟨rfl, hR34, hX272, hb272, hC272, hS272⟩ := hq
                        have hZd := hZ1.drp hR34 hX272 hC272 hS272
                        have hXd : ZX b m1 m272 := ⟨hX272.sub (by decide) (by decide), hb272⟩
                        have hdl := (dr_len (v := 6) (zS (hdN t n zo i)) (zW (hdN t n zo i))).2
                        have hIL : ((zS (drZ 6 (hdN t n zo i))).length : Int) ≤ 700 := by show ((dr 6 (zW (hdN t n zo i)) (zS (hdN t n zo i))).2.length : Int) ≤ 700; omega
                        refine tz_aload0 (n := 276) (g_at ck_X11_expression 140 rfl) rfl (g_ne kd_84) ?_
                        refine tz_aload0 (n := 277) (g_at ck_X11_expression 141 rfl) rfl (g_ne kd_84) ?_
                        refine tz_bipush (n := 279) (g_at ck_X11_expression 142 rfl) rfl rfl ?_
                        refine tz_cvI1 (n := 282) (μ' := μX11_isSign) (cb' := 0) (sb' := 0) ml_X11_229 mo_X11_isSign mv_X11_isSign np_X11_isSign kd_84 (g_at ck_X11_expression 143 rfl) (mp_isSign hB hn hZd.1 hg1 (by decide)) rfl rfl rfl ⟨by decide, by decide⟩ (Nat.le_of_ble_eq_true rfl) (by decide) (by decide) (fun x279 ρ9 m279 hq => ?_)
                        obtain ⟨rfl, hR35, rfl, rfl⟩ := hq
                        rw [show sP (zs (drZ 6 (hdN t n zo i))) = (sP (zs (hdN t n zo i))) from rfl]
                        have hk42b := ki9_1 t n (sP (zs (hdN t n zo i))) 42
                        refine tz_if_eq (n := 285) (tgt := 290) (g_at ck_X11_expression 144 rfl) rfl rfl (by omega) (fun h282 => ?_) (fun h282 => absurd h282 (by omega))
                        refine tz_bipush (n := 292) (g_at ck_X11_expression 147 rfl) rfl rfl ?_
                        refine tz_cvV1 (n := 295) (μ' := μX11_waitsFor) (cb' := 0) (sb' := 0) ml_X11_232 mo_X11_waitsFor mv_X11_waitsFor np_X11_waitsFor kd_84 (g_at ck_X11_expression 148 rfl) (mp_waitsFor hL hR35 (by rw [hZd.2.2.1.1]; omega) (by decide)) rfl rfl rfl ⟨by decide, by decide⟩ (Nat.le_of_ble_eq_true rfl) (by decide) (by decide) (fun ρ9 m292 hq => ?_)
                        obtain ⟨rfl, hR36, rfl⟩ := hq
                        have hZw := hZd.wt hR36
                        have hIo : ZI n b (nxZ t n (psh 11 (drZ 6 (hdN t n zo i)))) := hI1.drp.pn (t := t) hg1 (by decide) hlt
                        refine tz_aload0 (n := 296) (g_at ck_X11_expression 149 rfl) rfl (g_ne kd_84) ?_
                        refine tz_cvV0 (n := 299) (μ' := μX11_goes) (cb' := 0) (sb' := 0) ml_X11_195 mo_X11_goes mv_X11_goes np_X11_goes kd_84 (g_at ck_X11_expression 150 rfl) (mp_goes hL hR36 hB hn (show 0 ≤ tQ t n (sP (zs (hdN t n zo i))) ∧ tQ t n (sP (zs (hdN t n zo i))) ≤ n by omega) hZw.1.2.2.1 hZw.1.2.2.2.1 (hZw.1.g hg1).1.2.2.1) rfl rfl rfl ⟨by decide, by decide⟩ (Nat.le_of_ble_eq_true rfl) (by decide) (by decide) (fun ρ9 m296 hq => ?_)
                        obtain ⟨w296, rfl, hR37, hX296, hK296⟩ := hq
                        have hq296 : q23 ρ1 (wr ρ1 84 23 w296) := q23.w
                        have hG296 := hZw.1.nx hg1 hB hR37 hq296 hX296 (by decide) (by decide) hK296
                        have hZg := hZw.s hG296 hX296 (by decide)
                        refine tz_aload0 (n := 300) (g_at ck_X11_expression 151 rfl) rfl (g_ne kd_84) ?_
                        refine tz_iconst (n := 301) (g_at ck_X11_expression 152 rfl) rfl ?_
                        refine tz_cvV1 (n := 304) (μ' := μX11_operand) (cb' := 0) (sb' := 0) ml_X11_244 mo_X11_operand mv_X11_operand np_X11_operand kd_84 (g_at ck_X11_expression 153 rfl) (mp_operand hB hn hZg hIo hg1 (Or.inl rfl) (show 1 ≤ zD (hdN t n zo i) by omega)) rfl rfl rfl ⟨by decide, by decide⟩ (Nat.le_of_ble_eq_true rfl) (by decide) (by decide) (fun ρ9 m301 hq => ?_)
                        obtain ⟨hq301, hR38, hZ301, hX301, hI301, hp301⟩ := hq
                        refine tz_goto (tgt := 332) (g_at ck_X11_expression 154 rfl) rfl ?_
                        refine tz_goto (tgt := 39) (g_at ck_X11_expression 167 rfl) rfl ?_
                        refine tz_drop2 ?_
                        have e9 : hdN t n zo (i + 1) = _ := hd_m (t := t) (n := n) (z := (hdN t n zo i)) (a := 11) hg1 (Or.inr ⟨by omega, rfl⟩)
                        exact ihi _ _ ⟨(hq1.tr hq296).tr hq301, hR38, (((hX1.tr hXd).tr (ZX.x FX.wt (by decide) (by decide) (by decide))).tr (ZX.x hX296 (by decide) (by decide) (by decide))).tr hX301, by rw [e9]; exact hZ301, by rw [e9]; exact hI301, fun h9 => by rw [e9] at h9 ⊢; exact ⟨Int.le_trans (show 1 ≤ zD (hdN t n zo i) by omega) opd_zd, Int.le_trans (show ((i + 1 : Nat) : Int) ≤ (sP (zs (hdN t n zo i))) + 1 by omega) (Int.le_trans hlt.1 (hp301 h9))⟩⟩
                  · skip
                    have hlt := hkc (by omega)
                    refine tz_aload0 (n := 215) (g_at ck_X11_expression 111 rfl) rfl (g_ne kd_84) ?_
                    refine tz_iconst (n := 216) (g_at ck_X11_expression 112 rfl) rfl ?_
                    refine tz_cvV1 (n := 219) (μ' := μX11_drops) (cb' := 0) (sb' := 0) ml_X11_241 mo_X11_drops mv_X11_drops np_X11_drops kd_84 (g_at ck_X11_expression 113 rfl) (mp_drops hL hR23 hZ1.2.1 hZ1.2.2.1 (by omega) (by omega) hI1.2.2.1 (by decide)) rfl rfl rfl ⟨by decide, by decide⟩ (Nat.le_of_ble_eq_true rfl) (by decide) (by decide) (fun ρ9 m216 hq => ?_)
                    obtain ⟨rfl, hR39, hX216, hb216, hC216, hS216⟩ := hq
                    have hZd := hZ1.drp hR39 hX216 hC216 hS216
                    have hXd : ZX b m1 m216 := ⟨hX216.sub (by decide) (by decide), hb216⟩
                    have hdl := (dr_len (v := 5) (zS (hdN t n zo i)) (zW (hdN t n zo i))).2
                    have hIL : ((zS (drZ 5 (hdN t n zo i))).length : Int) ≤ 700 := by show ((dr 5 (zW (hdN t n zo i)) (zS (hdN t n zo i))).2.length : Int) ≤ 700; omega
                    refine tz_aload0 (n := 220) (g_at ck_X11_expression 114 rfl) rfl (g_ne kd_84) ?_
                    refine tz_aload0 (n := 221) (g_at ck_X11_expression 115 rfl) rfl (g_ne kd_84) ?_
                    refine tz_bipush (n := 223) (g_at ck_X11_expression 116 rfl) rfl rfl ?_
                    refine tz_cvI1 (n := 226) (μ' := μX11_isSign) (cb' := 0) (sb' := 0) ml_X11_229 mo_X11_isSign mv_X11_isSign np_X11_isSign kd_84 (g_at ck_X11_expression 117 rfl) (mp_isSign hB hn hZd.1 hg1 (by decide)) rfl rfl rfl ⟨by decide, by decide⟩ (Nat.le_of_ble_eq_true rfl) (by decide) (by decide) (fun x223 ρ9 m223 hq => ?_)
                    obtain ⟨rfl, hR40, rfl, rfl⟩ := hq
                    rw [show sP (zs (drZ 5 (hdN t n zo i))) = (sP (zs (hdN t n zo i))) from rfl]
                    have hk43b := ki9_1 t n (sP (zs (hdN t n zo i))) 43
                    refine tz_if_eq (n := 229) (tgt := 234) (g_at ck_X11_expression 118 rfl) rfl rfl (by omega) (fun h226 => ?_) (fun h226 => absurd h226 (by omega))
                    refine tz_bipush (n := 236) (g_at ck_X11_expression 121 rfl) rfl rfl ?_
                    refine tz_cvV1 (n := 239) (μ' := μX11_waitsFor) (cb' := 0) (sb' := 0) ml_X11_232 mo_X11_waitsFor mv_X11_waitsFor np_X11_waitsFor kd_84 (g_at ck_X11_expression 122 rfl) (mp_waitsFor hL hR40 (by rw [hZd.2.2.1.1]; omega) (by decide)) rfl rfl rfl ⟨by decide, by decide⟩ (Nat.le_of_ble_eq_true rfl) (by decide) (by decide) (fun ρ9 m236 hq => ?_)
                    obtain ⟨rfl, hR41, rfl⟩ := hq
                    have hZw := hZd.wt hR41
                    have hIo : ZI n b (nxZ t n (psh 9 (drZ 5 (hdN t n zo i)))) := hI1.drp.pn (t := t) hg1 (by decide) hlt
                    refine tz_aload0 (n := 240) (g_at ck_X11_expression 123 rfl) rfl (g_ne kd_84) ?_
                    refine tz_cvV0 (n := 243) (μ' := μX11_goes) (cb' := 0) (sb' := 0) ml_X11_195 mo_X11_goes mv_X11_goes np_X11_goes kd_84 (g_at ck_X11_expression 124 rfl) (mp_goes hL hR41 hB hn (show 0 ≤ tQ t n (sP (zs (hdN t n zo i))) ∧ tQ t n (sP (zs (hdN t n zo i))) ≤ n by omega) hZw.1.2.2.1 hZw.1.2.2.2.1 (hZw.1.g hg1).1.2.2.1) rfl rfl rfl ⟨by decide, by decide⟩ (Nat.le_of_ble_eq_true rfl) (by decide) (by decide) (fun ρ9 m240 hq => ?_)
                    obtain ⟨w240, rfl, hR42, hX240, hK240⟩ := hq
                    have hq240 : q23 ρ1 (wr ρ1 84 23 w240) := q23.w
                    have hG240 := hZw.1.nx hg1 hB hR42 hq240 hX240 (by decide) (by decide) hK240
                    have hZg := hZw.s hG240 hX240 (by decide)
                    refine tz_aload0 (n := 244) (g_at ck_X11_expression 125 rfl) rfl (g_ne kd_84) ?_
                    refine tz_iconst (n := 245) (g_at ck_X11_expression 126 rfl) rfl ?_
                    refine tz_cvV1 (n := 248) (μ' := μX11_operand) (cb' := 0) (sb' := 0) ml_X11_244 mo_X11_operand mv_X11_operand np_X11_operand kd_84 (g_at ck_X11_expression 127 rfl) (mp_operand hB hn hZg hIo hg1 (Or.inl rfl) (show 1 ≤ zD (hdN t n zo i) by omega)) rfl rfl rfl ⟨by decide, by decide⟩ (Nat.le_of_ble_eq_true rfl) (by decide) (by decide) (fun ρ9 m245 hq => ?_)
                    obtain ⟨hq245, hR43, hZ245, hX245, hI245, hp245⟩ := hq
                    refine tz_goto (tgt := 332) (g_at ck_X11_expression 128 rfl) rfl ?_
                    refine tz_goto (tgt := 39) (g_at ck_X11_expression 167 rfl) rfl ?_
                    refine tz_drop2 ?_
                    have e9 : hdN t n zo (i + 1) = _ := hd_p (t := t) (n := n) (z := (hdN t n zo i)) (a := 9) hg1 (Or.inr ⟨by omega, rfl⟩)
                    exact ihi _ _ ⟨(hq1.tr hq240).tr hq245, hR43, (((hX1.tr hXd).tr (ZX.x FX.wt (by decide) (by decide) (by decide))).tr (ZX.x hX240 (by decide) (by decide) (by decide))).tr hX245, by rw [e9]; exact hZ245, by rw [e9]; exact hI245, fun h9 => by rw [e9] at h9 ⊢; exact ⟨Int.le_trans (show 1 ≤ zD (hdN t n zo i) by omega) opd_zd, Int.le_trans (show ((i + 1 : Nat) : Int) ≤ (sP (zs (hdN t n zo i))) + 1 by omega) (Int.le_trans hlt.1 (hp245 h9))⟩⟩
              · skip
                have hlt := hkc (by omega)
                refine tz_aload0 (n := 150) (g_at ck_X11_expression 79 rfl) rfl (g_ne kd_84) ?_
                refine tz_iconst (n := 151) (g_at ck_X11_expression 80 rfl) rfl ?_
                refine tz_cvV1 (n := 154) (μ' := μX11_drops) (cb' := 0) (sb' := 0) ml_X11_241 mo_X11_drops mv_X11_drops np_X11_drops kd_84 (g_at ck_X11_expression 81 rfl) (mp_drops hL hR16 hZ1.2.1 hZ1.2.2.1 (by omega) (by omega) hI1.2.2.1 (by decide)) rfl rfl rfl ⟨by decide, by decide⟩ (Nat.le_of_ble_eq_true rfl) (by decide) (by decide) (fun ρ9 m151 hq => ?_)
                obtain ⟨rfl, hR44, hX151, hb151, hC151, hS151⟩ := hq
                have hZd := hZ1.drp hR44 hX151 hC151 hS151
                have hXd : ZX b m1 m151 := ⟨hX151.sub (by decide) (by decide), hb151⟩
                have hdl := (dr_len (v := 4) (zS (hdN t n zo i)) (zW (hdN t n zo i))).2
                have hIL : ((zS (drZ 4 (hdN t n zo i))).length : Int) ≤ 700 := by show ((dr 4 (zW (hdN t n zo i)) (zS (hdN t n zo i))).2.length : Int) ≤ 700; omega
                refine tz_aload0 (n := 155) (g_at ck_X11_expression 82 rfl) rfl (g_ne kd_84) ?_
                refine tz_aload0 (n := 156) (g_at ck_X11_expression 83 rfl) rfl (g_ne kd_84) ?_
                refine tz_bipush (n := 158) (g_at ck_X11_expression 84 rfl) rfl rfl ?_
                refine tz_cvI1 (n := 161) (μ' := μX11_isSign) (cb' := 0) (sb' := 0) ml_X11_229 mo_X11_isSign mv_X11_isSign np_X11_isSign kd_84 (g_at ck_X11_expression 85 rfl) (mp_isSign hB hn hZd.1 hg1 (by decide)) rfl rfl rfl ⟨by decide, by decide⟩ (Nat.le_of_ble_eq_true rfl) (by decide) (by decide) (fun x158 ρ9 m158 hq => ?_)
                obtain ⟨rfl, hR45, rfl, rfl⟩ := hq
                rw [show sP (zs (drZ 4 (hdN t n zo i))) = (sP (zs (hdN t n zo i))) from rfl]
                have hk60b := ki9_1 t n (sP (zs (hdN t n zo i))) 60
                refine tz_if_eq (n := 164) (tgt := 169) (g_at ck_X11_expression 86 rfl) rfl rfl (by omega) (fun h161 => absurd h161 (by omega)) (fun h161 => ?_)
                refine tz_bipush (n := 166) (g_at ck_X11_expression 87 rfl) rfl rfl ?_
                refine tz_goto (tgt := 171) (g_at ck_X11_expression 88 rfl) rfl ?_
                refine tz_cvV1 (n := 174) (μ' := μX11_waitsFor) (cb' := 0) (sb' := 0) ml_X11_232 mo_X11_waitsFor mv_X11_waitsFor np_X11_waitsFor kd_84 (g_at ck_X11_expression 90 rfl) (mp_waitsFor hL hR45 (by rw [hZd.2.2.1.1]; omega) (by decide)) rfl rfl rfl ⟨by decide, by decide⟩ (Nat.le_of_ble_eq_true rfl) (by decide) (by decide) (fun ρ9 m171 hq => ?_)
                obtain ⟨rfl, hR46, rfl⟩ := hq
                have hZw := hZd.wt hR46
                refine tz_aload0 (n := 175) (g_at ck_X11_expression 91 rfl) rfl (g_ne kd_84) ?_
                refine tz_getAv (n := 178) (a := 101) fk_X11_68 kd_84 (ly_84_41 hL) (g_at ck_X11_expression 92 rfl) rfl ?_
                refine tz_aload0 (n := 179) (g_at ck_X11_expression 93 rfl) rfl (g_ne kd_84) ?_
                refine tz_getIw (n := 182) (kz := 32) fk_X11_226 kd_84 (g_at ck_X11_expression 94 rfl) rfl rfl ?_
                rw [show ∀ a : Int, (wtM m151 a) 84 32 = zD (hdN t n zo i) from fun a => by rw [FX.wt.2 32 (by decide), hX151.2 32 (by decide)]; exact hZ1.2.2.2.1]
                refine tz_iconst (n := 183) (g_at ck_X11_expression 95 rfl) rfl ?_
                refine tz_zastr (n := 184) kd_101 (by omega) (g_at ck_X11_expression 96 rfl) rfl hR46 (Or.inr rfl) (fun hR47 => ?_)
                have hZt := hZw.ts hR47 (by show 0 ≤ zD (hdN t n zo i); omega)
                have hIo : ZI n b (nxZ t n (tsZ 1 (psh 6 (drZ 4 (hdN t n zo i))))) := (hI1.drp.pn (t := t) hg1 (by decide) hlt).ts (Or.inr rfl)
                refine tz_aload0 (n := 185) (g_at ck_X11_expression 97 rfl) rfl (g_ne kd_84) ?_
                refine tz_cvV0 (n := 188) (μ' := μX11_goes) (cb' := 0) (sb' := 0) ml_X11_195 mo_X11_goes mv_X11_goes np_X11_goes kd_84 (g_at ck_X11_expression 98 rfl) (mp_goes hL hR47 hB hn (show 0 ≤ tQ t n (sP (zs (hdN t n zo i))) ∧ tQ t n (sP (zs (hdN t n zo i))) ≤ n by omega) hZt.1.2.2.1 hZt.1.2.2.2.1 (hZt.1.g hg1).1.2.2.1) rfl rfl rfl ⟨by decide, by decide⟩ (Nat.le_of_ble_eq_true rfl) (by decide) (by decide) (fun ρ9 m185 hq => ?_)
                obtain ⟨w185, rfl, hR48, hX185, hK185⟩ := hq
                have hq185 : q23 ρ1 (wr ρ1 84 23 w185) := q23.w
                have hG185 := hZt.1.nx hg1 hB hR48 hq185 hX185 (by decide) (by decide) hK185
                have hZg := hZt.s hG185 hX185 (by decide)
                refine tz_aload0 (n := 189) (g_at ck_X11_expression 99 rfl) rfl (g_ne kd_84) ?_
                refine tz_iconst (n := 190) (g_at ck_X11_expression 100 rfl) rfl ?_
                refine tz_cvV1 (n := 193) (μ' := μX11_operand) (cb' := 0) (sb' := 0) ml_X11_244 mo_X11_operand mv_X11_operand np_X11_operand kd_84 (g_at ck_X11_expression 101 rfl) (mp_operand hB hn hZg hIo hg1 (Or.inl rfl) (show 1 ≤ zD (hdN t n zo i) by omega)) rfl rfl rfl ⟨by decide, by decide⟩ (Nat.le_of_ble_eq_true rfl) (by decide) (by decide) (fun ρ9 m190 hq => ?_)
                obtain ⟨hq190, hR49, hZ190, hX190, hI190, hp190⟩ := hq
                refine tz_goto (tgt := 332) (g_at ck_X11_expression 102 rfl) rfl ?_
                refine tz_goto (tgt := 39) (g_at ck_X11_expression 167 rfl) rfl ?_
                refine tz_drop2 ?_
                have e9 : hdN t n zo (i + 1) = _ := hd_t (t := t) (n := n) (z := (hdN t n zo i)) (a := 6) hg1 (by omega) (Or.inl ⟨by omega, rfl⟩) h146
                exact ihi _ _ ⟨(hq1.tr hq185).tr hq190, hR49, ((((hX1.tr hXd).tr (ZX.x FX.wt (by decide) (by decide) (by decide))).tr (ZX.x (L := [101]) (ks := []) (FX.rf.w (by decide) (fun h9 => absurd h9 (by decide))) (by decide) (by decide) (by decide))).tr (ZX.x hX185 (by decide) (by decide) (by decide))).tr hX190, by rw [e9]; exact hZ190, by rw [e9]; exact hI190, fun h9 => by rw [e9] at h9 ⊢; exact ⟨Int.le_trans (show 1 ≤ zD (hdN t n zo i) by omega) opd_zd, Int.le_trans (show ((i + 1 : Nat) : Int) ≤ (sP (zs (hdN t n zo i))) + 1 by omega) (Int.le_trans hlt.1 (hp190 h9))⟩⟩
            · skip
              refine tz_aload0 (n := 129) (g_at ck_X11_expression 69 rfl) rfl (g_ne kd_84) ?_
              refine tz_bipush (n := 131) (g_at ck_X11_expression 70 rfl) rfl rfl ?_
              refine tz_cvI1 (n := 134) (μ' := μX11_isSign) (cb' := 0) (sb' := 0) ml_X11_229 mo_X11_isSign mv_X11_isSign np_X11_isSign kd_84 (g_at ck_X11_expression 71 rfl) (mp_isSign hB hn hG1 hg1 (by decide)) rfl rfl rfl ⟨by decide, by decide⟩ (Nat.le_of_ble_eq_true rfl) (by decide) (by decide) (fun x131 ρ9 m131 hq => ?_)
              obtain ⟨rfl, hR50, rfl, rfl⟩ := hq
              have hk61 := ki9_1 t n (sP (zs (hdN t n zo i))) 61
              refine tz_if_eq (n := 137) (tgt := 196) (g_at ck_X11_expression 72 rfl) rfl rfl (by omega) (fun h134 => ?_) (fun h134 => ?_)
              · skip
                refine tz_aload0 (n := 197) (g_at ck_X11_expression 103 rfl) rfl (g_ne kd_84) ?_
                refine tz_bipush (n := 199) (g_at ck_X11_expression 104 rfl) rfl rfl ?_
                refine tz_cvI1 (n := 202) (μ' := μX11_isSign) (cb' := 0) (sb' := 0) ml_X11_229 mo_X11_isSign mv_X11_isSign np_X11_isSign kd_84 (g_at ck_X11_expression 105 rfl) (mp_isSign hB hn hG1 hg1 (by decide)) rfl rfl rfl ⟨by decide, by decide⟩ (Nat.le_of_ble_eq_true rfl) (by decide) (by decide) (fun x199 ρ9 m199 hq => ?_)
                obtain ⟨rfl, hR51, rfl, rfl⟩ := hq
                have hk43 := ki9_1 t n (sP (zs (hdN t n zo i))) 43
                refine tz_if_ne (n := 205) (tgt := 214) (g_at ck_X11_expression 106 rfl) rfl rfl (by omega) (fun h202 => ?_) (fun h202 => ?_)
                · skip
                  have hlt := hkc (by omega)
                  refine tz_aload0 (n := 215) (g_at ck_X11_expression 111 rfl) rfl (g_ne kd_84) ?_
                  refine tz_iconst (n := 216) (g_at ck_X11_expression 112 rfl) rfl ?_
                  refine tz_cvV1 (n := 219) (μ' := μX11_drops) (cb' := 0) (sb' := 0) ml_X11_241 mo_X11_drops mv_X11_drops np_X11_drops kd_84 (g_at ck_X11_expression 113 rfl) (mp_drops hL hR51 hZ1.2.1 hZ1.2.2.1 (by omega) (by omega) hI1.2.2.1 (by decide)) rfl rfl rfl ⟨by decide, by decide⟩ (Nat.le_of_ble_eq_true rfl) (by decide) (by decide) (fun ρ9 m216 hq => ?_)
                  obtain ⟨rfl, hR52, hX216, hb216, hC216, hS216⟩ := hq
                  have hZd := hZ1.drp hR52 hX216 hC216 hS216
                  have hXd : ZX b m1 m216 := ⟨hX216.sub (by decide) (by decide), hb216⟩
                  have hdl := (dr_len (v := 5) (zS (hdN t n zo i)) (zW (hdN t n zo i))).2
                  have hIL : ((zS (drZ 5 (hdN t n zo i))).length : Int) ≤ 700 := by show ((dr 5 (zW (hdN t n zo i)) (zS (hdN t n zo i))).2.length : Int) ≤ 700; omega
                  refine tz_aload0 (n := 220) (g_at ck_X11_expression 114 rfl) rfl (g_ne kd_84) ?_
                  refine tz_aload0 (n := 221) (g_at ck_X11_expression 115 rfl) rfl (g_ne kd_84) ?_
                  refine tz_bipush (n := 223) (g_at ck_X11_expression 116 rfl) rfl rfl ?_
                  refine tz_cvI1 (n := 226) (μ' := μX11_isSign) (cb' := 0) (sb' := 0) ml_X11_229 mo_X11_isSign mv_X11_isSign np_X11_isSign kd_84 (g_at ck_X11_expression 117 rfl) (mp_isSign hB hn hZd.1 hg1 (by decide)) rfl rfl rfl ⟨by decide, by decide⟩ (Nat.le_of_ble_eq_true rfl) (by decide) (by decide) (fun x223 ρ9 m223 hq => ?_)
                  obtain ⟨rfl, hR53, rfl, rfl⟩ := hq
                  rw [show sP (zs (drZ 5 (hdN t n zo i))) = (sP (zs (hdN t n zo i))) from rfl]
                  have hk43b := ki9_1 t n (sP (zs (hdN t n zo i))) 43
                  refine tz_if_eq (n := 229) (tgt := 234) (g_at ck_X11_expression 118 rfl) rfl rfl (by omega) (fun h226 => absurd h226 (by omega)) (fun h226 => ?_)
                  refine tz_bipush (n := 231) (g_at ck_X11_expression 119 rfl) rfl rfl ?_
                  refine tz_goto (tgt := 236) (g_at ck_X11_expression 120 rfl) rfl ?_
                  refine tz_cvV1 (n := 239) (μ' := μX11_waitsFor) (cb' := 0) (sb' := 0) ml_X11_232 mo_X11_waitsFor mv_X11_waitsFor np_X11_waitsFor kd_84 (g_at ck_X11_expression 122 rfl) (mp_waitsFor hL hR53 (by rw [hZd.2.2.1.1]; omega) (by decide)) rfl rfl rfl ⟨by decide, by decide⟩ (Nat.le_of_ble_eq_true rfl) (by decide) (by decide) (fun ρ9 m236 hq => ?_)
                  obtain ⟨rfl, hR54, rfl⟩ := hq
                  have hZw := hZd.wt hR54
                  have hIo : ZI n b (nxZ t n (psh 8 (drZ 5 (hdN t n zo i)))) := hI1.drp.pn (t := t) hg1 (by decide) hlt
                  refine tz_aload0 (n := 240) (g_at ck_X11_expression 123 rfl) rfl (g_ne kd_84) ?_
                  refine tz_cvV0 (n := 243) (μ' := μX11_goes) (cb' := 0) (sb' := 0) ml_X11_195 mo_X11_goes mv_X11_goes np_X11_goes kd_84 (g_at ck_X11_expression 124 rfl) (mp_goes hL hR54 hB hn (show 0 ≤ tQ t n (sP (zs (hdN t n zo i))) ∧ tQ t n (sP (zs (hdN t n zo i))) ≤ n by omega) hZw.1.2.2.1 hZw.1.2.2.2.1 (hZw.1.g hg1).1.2.2.1) rfl rfl rfl ⟨by decide, by decide⟩ (Nat.le_of_ble_eq_true rfl) (by decide) (by decide) (fun ρ9 m240 hq => ?_)
                  obtain ⟨w240, rfl, hR55, hX240, hK240⟩ := hq
                  have hq240 : q23 ρ1 (wr ρ1 84 23 w240) := q23.w
                  have hG240 := hZw.1.nx hg1 hB hR55 hq240 hX240 (by decide) (by decide) hK240
                  have hZg := hZw.s hG240 hX240 (by decide)
                  refine tz_aload0 (n := 244) (g_at ck_X11_expression 125 rfl) rfl (g_ne kd_84) ?_
                  refine tz_iconst (n := 245) (g_at ck_X11_expression 126 rfl) rfl ?_
                  refine tz_cvV1 (n := 248) (μ' := μX11_operand) (cb' := 0) (sb' := 0) ml_X11_244 mo_X11_operand mv_X11_operand np_X11_operand kd_84 (g_at ck_X11_expression 127 rfl) (mp_operand hB hn hZg hIo hg1 (Or.inl rfl) (show 1 ≤ zD (hdN t n zo i) by omega)) rfl rfl rfl ⟨by decide, by decide⟩ (Nat.le_of_ble_eq_true rfl) (by decide) (by decide) (fun ρ9 m245 hq => ?_)
                  obtain ⟨hq245, hR56, hZ245, hX245, hI245, hp245⟩ := hq
                  refine tz_goto (tgt := 332) (g_at ck_X11_expression 128 rfl) rfl ?_
                  refine tz_goto (tgt := 39) (g_at ck_X11_expression 167 rfl) rfl ?_
                  refine tz_drop2 ?_
                  have e9 : hdN t n zo (i + 1) = _ := hd_p (t := t) (n := n) (z := (hdN t n zo i)) (a := 8) hg1 (Or.inl ⟨by omega, rfl⟩)
                  exact ihi _ _ ⟨(hq1.tr hq240).tr hq245, hR56, (((hX1.tr hXd).tr (ZX.x FX.wt (by decide) (by decide) (by decide))).tr (ZX.x hX240 (by decide) (by decide) (by decide))).tr hX245, by rw [e9]; exact hZ245, by rw [e9]; exact hI245, fun h9 => by rw [e9] at h9 ⊢; exact ⟨Int.le_trans (show 1 ≤ zD (hdN t n zo i) by omega) opd_zd, Int.le_trans (show ((i + 1 : Nat) : Int) ≤ (sP (zs (hdN t n zo i))) + 1 by omega) (Int.le_trans hlt.1 (hp245 h9))⟩⟩
                · skip
                  refine tz_aload0 (n := 206) (g_at ck_X11_expression 107 rfl) rfl (g_ne kd_84) ?_
                  refine tz_bipush (n := 208) (g_at ck_X11_expression 108 rfl) rfl rfl ?_
                  refine tz_cvI1 (n := 211) (μ' := μX11_isSign) (cb' := 0) (sb' := 0) ml_X11_229 mo_X11_isSign mv_X11_isSign np_X11_isSign kd_84 (g_at ck_X11_expression 109 rfl) (mp_isSign hB hn hG1 hg1 (by decide)) rfl rfl rfl ⟨by decide, by decide⟩ (Nat.le_of_ble_eq_true rfl) (by decide) (by decide) (fun x208 ρ9 m208 hq => ?_)
                  obtain ⟨rfl, hR57, rfl, rfl⟩ := hq
                  have hk45 := ki9_1 t n (sP (zs (hdN t n zo i))) 45
                  refine tz_if_eq (n := 214) (tgt := 251) (g_at ck_X11_expression 110 rfl) rfl rfl (by omega) (fun h211 => ?_) (fun h211 => ?_)
                  · skip
                    refine tz_aload0 (n := 252) (g_at ck_X11_expression 129 rfl) rfl (g_ne kd_84) ?_
                    refine tz_bipush (n := 254) (g_at ck_X11_expression 130 rfl) rfl rfl ?_
                    refine tz_cvI1 (n := 257) (μ' := μX11_isSign) (cb' := 0) (sb' := 0) ml_X11_229 mo_X11_isSign mv_X11_isSign np_X11_isSign kd_84 (g_at ck_X11_expression 131 rfl) (mp_isSign hB hn hG1 hg1 (by decide)) rfl rfl rfl ⟨by decide, by decide⟩ (Nat.le_of_ble_eq_true rfl) (by decide) (by decide) (fun x254 ρ9 m254 hq => ?_)
                    obtain ⟨rfl, hR58, rfl, rfl⟩ := hq
                    have hk42 := ki9_1 t n (sP (zs (hdN t n zo i))) 42
                    refine tz_if_ne (n := 260) (tgt := 269) (g_at ck_X11_expression 132 rfl) rfl rfl (by omega) (fun h257 => ?_) (fun h257 => ?_)
                    · skip
                      have hlt := hkc (by omega)
                      refine tz_aload0 (n := 270) (g_at ck_X11_expression 137 rfl) rfl (g_ne kd_84) ?_
                      refine tz_bipush (n := 272) (g_at ck_X11_expression 138 rfl) rfl rfl ?_
                      refine tz_cvV1 (n := 275) (μ' := μX11_drops) (cb' := 0) (sb' := 0) ml_X11_241 mo_X11_drops mv_X11_drops np_X11_drops kd_84 (g_at ck_X11_expression 139 rfl) (mp_drops hL hR58 hZ1.2.1 hZ1.2.2.1 (by omega) (by omega) hI1.2.2.1 (by decide)) rfl rfl rfl ⟨by decide, by decide⟩ (Nat.le_of_ble_eq_true rfl) (by decide) (by decide) (fun ρ9 m272 hq => ?_)
                      obtain ⟨rfl, hR59, hX272, hb272, hC272, hS272⟩ := hq
                      have hZd := hZ1.drp hR59 hX272 hC272 hS272
                      have hXd : ZX b m1 m272 := ⟨hX272.sub (by decide) (by decide), hb272⟩
                      have hdl := (dr_len (v := 6) (zS (hdN t n zo i)) (zW (hdN t n zo i))).2
                      have hIL : ((zS (drZ 6 (hdN t n zo i))).length : Int) ≤ 700 := by show ((dr 6 (zW (hdN t n zo i)) (zS (hdN t n zo i))).2.length : Int) ≤ 700; omega
                      refine tz_aload0 (n := 276) (g_at ck_X11_expression 140 rfl) rfl (g_ne kd_84) ?_
                      refine tz_aload0 (n := 277) (g_at ck_X11_expression 141 rfl) rfl (g_ne kd_84) ?_
                      refine tz_bipush (n := 279) (g_at ck_X11_expression 142 rfl) rfl rfl ?_
                      refine tz_cvI1 (n := 282) (μ' := μX11_isSign) (cb' := 0) (sb' := 0) ml_X11_229 mo_X11_isSign mv_X11_isSign np_X11_isSign kd_84 (g_at ck_X11_expression 143 rfl) (mp_isSign hB hn hZd.1 hg1 (by decide)) rfl rfl rfl ⟨by decide, by decide⟩ (Nat.le_of_ble_eq_true rfl) (by decide) (by decide) (fun x279 ρ9 m279 hq => ?_)
                      obtain ⟨rfl, hR60, rfl, rfl⟩ := hq
                      rw [show sP (zs (drZ 6 (hdN t n zo i))) = (sP (zs (hdN t n zo i))) from rfl]
                      have hk42b := ki9_1 t n (sP (zs (hdN t n zo i))) 42
                      refine tz_if_eq (n := 285) (tgt := 290) (g_at ck_X11_expression 144 rfl) rfl rfl (by omega) (fun h282 => absurd h282 (by omega)) (fun h282 => ?_)
                      refine tz_bipush (n := 287) (g_at ck_X11_expression 145 rfl) rfl rfl ?_
                      refine tz_goto (tgt := 292) (g_at ck_X11_expression 146 rfl) rfl ?_
                      refine tz_cvV1 (n := 295) (μ' := μX11_waitsFor) (cb' := 0) (sb' := 0) ml_X11_232 mo_X11_waitsFor mv_X11_waitsFor np_X11_waitsFor kd_84 (g_at ck_X11_expression 148 rfl) (mp_waitsFor hL hR60 (by rw [hZd.2.2.1.1]; omega) (by decide)) rfl rfl rfl ⟨by decide, by decide⟩ (Nat.le_of_ble_eq_true rfl) (by decide) (by decide) (fun ρ9 m292 hq => ?_)
                      obtain ⟨rfl, hR61, rfl⟩ := hq
                      have hZw := hZd.wt hR61
                      have hIo : ZI n b (nxZ t n (psh 10 (drZ 6 (hdN t n zo i)))) := hI1.drp.pn (t := t) hg1 (by decide) hlt
                      refine tz_aload0 (n := 296) (g_at ck_X11_expression 149 rfl) rfl (g_ne kd_84) ?_
                      refine tz_cvV0 (n := 299) (μ' := μX11_goes) (cb' := 0) (sb' := 0) ml_X11_195 mo_X11_goes mv_X11_goes np_X11_goes kd_84 (g_at ck_X11_expression 150 rfl) (mp_goes hL hR61 hB hn (show 0 ≤ tQ t n (sP (zs (hdN t n zo i))) ∧ tQ t n (sP (zs (hdN t n zo i))) ≤ n by omega) hZw.1.2.2.1 hZw.1.2.2.2.1 (hZw.1.g hg1).1.2.2.1) rfl rfl rfl ⟨by decide, by decide⟩ (Nat.le_of_ble_eq_true rfl) (by decide) (by decide) (fun ρ9 m296 hq => ?_)
                      obtain ⟨w296, rfl, hR62, hX296, hK296⟩ := hq
                      have hq296 : q23 ρ1 (wr ρ1 84 23 w296) := q23.w
                      have hG296 := hZw.1.nx hg1 hB hR62 hq296 hX296 (by decide) (by decide) hK296
                      have hZg := hZw.s hG296 hX296 (by decide)
                      refine tz_aload0 (n := 300) (g_at ck_X11_expression 151 rfl) rfl (g_ne kd_84) ?_
                      refine tz_iconst (n := 301) (g_at ck_X11_expression 152 rfl) rfl ?_
                      refine tz_cvV1 (n := 304) (μ' := μX11_operand) (cb' := 0) (sb' := 0) ml_X11_244 mo_X11_operand mv_X11_operand np_X11_operand kd_84 (g_at ck_X11_expression 153 rfl) (mp_operand hB hn hZg hIo hg1 (Or.inl rfl) (show 1 ≤ zD (hdN t n zo i) by omega)) rfl rfl rfl ⟨by decide, by decide⟩ (Nat.le_of_ble_eq_true rfl) (by decide) (by decide) (fun ρ9 m301 hq => ?_)
                      obtain ⟨hq301, hR63, hZ301, hX301, hI301, hp301⟩ := hq
                      refine tz_goto (tgt := 332) (g_at ck_X11_expression 154 rfl) rfl ?_
                      refine tz_goto (tgt := 39) (g_at ck_X11_expression 167 rfl) rfl ?_
                      refine tz_drop2 ?_
                      have e9 : hdN t n zo (i + 1) = _ := hd_m (t := t) (n := n) (z := (hdN t n zo i)) (a := 10) hg1 (Or.inl ⟨by omega, rfl⟩)
                      exact ihi _ _ ⟨(hq1.tr hq296).tr hq301, hR63, (((hX1.tr hXd).tr (ZX.x FX.wt (by decide) (by decide) (by decide))).tr (ZX.x hX296 (by decide) (by decide) (by decide))).tr hX301, by rw [e9]; exact hZ301, by rw [e9]; exact hI301, fun h9 => by rw [e9] at h9 ⊢; exact ⟨Int.le_trans (show 1 ≤ zD (hdN t n zo i) by omega) opd_zd, Int.le_trans (show ((i + 1 : Nat) : Int) ≤ (sP (zs (hdN t n zo i))) + 1 by omega) (Int.le_trans hlt.1 (hp301 h9))⟩⟩
                    · skip
                      refine tz_aload0 (n := 261) (g_at ck_X11_expression 133 rfl) rfl (g_ne kd_84) ?_
                      refine tz_bipush (n := 263) (g_at ck_X11_expression 134 rfl) rfl rfl ?_
                      refine tz_cvI1 (n := 266) (μ' := μX11_isSign) (cb' := 0) (sb' := 0) ml_X11_229 mo_X11_isSign mv_X11_isSign np_X11_isSign kd_84 (g_at ck_X11_expression 135 rfl) (mp_isSign hB hn hG1 hg1 (by decide)) rfl rfl rfl ⟨by decide, by decide⟩ (Nat.le_of_ble_eq_true rfl) (by decide) (by decide) (fun x263 ρ9 m263 hq => ?_)
                      obtain ⟨rfl, hR64, rfl, rfl⟩ := hq
                      have hk47 := ki9_1 t n (sP (zs (hdN t n zo i))) 47
                      refine tz_if_eq (n := 269) (tgt := 307) (g_at ck_X11_expression 136 rfl) rfl rfl (by omega) (fun h266 => ?_) (fun h266 => ?_)
                      · skip
                        refine tz_aload0 (n := 308) (g_at ck_X11_expression 155 rfl) rfl (g_ne kd_84) ?_
                        refine tz_bipush (n := 310) (g_at ck_X11_expression 156 rfl) rfl rfl ?_
                        refine tz_cvI1 (n := 313) (μ' := μX11_isSign) (cb' := 0) (sb' := 0) ml_X11_229 mo_X11_isSign mv_X11_isSign np_X11_isSign kd_84 (g_at ck_X11_expression 157 rfl) (mp_isSign hB hn hG1 hg1 (by decide)) rfl rfl rfl ⟨by decide, by decide⟩ (Nat.le_of_ble_eq_true rfl) (by decide) (by decide) (fun x310 ρ9 m310 hq => ?_)
                        obtain ⟨rfl, hR65, rfl, rfl⟩ := hq
                        have hk41 := ki9_1 t n (sP (zs (hdN t n zo i))) 41
                        refine tz_if_eq (n := 316) (tgt := 330) (g_at ck_X11_expression 158 rfl) rfl rfl (by omega) (fun h313 => ?_) (fun h313 => ?_)
                        · skip
                          have hns : ¬ stp t n (hdN t n zo i) := fun h9 => by rcases h9.2 with k | k | k | k | k | k; have h8 := (hk51.eq (k := 10) (by decide)).mpr k; omega; have h8 := (hk51.eq (k := 11) (by decide)).mpr k; omega; omega; omega; omega; omega
                          refine tz_iconst (n := 331) (g_at ck_X11_expression 165 rfl) rfl ?_
                          refine tz_istore1 (n := 332) (g_at ck_X11_expression 166 rfl) rfl (by decide) g_hpR ?_
                          refine tz_goto (tgt := 39) (g_at ck_X11_expression 167 rfl) rfl ?_
                          refine tz_iload1 (n := 40) (g_at ck_X11_expression 23 rfl) rfl ?_
                          refine tz_if_eq (n := 43) (tgt := 335) (g_at ck_X11_expression 24 rfl) rfl rfl (by decide) (fun h40 => ?_) (fun h40 => absurd h40 (by omega))
                          refine tz_drop1 ?_
                          refine tz_drop2 ?_
                          have ey := hd_fix hy hfy (i := i) (hd_stay hns)
                          exact hj335 _ _ ⟨hq1, hR65, hX1, by rw [← ey]; exact hZ1, by rw [← ey]; exact hI1⟩
                        · skip
                          have hopn : opn (zS (hdN t n zo i)) = zD (hdN t n zo i) - 1 := hi16.2.2
                          have hlt := hkc (by omega)
                          refine tz_aload0 (n := 317) (g_at ck_X11_expression 159 rfl) rfl (g_ne kd_84) ?_
                          refine tz_cvI0 (n := 320) (μ' := μX11_isOpened) (cb' := 0) (sb' := 0) ml_X11_248 mo_X11_isOpened mv_X11_isOpened np_X11_isOpened kd_84 (g_at ck_X11_expression 160 rfl) (mp_isOpened hZ1 hI1.2.2.1 (by omega)) rfl rfl rfl ⟨by decide, by decide⟩ (Nat.le_of_ble_eq_true rfl) (by decide) (by decide) (fun x317 ρ9 m317 hq => ?_)
                          obtain ⟨rfl, hR66, rfl, rfl⟩ := hq
                          have hif : (if 0 < opn (zS (hdN t n zo i)) then (1 : Int) else 0) = 0 ∨ (if 0 < opn (zS (hdN t n zo i)) then (1 : Int) else 0) = 1 := by split <;> simp
                          refine tz_if_eq (n := 323) (tgt := 330) (g_at ck_X11_expression 161 rfl) rfl rfl (by omega) (fun h320 => ?_) (fun h320 => ?_)
                          · skip
                            have hns : ¬ stp t n (hdN t n zo i) := fun h9 => by rcases h9.2 with k | k | k | k | k | k; have h8 := (hk51.eq (k := 10) (by decide)).mpr k; omega; have h8 := (hk51.eq (k := 11) (by decide)).mpr k; omega; omega; omega; omega; exact absurd h320 (by rw [if_pos (by omega)]; decide)
                            refine tz_iconst (n := 331) (g_at ck_X11_expression 165 rfl) rfl ?_
                            refine tz_istore1 (n := 332) (g_at ck_X11_expression 166 rfl) rfl (by decide) g_hpR ?_
                            refine tz_goto (tgt := 39) (g_at ck_X11_expression 167 rfl) rfl ?_
                            refine tz_iload1 (n := 40) (g_at ck_X11_expression 23 rfl) rfl ?_
                            refine tz_if_eq (n := 43) (tgt := 335) (g_at ck_X11_expression 24 rfl) rfl rfl (by decide) (fun h40 => ?_) (fun h40 => absurd h40 (by omega))
                            refine tz_drop1 ?_
                            refine tz_drop2 ?_
                            have ey := hd_fix hy hfy (i := i) (hd_stay hns)
                            exact hj335 _ _ ⟨hq1, hR66, hX1, by rw [← ey]; exact hZ1, by rw [← ey]; exact hI1⟩
                          · skip
                            have hd2 : 1 < zD (hdN t n zo i) := by by_cases h9 : 0 < opn (zS (hdN t n zo i)); omega; rw [if_neg h9] at h320; exact absurd rfl h320
                            refine tz_aload0 (n := 324) (g_at ck_X11_expression 162 rfl) rfl (g_ne kd_84) ?_
                            refine tz_cvV0 (n := 327) (μ' := μX11_closes) (cb' := 0) (sb' := 0) ml_X11_251 mo_X11_closes mv_X11_closes np_X11_closes kd_84 (g_at ck_X11_expression 163 rfl) (mp_closes hB hn hZ1 hg1 hI1 hd2 (by omega)) rfl rfl rfl ⟨by decide, by decide⟩ (Nat.le_of_ble_eq_true rfl) (by decide) (by decide) (fun ρ9 m324 hq => ?_)
                            obtain ⟨hq324, hR67, hZ324, hX324⟩ := hq
                            refine tz_goto (tgt := 332) (g_at ck_X11_expression 164 rfl) rfl ?_
                            refine tz_goto (tgt := 39) (g_at ck_X11_expression 167 rfl) rfl ?_
                            refine tz_drop2 ?_
                            have e9 : hdN t n zo (i + 1) = nxZ t n (mz (zs (hdN t n zo i)) (zW (drZ 0 (hdN t n zo i))) (zS (drZ 0 (hdN t n zo i))).tail (zD (hdN t n zo i) - 1) (zT (hdN t n zo i))) := hCl (t := t) (n := n) (y := (hdN t n zo i)) hg1 (by omega) hd2
                            exact ihi _ _ ⟨hq1.tr hq324, hR67, hX1.tr hX324, by rw [e9]; exact hZ324, by rw [e9]; exact (hI1.cl (t := t) hg1 hd2 hlt).1, fun _ => by rw [e9]; show 1 ≤ zD (hdN t n zo i) - 1 ∧ ((i + 1 : Nat) : Int) ≤ tQ t n (sP (zs (hdN t n zo i))); omega⟩
                      · skip
                        have hlt := hkc (by omega)
                        refine tz_aload0 (n := 270) (g_at ck_X11_expression 137 rfl) rfl (g_ne kd_84) ?_
                        refine tz_bipush (n := 272) (g_at ck_X11_expression 138 rfl) rfl rfl ?_
                        refine tz_cvV1 (n := 275) (μ' := μX11_drops) (cb' := 0) (sb' := 0) ml_X11_241 mo_X11_drops mv_X11_drops np_X11_drops kd_84 (g_at ck_X11_expression 139 rfl) (mp_drops hL hR64 hZ1.2.1 hZ1.2.2.1 (by omega) (by omega) hI1.2.2.1 (by decide)) rfl rfl rfl ⟨by decide, by decide⟩ (Nat.le_of_ble_eq_true rfl) (by decide) (by decide) (fun ρ9 m272 hq => ?_)
                        obtain ⟨rfl, hR68, hX272, hb272, hC272, hS272⟩ := hq
                        have hZd := hZ1.drp hR68 hX272 hC272 hS272
                        have hXd : ZX b m1 m272 := ⟨hX272.sub (by decide) (by decide), hb272⟩
                        have hdl := (dr_len (v := 6) (zS (hdN t n zo i)) (zW (hdN t n zo i))).2
                        have hIL : ((zS (drZ 6 (hdN t n zo i))).length : Int) ≤ 700 := by show ((dr 6 (zW (hdN t n zo i)) (zS (hdN t n zo i))).2.length : Int) ≤ 700; omega
                        refine tz_aload0 (n := 276) (g_at ck_X11_expression 140 rfl) rfl (g_ne kd_84) ?_
                        refine tz_aload0 (n := 277) (g_at ck_X11_expression 141 rfl) rfl (g_ne kd_84) ?_
                        refine tz_bipush (n := 279) (g_at ck_X11_expression 142 rfl) rfl rfl ?_
                        refine tz_cvI1 (n := 282) (μ' := μX11_isSign) (cb' := 0) (sb' := 0) ml_X11_229 mo_X11_isSign mv_X11_isSign np_X11_isSign kd_84 (g_at ck_X11_expression 143 rfl) (mp_isSign hB hn hZd.1 hg1 (by decide)) rfl rfl rfl ⟨by decide, by decide⟩ (Nat.le_of_ble_eq_true rfl) (by decide) (by decide) (fun x279 ρ9 m279 hq => ?_)
                        obtain ⟨rfl, hR69, rfl, rfl⟩ := hq
                        rw [show sP (zs (drZ 6 (hdN t n zo i))) = (sP (zs (hdN t n zo i))) from rfl]
                        have hk42b := ki9_1 t n (sP (zs (hdN t n zo i))) 42
                        refine tz_if_eq (n := 285) (tgt := 290) (g_at ck_X11_expression 144 rfl) rfl rfl (by omega) (fun h282 => ?_) (fun h282 => absurd h282 (by omega))
                        refine tz_bipush (n := 292) (g_at ck_X11_expression 147 rfl) rfl rfl ?_
                        refine tz_cvV1 (n := 295) (μ' := μX11_waitsFor) (cb' := 0) (sb' := 0) ml_X11_232 mo_X11_waitsFor mv_X11_waitsFor np_X11_waitsFor kd_84 (g_at ck_X11_expression 148 rfl) (mp_waitsFor hL hR69 (by rw [hZd.2.2.1.1]; omega) (by decide)) rfl rfl rfl ⟨by decide, by decide⟩ (Nat.le_of_ble_eq_true rfl) (by decide) (by decide) (fun ρ9 m292 hq => ?_)
                        obtain ⟨rfl, hR70, rfl⟩ := hq
                        have hZw := hZd.wt hR70
                        have hIo : ZI n b (nxZ t n (psh 11 (drZ 6 (hdN t n zo i)))) := hI1.drp.pn (t := t) hg1 (by decide) hlt
                        refine tz_aload0 (n := 296) (g_at ck_X11_expression 149 rfl) rfl (g_ne kd_84) ?_
                        refine tz_cvV0 (n := 299) (μ' := μX11_goes) (cb' := 0) (sb' := 0) ml_X11_195 mo_X11_goes mv_X11_goes np_X11_goes kd_84 (g_at ck_X11_expression 150 rfl) (mp_goes hL hR70 hB hn (show 0 ≤ tQ t n (sP (zs (hdN t n zo i))) ∧ tQ t n (sP (zs (hdN t n zo i))) ≤ n by omega) hZw.1.2.2.1 hZw.1.2.2.2.1 (hZw.1.g hg1).1.2.2.1) rfl rfl rfl ⟨by decide, by decide⟩ (Nat.le_of_ble_eq_true rfl) (by decide) (by decide) (fun ρ9 m296 hq => ?_)
                        obtain ⟨w296, rfl, hR71, hX296, hK296⟩ := hq
                        have hq296 : q23 ρ1 (wr ρ1 84 23 w296) := q23.w
                        have hG296 := hZw.1.nx hg1 hB hR71 hq296 hX296 (by decide) (by decide) hK296
                        have hZg := hZw.s hG296 hX296 (by decide)
                        refine tz_aload0 (n := 300) (g_at ck_X11_expression 151 rfl) rfl (g_ne kd_84) ?_
                        refine tz_iconst (n := 301) (g_at ck_X11_expression 152 rfl) rfl ?_
                        refine tz_cvV1 (n := 304) (μ' := μX11_operand) (cb' := 0) (sb' := 0) ml_X11_244 mo_X11_operand mv_X11_operand np_X11_operand kd_84 (g_at ck_X11_expression 153 rfl) (mp_operand hB hn hZg hIo hg1 (Or.inl rfl) (show 1 ≤ zD (hdN t n zo i) by omega)) rfl rfl rfl ⟨by decide, by decide⟩ (Nat.le_of_ble_eq_true rfl) (by decide) (by decide) (fun ρ9 m301 hq => ?_)
                        obtain ⟨hq301, hR72, hZ301, hX301, hI301, hp301⟩ := hq
                        refine tz_goto (tgt := 332) (g_at ck_X11_expression 154 rfl) rfl ?_
                        refine tz_goto (tgt := 39) (g_at ck_X11_expression 167 rfl) rfl ?_
                        refine tz_drop2 ?_
                        have e9 : hdN t n zo (i + 1) = _ := hd_m (t := t) (n := n) (z := (hdN t n zo i)) (a := 11) hg1 (Or.inr ⟨by omega, rfl⟩)
                        exact ihi _ _ ⟨(hq1.tr hq296).tr hq301, hR72, (((hX1.tr hXd).tr (ZX.x FX.wt (by decide) (by decide) (by decide))).tr (ZX.x hX296 (by decide) (by decide) (by decide))).tr hX301, by rw [e9]; exact hZ301, by rw [e9]; exact hI301, fun h9 => by rw [e9] at h9 ⊢; exact ⟨Int.le_trans (show 1 ≤ zD (hdN t n zo i) by omega) opd_zd, Int.le_trans (show ((i + 1 : Nat) : Int) ≤ (sP (zs (hdN t n zo i))) + 1 by omega) (Int.le_trans hlt.1 (hp301 h9))⟩⟩
                  · skip
                    have hlt := hkc (by omega)
                    refine tz_aload0 (n := 215) (g_at ck_X11_expression 111 rfl) rfl (g_ne kd_84) ?_
                    refine tz_iconst (n := 216) (g_at ck_X11_expression 112 rfl) rfl ?_
                    refine tz_cvV1 (n := 219) (μ' := μX11_drops) (cb' := 0) (sb' := 0) ml_X11_241 mo_X11_drops mv_X11_drops np_X11_drops kd_84 (g_at ck_X11_expression 113 rfl) (mp_drops hL hR57 hZ1.2.1 hZ1.2.2.1 (by omega) (by omega) hI1.2.2.1 (by decide)) rfl rfl rfl ⟨by decide, by decide⟩ (Nat.le_of_ble_eq_true rfl) (by decide) (by decide) (fun ρ9 m216 hq => ?_)
                    obtain ⟨rfl, hR73, hX216, hb216, hC216, hS216⟩ := hq
                    have hZd := hZ1.drp hR73 hX216 hC216 hS216
                    have hXd : ZX b m1 m216 := ⟨hX216.sub (by decide) (by decide), hb216⟩
                    have hdl := (dr_len (v := 5) (zS (hdN t n zo i)) (zW (hdN t n zo i))).2
                    have hIL : ((zS (drZ 5 (hdN t n zo i))).length : Int) ≤ 700 := by show ((dr 5 (zW (hdN t n zo i)) (zS (hdN t n zo i))).2.length : Int) ≤ 700; omega
                    refine tz_aload0 (n := 220) (g_at ck_X11_expression 114 rfl) rfl (g_ne kd_84) ?_
                    refine tz_aload0 (n := 221) (g_at ck_X11_expression 115 rfl) rfl (g_ne kd_84) ?_
                    refine tz_bipush (n := 223) (g_at ck_X11_expression 116 rfl) rfl rfl ?_
                    refine tz_cvI1 (n := 226) (μ' := μX11_isSign) (cb' := 0) (sb' := 0) ml_X11_229 mo_X11_isSign mv_X11_isSign np_X11_isSign kd_84 (g_at ck_X11_expression 117 rfl) (mp_isSign hB hn hZd.1 hg1 (by decide)) rfl rfl rfl ⟨by decide, by decide⟩ (Nat.le_of_ble_eq_true rfl) (by decide) (by decide) (fun x223 ρ9 m223 hq => ?_)
                    obtain ⟨rfl, hR74, rfl, rfl⟩ := hq
                    rw [show sP (zs (drZ 5 (hdN t n zo i))) = (sP (zs (hdN t n zo i))) from rfl]
                    have hk43b := ki9_1 t n (sP (zs (hdN t n zo i))) 43
                    refine tz_if_eq (n := 229) (tgt := 234) (g_at ck_X11_expression 118 rfl) rfl rfl (by omega) (fun h226 => ?_) (fun h226 => absurd h226 (by omega))
                    refine tz_bipush (n := 236) (g_at ck_X11_expression 121 rfl) rfl rfl ?_
                    refine tz_cvV1 (n := 239) (μ' := μX11_waitsFor) (cb' := 0) (sb' := 0) ml_X11_232 mo_X11_waitsFor mv_X11_waitsFor np_X11_waitsFor kd_84 (g_at ck_X11_expression 122 rfl) (mp_waitsFor hL hR74 (by rw [hZd.2.2.1.1]; omega) (by decide)) rfl rfl rfl ⟨by decide, by decide⟩ (Nat.le_of_ble_eq_true rfl) (by decide) (by decide) (fun ρ9 m236 hq => ?_)
                    obtain ⟨rfl, hR75, rfl⟩ := hq
                    have hZw := hZd.wt hR75
                    have hIo : ZI n b (nxZ t n (psh 9 (drZ 5 (hdN t n zo i)))) := hI1.drp.pn (t := t) hg1 (by decide) hlt
                    refine tz_aload0 (n := 240) (g_at ck_X11_expression 123 rfl) rfl (g_ne kd_84) ?_
                    refine tz_cvV0 (n := 243) (μ' := μX11_goes) (cb' := 0) (sb' := 0) ml_X11_195 mo_X11_goes mv_X11_goes np_X11_goes kd_84 (g_at ck_X11_expression 124 rfl) (mp_goes hL hR75 hB hn (show 0 ≤ tQ t n (sP (zs (hdN t n zo i))) ∧ tQ t n (sP (zs (hdN t n zo i))) ≤ n by omega) hZw.1.2.2.1 hZw.1.2.2.2.1 (hZw.1.g hg1).1.2.2.1) rfl rfl rfl ⟨by decide, by decide⟩ (Nat.le_of_ble_eq_true rfl) (by decide) (by decide) (fun ρ9 m240 hq => ?_)
                    obtain ⟨w240, rfl, hR76, hX240, hK240⟩ := hq
                    have hq240 : q23 ρ1 (wr ρ1 84 23 w240) := q23.w
                    have hG240 := hZw.1.nx hg1 hB hR76 hq240 hX240 (by decide) (by decide) hK240
                    have hZg := hZw.s hG240 hX240 (by decide)
                    refine tz_aload0 (n := 244) (g_at ck_X11_expression 125 rfl) rfl (g_ne kd_84) ?_
                    refine tz_iconst (n := 245) (g_at ck_X11_expression 126 rfl) rfl ?_
                    refine tz_cvV1 (n := 248) (μ' := μX11_operand) (cb' := 0) (sb' := 0) ml_X11_244 mo_X11_operand mv_X11_operand np_X11_operand kd_84 (g_at ck_X11_expression 127 rfl) (mp_operand hB hn hZg hIo hg1 (Or.inl rfl) (show 1 ≤ zD (hdN t n zo i) by omega)) rfl rfl rfl ⟨by decide, by decide⟩ (Nat.le_of_ble_eq_true rfl) (by decide) (by decide) (fun ρ9 m245 hq => ?_)
                    obtain ⟨hq245, hR77, hZ245, hX245, hI245, hp245⟩ := hq
                    refine tz_goto (tgt := 332) (g_at ck_X11_expression 128 rfl) rfl ?_
                    refine tz_goto (tgt := 39) (g_at ck_X11_expression 167 rfl) rfl ?_
                    refine tz_drop2 ?_
                    have e9 : hdN t n zo (i + 1) = _ := hd_p (t := t) (n := n) (z := (hdN t n zo i)) (a := 9) hg1 (Or.inr ⟨by omega, rfl⟩)
                    exact ihi _ _ ⟨(hq1.tr hq240).tr hq245, hR77, (((hX1.tr hXd).tr (ZX.x FX.wt (by decide) (by decide) (by decide))).tr (ZX.x hX240 (by decide) (by decide) (by decide))).tr hX245, by rw [e9]; exact hZ245, by rw [e9]; exact hI245, fun h9 => by rw [e9] at h9 ⊢; exact ⟨Int.le_trans (show 1 ≤ zD (hdN t n zo i) by omega) opd_zd, Int.le_trans (show ((i + 1 : Nat) : Int) ≤ (sP (zs (hdN t n zo i))) + 1 by omega) (Int.le_trans hlt.1 (hp245 h9))⟩⟩
              · skip
                refine tz_aload0 (n := 138) (g_at ck_X11_expression 73 rfl) rfl (g_ne kd_84) ?_
                refine tz_getAv (n := 141) (a := 101) fk_X11_68 kd_84 (ly_84_41 hL) (g_at ck_X11_expression 74 rfl) rfl ?_
                refine tz_aload0 (n := 142) (g_at ck_X11_expression 75 rfl) rfl (g_ne kd_84) ?_
                refine tz_getIw (n := 145) (kz := 32) fk_X11_226 kd_84 (g_at ck_X11_expression 76 rfl) rfl rfl ?_
                rw [hZ1.2.2.2.1]
                refine tz_zald (n := 146) kd_101 (by omega) (g_at ck_X11_expression 77 rfl) rfl ?_
                rw [hZ1.2.2.2.2.1 (zD (hdN t n zo i)) (by omega) (by omega)]
                refine tz_if_ne (n := 149) (tgt := 196) (g_at ck_X11_expression 78 rfl) rfl rfl (by have h9 := hI1.2.2.2.1 (zD (hdN t n zo i)); omega) (fun h146 => ?_) (fun h146 => ?_)
                · skip
                  refine tz_aload0 (n := 197) (g_at ck_X11_expression 103 rfl) rfl (g_ne kd_84) ?_
                  refine tz_bipush (n := 199) (g_at ck_X11_expression 104 rfl) rfl rfl ?_
                  refine tz_cvI1 (n := 202) (μ' := μX11_isSign) (cb' := 0) (sb' := 0) ml_X11_229 mo_X11_isSign mv_X11_isSign np_X11_isSign kd_84 (g_at ck_X11_expression 105 rfl) (mp_isSign hB hn hG1 hg1 (by decide)) rfl rfl rfl ⟨by decide, by decide⟩ (Nat.le_of_ble_eq_true rfl) (by decide) (by decide) (fun x199 ρ9 m199 hq => ?_)
                  obtain ⟨rfl, hR78, rfl, rfl⟩ := hq
                  have hk43 := ki9_1 t n (sP (zs (hdN t n zo i))) 43
                  refine tz_if_ne (n := 205) (tgt := 214) (g_at ck_X11_expression 106 rfl) rfl rfl (by omega) (fun h202 => ?_) (fun h202 => ?_)
                  · skip
                    have hlt := hkc (by omega)
                    refine tz_aload0 (n := 215) (g_at ck_X11_expression 111 rfl) rfl (g_ne kd_84) ?_
                    refine tz_iconst (n := 216) (g_at ck_X11_expression 112 rfl) rfl ?_
                    refine tz_cvV1 (n := 219) (μ' := μX11_drops) (cb' := 0) (sb' := 0) ml_X11_241 mo_X11_drops mv_X11_drops np_X11_drops kd_84 (g_at ck_X11_expression 113 rfl) (mp_drops hL hR78 hZ1.2.1 hZ1.2.2.1 (by omega) (by omega) hI1.2.2.1 (by decide)) rfl rfl rfl ⟨by decide, by decide⟩ (Nat.le_of_ble_eq_true rfl) (by decide) (by decide) (fun ρ9 m216 hq => ?_)
                    obtain ⟨rfl, hR79, hX216, hb216, hC216, hS216⟩ := hq
                    have hZd := hZ1.drp hR79 hX216 hC216 hS216
                    have hXd : ZX b m1 m216 := ⟨hX216.sub (by decide) (by decide), hb216⟩
                    have hdl := (dr_len (v := 5) (zS (hdN t n zo i)) (zW (hdN t n zo i))).2
                    have hIL : ((zS (drZ 5 (hdN t n zo i))).length : Int) ≤ 700 := by show ((dr 5 (zW (hdN t n zo i)) (zS (hdN t n zo i))).2.length : Int) ≤ 700; omega
                    refine tz_aload0 (n := 220) (g_at ck_X11_expression 114 rfl) rfl (g_ne kd_84) ?_
                    refine tz_aload0 (n := 221) (g_at ck_X11_expression 115 rfl) rfl (g_ne kd_84) ?_
                    refine tz_bipush (n := 223) (g_at ck_X11_expression 116 rfl) rfl rfl ?_
                    refine tz_cvI1 (n := 226) (μ' := μX11_isSign) (cb' := 0) (sb' := 0) ml_X11_229 mo_X11_isSign mv_X11_isSign np_X11_isSign kd_84 (g_at ck_X11_expression 117 rfl) (mp_isSign hB hn hZd.1 hg1 (by decide)) rfl rfl rfl ⟨by decide, by decide⟩ (Nat.le_of_ble_eq_true rfl) (by decide) (by decide) (fun x223 ρ9 m223 hq => ?_)
                    obtain ⟨rfl, hR80, rfl, rfl⟩ := hq
                    rw [show sP (zs (drZ 5 (hdN t n zo i))) = (sP (zs (hdN t n zo i))) from rfl]
                    have hk43b := ki9_1 t n (sP (zs (hdN t n zo i))) 43
                    refine tz_if_eq (n := 229) (tgt := 234) (g_at ck_X11_expression 118 rfl) rfl rfl (by omega) (fun h226 => absurd h226 (by omega)) (fun h226 => ?_)
                    refine tz_bipush (n := 231) (g_at ck_X11_expression 119 rfl) rfl rfl ?_
                    refine tz_goto (tgt := 236) (g_at ck_X11_expression 120 rfl) rfl ?_
                    refine tz_cvV1 (n := 239) (μ' := μX11_waitsFor) (cb' := 0) (sb' := 0) ml_X11_232 mo_X11_waitsFor mv_X11_waitsFor np_X11_waitsFor kd_84 (g_at ck_X11_expression 122 rfl) (mp_waitsFor hL hR80 (by rw [hZd.2.2.1.1]; omega) (by decide)) rfl rfl rfl ⟨by decide, by decide⟩ (Nat.le_of_ble_eq_true rfl) (by decide) (by decide) (fun ρ9 m236 hq => ?_)
                    obtain ⟨rfl, hR81, rfl⟩ := hq
                    have hZw := hZd.wt hR81
                    have hIo : ZI n b (nxZ t n (psh 8 (drZ 5 (hdN t n zo i)))) := hI1.drp.pn (t := t) hg1 (by decide) hlt
                    refine tz_aload0 (n := 240) (g_at ck_X11_expression 123 rfl) rfl (g_ne kd_84) ?_
                    refine tz_cvV0 (n := 243) (μ' := μX11_goes) (cb' := 0) (sb' := 0) ml_X11_195 mo_X11_goes mv_X11_goes np_X11_goes kd_84 (g_at ck_X11_expression 124 rfl) (mp_goes hL hR81 hB hn (show 0 ≤ tQ t n (sP (zs (hdN t n zo i))) ∧ tQ t n (sP (zs (hdN t n zo i))) ≤ n by omega) hZw.1.2.2.1 hZw.1.2.2.2.1 (hZw.1.g hg1).1.2.2.1) rfl rfl rfl ⟨by decide, by decide⟩ (Nat.le_of_ble_eq_true rfl) (by decide) (by decide) (fun ρ9 m240 hq => ?_)
                    obtain ⟨w240, rfl, hR82, hX240, hK240⟩ := hq
                    have hq240 : q23 ρ1 (wr ρ1 84 23 w240) := q23.w
                    have hG240 := hZw.1.nx hg1 hB hR82 hq240 hX240 (by decide) (by decide) hK240
                    have hZg := hZw.s hG240 hX240 (by decide)
                    refine tz_aload0 (n := 244) (g_at ck_X11_expression 125 rfl) rfl (g_ne kd_84) ?_
                    refine tz_iconst (n := 245) (g_at ck_X11_expression 126 rfl) rfl ?_
                    refine tz_cvV1 (n := 248) (μ' := μX11_operand) (cb' := 0) (sb' := 0) ml_X11_244 mo_X11_operand mv_X11_operand np_X11_operand kd_84 (g_at ck_X11_expression 127 rfl) (mp_operand hB hn hZg hIo hg1 (Or.inl rfl) (show 1 ≤ zD (hdN t n zo i) by omega)) rfl rfl rfl ⟨by decide, by decide⟩ (Nat.le_of_ble_eq_true rfl) (by decide) (by decide) (fun ρ9 m245 hq => ?_)
                    obtain ⟨hq245, hR83, hZ245, hX245, hI245, hp245⟩ := hq
                    refine tz_goto (tgt := 332) (g_at ck_X11_expression 128 rfl) rfl ?_
                    refine tz_goto (tgt := 39) (g_at ck_X11_expression 167 rfl) rfl ?_
                    refine tz_drop2 ?_
                    have e9 : hdN t n zo (i + 1) = _ := hd_p (t := t) (n := n) (z := (hdN t n zo i)) (a := 8) hg1 (Or.inl ⟨by omega, rfl⟩)
                    exact ihi _ _ ⟨(hq1.tr hq240).tr hq245, hR83, (((hX1.tr hXd).tr (ZX.x FX.wt (by decide) (by decide) (by decide))).tr (ZX.x hX240 (by decide) (by decide) (by decide))).tr hX245, by rw [e9]; exact hZ245, by rw [e9]; exact hI245, fun h9 => by rw [e9] at h9 ⊢; exact ⟨Int.le_trans (show 1 ≤ zD (hdN t n zo i) by omega) opd_zd, Int.le_trans (show ((i + 1 : Nat) : Int) ≤ (sP (zs (hdN t n zo i))) + 1 by omega) (Int.le_trans hlt.1 (hp245 h9))⟩⟩
                  · skip
                    refine tz_aload0 (n := 206) (g_at ck_X11_expression 107 rfl) rfl (g_ne kd_84) ?_
                    refine tz_bipush (n := 208) (g_at ck_X11_expression 108 rfl) rfl rfl ?_
                    refine tz_cvI1 (n := 211) (μ' := μX11_isSign) (cb' := 0) (sb' := 0) ml_X11_229 mo_X11_isSign mv_X11_isSign np_X11_isSign kd_84 (g_at ck_X11_expression 109 rfl) (mp_isSign hB hn hG1 hg1 (by decide)) rfl rfl rfl ⟨by decide, by decide⟩ (Nat.le_of_ble_eq_true rfl) (by decide) (by decide) (fun x208 ρ9 m208 hq => ?_)
                    obtain ⟨rfl, hR84, rfl, rfl⟩ := hq
                    have hk45 := ki9_1 t n (sP (zs (hdN t n zo i))) 45
                    refine tz_if_eq (n := 214) (tgt := 251) (g_at ck_X11_expression 110 rfl) rfl rfl (by omega) (fun h211 => ?_) (fun h211 => ?_)
                    · skip
                      refine tz_aload0 (n := 252) (g_at ck_X11_expression 129 rfl) rfl (g_ne kd_84) ?_
                      refine tz_bipush (n := 254) (g_at ck_X11_expression 130 rfl) rfl rfl ?_
                      refine tz_cvI1 (n := 257) (μ' := μX11_isSign) (cb' := 0) (sb' := 0) ml_X11_229 mo_X11_isSign mv_X11_isSign np_X11_isSign kd_84 (g_at ck_X11_expression 131 rfl) (mp_isSign hB hn hG1 hg1 (by decide)) rfl rfl rfl ⟨by decide, by decide⟩ (Nat.le_of_ble_eq_true rfl) (by decide) (by decide) (fun x254 ρ9 m254 hq => ?_)
                      obtain ⟨rfl, hR85, rfl, rfl⟩ := hq
                      have hk42 := ki9_1 t n (sP (zs (hdN t n zo i))) 42
                      refine tz_if_ne (n := 260) (tgt := 269) (g_at ck_X11_expression 132 rfl) rfl rfl (by omega) (fun h257 => ?_) (fun h257 => ?_)
                      · skip
                        have hlt := hkc (by omega)
                        refine tz_aload0 (n := 270) (g_at ck_X11_expression 137 rfl) rfl (g_ne kd_84) ?_
                        refine tz_bipush (n := 272) (g_at ck_X11_expression 138 rfl) rfl rfl ?_
                        refine tz_cvV1 (n := 275) (μ' := μX11_drops) (cb' := 0) (sb' := 0) ml_X11_241 mo_X11_drops mv_X11_drops np_X11_drops kd_84 (g_at ck_X11_expression 139 rfl) (mp_drops hL hR85 hZ1.2.1 hZ1.2.2.1 (by omega) (by omega) hI1.2.2.1 (by decide)) rfl rfl rfl ⟨by decide, by decide⟩ (Nat.le_of_ble_eq_true rfl) (by decide) (by decide) (fun ρ9 m272 hq => ?_)
                        obtain ⟨rfl, hR86, hX272, hb272, hC272, hS272⟩ := hq
                        have hZd := hZ1.drp hR86 hX272 hC272 hS272
                        have hXd : ZX b m1 m272 := ⟨hX272.sub (by decide) (by decide), hb272⟩
                        have hdl := (dr_len (v := 6) (zS (hdN t n zo i)) (zW (hdN t n zo i))).2
                        have hIL : ((zS (drZ 6 (hdN t n zo i))).length : Int) ≤ 700 := by show ((dr 6 (zW (hdN t n zo i)) (zS (hdN t n zo i))).2.length : Int) ≤ 700; omega
                        refine tz_aload0 (n := 276) (g_at ck_X11_expression 140 rfl) rfl (g_ne kd_84) ?_
                        refine tz_aload0 (n := 277) (g_at ck_X11_expression 141 rfl) rfl (g_ne kd_84) ?_
                        refine tz_bipush (n := 279) (g_at ck_X11_expression 142 rfl) rfl rfl ?_
                        refine tz_cvI1 (n := 282) (μ' := μX11_isSign) (cb' := 0) (sb' := 0) ml_X11_229 mo_X11_isSign mv_X11_isSign np_X11_isSign kd_84 (g_at ck_X11_expression 143 rfl) (mp_isSign hB hn hZd.1 hg1 (by decide)) rfl rfl rfl ⟨by decide, by decide⟩ (Nat.le_of_ble_eq_true rfl) (by decide) (by decide) (fun x279 ρ9 m279 hq => ?_)
                        obtain ⟨rfl, hR87, rfl, rfl⟩ := hq
                        rw [show sP (zs (drZ 6 (hdN t n zo i))) = (sP (zs (hdN t n zo i))) from rfl]
                        have hk42b := ki9_1 t n (sP (zs (hdN t n zo i))) 42
                        refine tz_if_eq (n := 285) (tgt := 290) (g_at ck_X11_expression 144 rfl) rfl rfl (by omega) (fun h282 => absurd h282 (by omega)) (fun h282 => ?_)
                        refine tz_bipush (n := 287) (g_at ck_X11_expression 145 rfl) rfl rfl ?_
                        refine tz_goto (tgt := 292) (g_at ck_X11_expression 146 rfl) rfl ?_
                        refine tz_cvV1 (n := 295) (μ' := μX11_waitsFor) (cb' := 0) (sb' := 0) ml_X11_232 mo_X11_waitsFor mv_X11_waitsFor np_X11_waitsFor kd_84 (g_at ck_X11_expression 148 rfl) (mp_waitsFor hL hR87 (by rw [hZd.2.2.1.1]; omega) (by decide)) rfl rfl rfl ⟨by decide, by decide⟩ (Nat.le_of_ble_eq_true rfl) (by decide) (by decide) (fun ρ9 m292 hq => ?_)
                        obtain ⟨rfl, hR88, rfl⟩ := hq
                        have hZw := hZd.wt hR88
                        have hIo : ZI n b (nxZ t n (psh 10 (drZ 6 (hdN t n zo i)))) := hI1.drp.pn (t := t) hg1 (by decide) hlt
                        refine tz_aload0 (n := 296) (g_at ck_X11_expression 149 rfl) rfl (g_ne kd_84) ?_
                        refine tz_cvV0 (n := 299) (μ' := μX11_goes) (cb' := 0) (sb' := 0) ml_X11_195 mo_X11_goes mv_X11_goes np_X11_goes kd_84 (g_at ck_X11_expression 150 rfl) (mp_goes hL hR88 hB hn (show 0 ≤ tQ t n (sP (zs (hdN t n zo i))) ∧ tQ t n (sP (zs (hdN t n zo i))) ≤ n by omega) hZw.1.2.2.1 hZw.1.2.2.2.1 (hZw.1.g hg1).1.2.2.1) rfl rfl rfl ⟨by decide, by decide⟩ (Nat.le_of_ble_eq_true rfl) (by decide) (by decide) (fun ρ9 m296 hq => ?_)
                        obtain ⟨w296, rfl, hR89, hX296, hK296⟩ := hq
                        have hq296 : q23 ρ1 (wr ρ1 84 23 w296) := q23.w
                        have hG296 := hZw.1.nx hg1 hB hR89 hq296 hX296 (by decide) (by decide) hK296
                        have hZg := hZw.s hG296 hX296 (by decide)
                        refine tz_aload0 (n := 300) (g_at ck_X11_expression 151 rfl) rfl (g_ne kd_84) ?_
                        refine tz_iconst (n := 301) (g_at ck_X11_expression 152 rfl) rfl ?_
                        refine tz_cvV1 (n := 304) (μ' := μX11_operand) (cb' := 0) (sb' := 0) ml_X11_244 mo_X11_operand mv_X11_operand np_X11_operand kd_84 (g_at ck_X11_expression 153 rfl) (mp_operand hB hn hZg hIo hg1 (Or.inl rfl) (show 1 ≤ zD (hdN t n zo i) by omega)) rfl rfl rfl ⟨by decide, by decide⟩ (Nat.le_of_ble_eq_true rfl) (by decide) (by decide) (fun ρ9 m301 hq => ?_)
                        obtain ⟨hq301, hR90, hZ301, hX301, hI301, hp301⟩ := hq
                        refine tz_goto (tgt := 332) (g_at ck_X11_expression 154 rfl) rfl ?_
                        refine tz_goto (tgt := 39) (g_at ck_X11_expression 167 rfl) rfl ?_
                        refine tz_drop2 ?_
                        have e9 : hdN t n zo (i + 1) = _ := hd_m (t := t) (n := n) (z := (hdN t n zo i)) (a := 10) hg1 (Or.inl ⟨by omega, rfl⟩)
                        exact ihi _ _ ⟨(hq1.tr hq296).tr hq301, hR90, (((hX1.tr hXd).tr (ZX.x FX.wt (by decide) (by decide) (by decide))).tr (ZX.x hX296 (by decide) (by decide) (by decide))).tr hX301, by rw [e9]; exact hZ301, by rw [e9]; exact hI301, fun h9 => by rw [e9] at h9 ⊢; exact ⟨Int.le_trans (show 1 ≤ zD (hdN t n zo i) by omega) opd_zd, Int.le_trans (show ((i + 1 : Nat) : Int) ≤ (sP (zs (hdN t n zo i))) + 1 by omega) (Int.le_trans hlt.1 (hp301 h9))⟩⟩
                      · skip
                        refine tz_aload0 (n := 261) (g_at ck_X11_expression 133 rfl) rfl (g_ne kd_84) ?_
                        refine tz_bipush (n := 263) (g_at ck_X11_expression 134 rfl) rfl rfl ?_
                        refine tz_cvI1 (n := 266) (μ' := μX11_isSign) (cb' := 0) (sb' := 0) ml_X11_229 mo_X11_isSign mv_X11_isSign np_X11_isSign kd_84 (g_at ck_X11_expression 135 rfl) (mp_isSign hB hn hG1 hg1 (by decide)) rfl rfl rfl ⟨by decide, by decide⟩ (Nat.le_of_ble_eq_true rfl) (by decide) (by decide) (fun x263 ρ9 m263 hq => ?_)
                        obtain ⟨rfl, hR91, rfl, rfl⟩ := hq
                        have hk47 := ki9_1 t n (sP (zs (hdN t n zo i))) 47
                        refine tz_if_eq (n := 269) (tgt := 307) (g_at ck_X11_expression 136 rfl) rfl rfl (by omega) (fun h266 => ?_) (fun h266 => ?_)
                        · skip
                          refine tz_aload0 (n := 308) (g_at ck_X11_expression 155 rfl) rfl (g_ne kd_84) ?_
                          refine tz_bipush (n := 310) (g_at ck_X11_expression 156 rfl) rfl rfl ?_
                          refine tz_cvI1 (n := 313) (μ' := μX11_isSign) (cb' := 0) (sb' := 0) ml_X11_229 mo_X11_isSign mv_X11_isSign np_X11_isSign kd_84 (g_at ck_X11_expression 157 rfl) (mp_isSign hB hn hG1 hg1 (by decide)) rfl rfl rfl ⟨by decide, by decide⟩ (Nat.le_of_ble_eq_true rfl) (by decide) (by decide) (fun x310 ρ9 m310 hq => ?_)
                          obtain ⟨rfl, hR92, rfl, rfl⟩ := hq
                          have hk41 := ki9_1 t n (sP (zs (hdN t n zo i))) 41
                          refine tz_if_eq (n := 316) (tgt := 330) (g_at ck_X11_expression 158 rfl) rfl rfl (by omega) (fun h313 => ?_) (fun h313 => ?_)
                          · skip
                            have hns : ¬ stp t n (hdN t n zo i) := fun h9 => by rcases h9.2 with k | k | k | k | k | k; have h8 := (hk51.eq (k := 10) (by decide)).mpr k; omega; have h8 := (hk51.eq (k := 11) (by decide)).mpr k; omega; exact h146 k.2; omega; omega; omega
                            refine tz_iconst (n := 331) (g_at ck_X11_expression 165 rfl) rfl ?_
                            refine tz_istore1 (n := 332) (g_at ck_X11_expression 166 rfl) rfl (by decide) g_hpR ?_
                            refine tz_goto (tgt := 39) (g_at ck_X11_expression 167 rfl) rfl ?_
                            refine tz_iload1 (n := 40) (g_at ck_X11_expression 23 rfl) rfl ?_
                            refine tz_if_eq (n := 43) (tgt := 335) (g_at ck_X11_expression 24 rfl) rfl rfl (by decide) (fun h40 => ?_) (fun h40 => absurd h40 (by omega))
                            refine tz_drop1 ?_
                            refine tz_drop2 ?_
                            have ey := hd_fix hy hfy (i := i) (hd_stay hns)
                            exact hj335 _ _ ⟨hq1, hR92, hX1, by rw [← ey]; exact hZ1, by rw [← ey]; exact hI1⟩
                          · skip
                            have hopn : opn (zS (hdN t n zo i)) = zD (hdN t n zo i) - 1 := hi16.2.2
                            have hlt := hkc (by omega)
                            refine tz_aload0 (n := 317) (g_at ck_X11_expression 159 rfl) rfl (g_ne kd_84) ?_
                            refine tz_cvI0 (n := 320) (μ' := μX11_isOpened) (cb' := 0) (sb' := 0) ml_X11_248 mo_X11_isOpened mv_X11_isOpened np_X11_isOpened kd_84 (g_at ck_X11_expression 160 rfl) (mp_isOpened hZ1 hI1.2.2.1 (by omega)) rfl rfl rfl ⟨by decide, by decide⟩ (Nat.le_of_ble_eq_true rfl) (by decide) (by decide) (fun x317 ρ9 m317 hq => ?_)
                            obtain ⟨rfl, hR93, rfl, rfl⟩ := hq
                            have hif : (if 0 < opn (zS (hdN t n zo i)) then (1 : Int) else 0) = 0 ∨ (if 0 < opn (zS (hdN t n zo i)) then (1 : Int) else 0) = 1 := by split <;> simp
                            refine tz_if_eq (n := 323) (tgt := 330) (g_at ck_X11_expression 161 rfl) rfl rfl (by omega) (fun h320 => ?_) (fun h320 => ?_)
                            · skip
                              have hns : ¬ stp t n (hdN t n zo i) := fun h9 => by rcases h9.2 with k | k | k | k | k | k; have h8 := (hk51.eq (k := 10) (by decide)).mpr k; omega; have h8 := (hk51.eq (k := 11) (by decide)).mpr k; omega; exact h146 k.2; omega; omega; exact absurd h320 (by rw [if_pos (by omega)]; decide)
                              refine tz_iconst (n := 331) (g_at ck_X11_expression 165 rfl) rfl ?_
                              refine tz_istore1 (n := 332) (g_at ck_X11_expression 166 rfl) rfl (by decide) g_hpR ?_
                              refine tz_goto (tgt := 39) (g_at ck_X11_expression 167 rfl) rfl ?_
                              refine tz_iload1 (n := 40) (g_at ck_X11_expression 23 rfl) rfl ?_
                              refine tz_if_eq (n := 43) (tgt := 335) (g_at ck_X11_expression 24 rfl) rfl rfl (by decide) (fun h40 => ?_) (fun h40 => absurd h40 (by omega))
                              refine tz_drop1 ?_
                              refine tz_drop2 ?_
                              have ey := hd_fix hy hfy (i := i) (hd_stay hns)
                              exact hj335 _ _ ⟨hq1, hR93, hX1, by rw [← ey]; exact hZ1, by rw [← ey]; exact hI1⟩
                            · skip
                              have hd2 : 1 < zD (hdN t n zo i) := by by_cases h9 : 0 < opn (zS (hdN t n zo i)); omega; rw [if_neg h9] at h320; exact absurd rfl h320
                              refine tz_aload0 (n := 324) (g_at ck_X11_expression 162 rfl) rfl (g_ne kd_84) ?_
                              refine tz_cvV0 (n := 327) (μ' := μX11_closes) (cb' := 0) (sb' := 0) ml_X11_251 mo_X11_closes mv_X11_closes np_X11_closes kd_84 (g_at ck_X11_expression 163 rfl) (mp_closes hB hn hZ1 hg1 hI1 hd2 (by omega)) rfl rfl rfl ⟨by decide, by decide⟩ (Nat.le_of_ble_eq_true rfl) (by decide) (by decide) (fun ρ9 m324 hq => ?_)
                              obtain ⟨hq324, hR94, hZ324, hX324⟩ := hq
                              refine tz_goto (tgt := 332) (g_at ck_X11_expression 164 rfl) rfl ?_
                              refine tz_goto (tgt := 39) (g_at ck_X11_expression 167 rfl) rfl ?_
                              refine tz_drop2 ?_
                              have e9 : hdN t n zo (i + 1) = nxZ t n (mz (zs (hdN t n zo i)) (zW (drZ 0 (hdN t n zo i))) (zS (drZ 0 (hdN t n zo i))).tail (zD (hdN t n zo i) - 1) (zT (hdN t n zo i))) := hCl (t := t) (n := n) (y := (hdN t n zo i)) hg1 (by omega) hd2
                              exact ihi _ _ ⟨hq1.tr hq324, hR94, hX1.tr hX324, by rw [e9]; exact hZ324, by rw [e9]; exact (hI1.cl (t := t) hg1 hd2 hlt).1, fun _ => by rw [e9]; show 1 ≤ zD (hdN t n zo i) - 1 ∧ ((i + 1 : Nat) : Int) ≤ tQ t n (sP (zs (hdN t n zo i))); omega⟩
                        · skip
                          have hlt := hkc (by omega)
                          refine tz_aload0 (n := 270) (g_at ck_X11_expression 137 rfl) rfl (g_ne kd_84) ?_
                          refine tz_bipush (n := 272) (g_at ck_X11_expression 138 rfl) rfl rfl ?_
                          refine tz_cvV1 (n := 275) (μ' := μX11_drops) (cb' := 0) (sb' := 0) ml_X11_241 mo_X11_drops mv_X11_drops np_X11_drops kd_84 (g_at ck_X11_expression 139 rfl) (mp_drops hL hR91 hZ1.2.1 hZ1.2.2.1 (by omega) (by omega) hI1.2.2.1 (by decide)) rfl rfl rfl ⟨by decide, by decide⟩ (Nat.le_of_ble_eq_true rfl) (by decide) (by decide) (fun ρ9 m272 hq => ?_)
                          obtain ⟨rfl, hR95, hX272, hb272, hC272, hS272⟩ := hq
                          have hZd := hZ1.drp hR95 hX272 hC272 hS272
                          have hXd : ZX b m1 m272 := ⟨hX272.sub (by decide) (by decide), hb272⟩
                          have hdl := (dr_len (v := 6) (zS (hdN t n zo i)) (zW (hdN t n zo i))).2
                          have hIL : ((zS (drZ 6 (hdN t n zo i))).length : Int) ≤ 700 := by show ((dr 6 (zW (hdN t n zo i)) (zS (hdN t n zo i))).2.length : Int) ≤ 700; omega
                          refine tz_aload0 (n := 276) (g_at ck_X11_expression 140 rfl) rfl (g_ne kd_84) ?_
                          refine tz_aload0 (n := 277) (g_at ck_X11_expression 141 rfl) rfl (g_ne kd_84) ?_
                          refine tz_bipush (n := 279) (g_at ck_X11_expression 142 rfl) rfl rfl ?_
                          refine tz_cvI1 (n := 282) (μ' := μX11_isSign) (cb' := 0) (sb' := 0) ml_X11_229 mo_X11_isSign mv_X11_isSign np_X11_isSign kd_84 (g_at ck_X11_expression 143 rfl) (mp_isSign hB hn hZd.1 hg1 (by decide)) rfl rfl rfl ⟨by decide, by decide⟩ (Nat.le_of_ble_eq_true rfl) (by decide) (by decide) (fun x279 ρ9 m279 hq => ?_)
                          obtain ⟨rfl, hR96, rfl, rfl⟩ := hq
                          rw [show sP (zs (drZ 6 (hdN t n zo i))) = (sP (zs (hdN t n zo i))) from rfl]
                          have hk42b := ki9_1 t n (sP (zs (hdN t n zo i))) 42
                          refine tz_if_eq (n := 285) (tgt := 290) (g_at ck_X11_expression 144 rfl) rfl rfl (by omega) (fun h282 => ?_) (fun h282 => absurd h282 (by omega))
                          refine tz_bipush (n := 292) (g_at ck_X11_expression 147 rfl) rfl rfl ?_
                          refine tz_cvV1 (n := 295) (μ' := μX11_waitsFor) (cb' := 0) (sb' := 0) ml_X11_232 mo_X11_waitsFor mv_X11_waitsFor np_X11_waitsFor kd_84 (g_at ck_X11_expression 148 rfl) (mp_waitsFor hL hR96 (by rw [hZd.2.2.1.1]; omega) (by decide)) rfl rfl rfl ⟨by decide, by decide⟩ (Nat.le_of_ble_eq_true rfl) (by decide) (by decide) (fun ρ9 m292 hq => ?_)
                          obtain ⟨rfl, hR97, rfl⟩ := hq
                          have hZw := hZd.wt hR97
                          have hIo : ZI n b (nxZ t n (psh 11 (drZ 6 (hdN t n zo i)))) := hI1.drp.pn (t := t) hg1 (by decide) hlt
                          refine tz_aload0 (n := 296) (g_at ck_X11_expression 149 rfl) rfl (g_ne kd_84) ?_
                          refine tz_cvV0 (n := 299) (μ' := μX11_goes) (cb' := 0) (sb' := 0) ml_X11_195 mo_X11_goes mv_X11_goes np_X11_goes kd_84 (g_at ck_X11_expression 150 rfl) (mp_goes hL hR97 hB hn (show 0 ≤ tQ t n (sP (zs (hdN t n zo i))) ∧ tQ t n (sP (zs (hdN t n zo i))) ≤ n by omega) hZw.1.2.2.1 hZw.1.2.2.2.1 (hZw.1.g hg1).1.2.2.1) rfl rfl rfl ⟨by decide, by decide⟩ (Nat.le_of_ble_eq_true rfl) (by decide) (by decide) (fun ρ9 m296 hq => ?_)
                          obtain ⟨w296, rfl, hR98, hX296, hK296⟩ := hq
                          have hq296 : q23 ρ1 (wr ρ1 84 23 w296) := q23.w
                          have hG296 := hZw.1.nx hg1 hB hR98 hq296 hX296 (by decide) (by decide) hK296
                          have hZg := hZw.s hG296 hX296 (by decide)
                          refine tz_aload0 (n := 300) (g_at ck_X11_expression 151 rfl) rfl (g_ne kd_84) ?_
                          refine tz_iconst (n := 301) (g_at ck_X11_expression 152 rfl) rfl ?_
                          refine tz_cvV1 (n := 304) (μ' := μX11_operand) (cb' := 0) (sb' := 0) ml_X11_244 mo_X11_operand mv_X11_operand np_X11_operand kd_84 (g_at ck_X11_expression 153 rfl) (mp_operand hB hn hZg hIo hg1 (Or.inl rfl) (show 1 ≤ zD (hdN t n zo i) by omega)) rfl rfl rfl ⟨by decide, by decide⟩ (Nat.le_of_ble_eq_true rfl) (by decide) (by decide) (fun ρ9 m301 hq => ?_)
                          obtain ⟨hq301, hR99, hZ301, hX301, hI301, hp301⟩ := hq
                          refine tz_goto (tgt := 332) (g_at ck_X11_expression 154 rfl) rfl ?_
                          refine tz_goto (tgt := 39) (g_at ck_X11_expression 167 rfl) rfl ?_
                          refine tz_drop2 ?_
                          have e9 : hdN t n zo (i + 1) = _ := hd_m (t := t) (n := n) (z := (hdN t n zo i)) (a := 11) hg1 (Or.inr ⟨by omega, rfl⟩)
                          exact ihi _ _ ⟨(hq1.tr hq296).tr hq301, hR99, (((hX1.tr hXd).tr (ZX.x FX.wt (by decide) (by decide) (by decide))).tr (ZX.x hX296 (by decide) (by decide) (by decide))).tr hX301, by rw [e9]; exact hZ301, by rw [e9]; exact hI301, fun h9 => by rw [e9] at h9 ⊢; exact ⟨Int.le_trans (show 1 ≤ zD (hdN t n zo i) by omega) opd_zd, Int.le_trans (show ((i + 1 : Nat) : Int) ≤ (sP (zs (hdN t n zo i))) + 1 by omega) (Int.le_trans hlt.1 (hp301 h9))⟩⟩
                    · skip
                      have hlt := hkc (by omega)
                      refine tz_aload0 (n := 215) (g_at ck_X11_expression 111 rfl) rfl (g_ne kd_84) ?_
                      refine tz_iconst (n := 216) (g_at ck_X11_expression 112 rfl) rfl ?_
                      refine tz_cvV1 (n := 219) (μ' := μX11_drops) (cb' := 0) (sb' := 0) ml_X11_241 mo_X11_drops mv_X11_drops np_X11_drops kd_84 (g_at ck_X11_expression 113 rfl) (mp_drops hL hR84 hZ1.2.1 hZ1.2.2.1 (by omega) (by omega) hI1.2.2.1 (by decide)) rfl rfl rfl ⟨by decide, by decide⟩ (Nat.le_of_ble_eq_true rfl) (by decide) (by decide) (fun ρ9 m216 hq => ?_)
                      obtain ⟨rfl, hR100, hX216, hb216, hC216, hS216⟩ := hq
                      have hZd := hZ1.drp hR100 hX216 hC216 hS216
                      have hXd : ZX b m1 m216 := ⟨hX216.sub (by decide) (by decide), hb216⟩
                      have hdl := (dr_len (v := 5) (zS (hdN t n zo i)) (zW (hdN t n zo i))).2
                      have hIL : ((zS (drZ 5 (hdN t n zo i))).length : Int) ≤ 700 := by show ((dr 5 (zW (hdN t n zo i)) (zS (hdN t n zo i))).2.length : Int) ≤ 700; omega
                      refine tz_aload0 (n := 220) (g_at ck_X11_expression 114 rfl) rfl (g_ne kd_84) ?_
                      refine tz_aload0 (n := 221) (g_at ck_X11_expression 115 rfl) rfl (g_ne kd_84) ?_
                      refine tz_bipush (n := 223) (g_at ck_X11_expression 116 rfl) rfl rfl ?_
                      refine tz_cvI1 (n := 226) (μ' := μX11_isSign) (cb' := 0) (sb' := 0) ml_X11_229 mo_X11_isSign mv_X11_isSign np_X11_isSign kd_84 (g_at ck_X11_expression 117 rfl) (mp_isSign hB hn hZd.1 hg1 (by decide)) rfl rfl rfl ⟨by decide, by decide⟩ (Nat.le_of_ble_eq_true rfl) (by decide) (by decide) (fun x223 ρ9 m223 hq => ?_)
                      obtain ⟨rfl, hR101, rfl, rfl⟩ := hq
                      rw [show sP (zs (drZ 5 (hdN t n zo i))) = (sP (zs (hdN t n zo i))) from rfl]
                      have hk43b := ki9_1 t n (sP (zs (hdN t n zo i))) 43
                      refine tz_if_eq (n := 229) (tgt := 234) (g_at ck_X11_expression 118 rfl) rfl rfl (by omega) (fun h226 => ?_) (fun h226 => absurd h226 (by omega))
                      refine tz_bipush (n := 236) (g_at ck_X11_expression 121 rfl) rfl rfl ?_
                      refine tz_cvV1 (n := 239) (μ' := μX11_waitsFor) (cb' := 0) (sb' := 0) ml_X11_232 mo_X11_waitsFor mv_X11_waitsFor np_X11_waitsFor kd_84 (g_at ck_X11_expression 122 rfl) (mp_waitsFor hL hR101 (by rw [hZd.2.2.1.1]; omega) (by decide)) rfl rfl rfl ⟨by decide, by decide⟩ (Nat.le_of_ble_eq_true rfl) (by decide) (by decide) (fun ρ9 m236 hq => ?_)
                      obtain ⟨rfl, hR102, rfl⟩ := hq
                      have hZw := hZd.wt hR102
                      have hIo : ZI n b (nxZ t n (psh 9 (drZ 5 (hdN t n zo i)))) := hI1.drp.pn (t := t) hg1 (by decide) hlt
                      refine tz_aload0 (n := 240) (g_at ck_X11_expression 123 rfl) rfl (g_ne kd_84) ?_
                      refine tz_cvV0 (n := 243) (μ' := μX11_goes) (cb' := 0) (sb' := 0) ml_X11_195 mo_X11_goes mv_X11_goes np_X11_goes kd_84 (g_at ck_X11_expression 124 rfl) (mp_goes hL hR102 hB hn (show 0 ≤ tQ t n (sP (zs (hdN t n zo i))) ∧ tQ t n (sP (zs (hdN t n zo i))) ≤ n by omega) hZw.1.2.2.1 hZw.1.2.2.2.1 (hZw.1.g hg1).1.2.2.1) rfl rfl rfl ⟨by decide, by decide⟩ (Nat.le_of_ble_eq_true rfl) (by decide) (by decide) (fun ρ9 m240 hq => ?_)
                      obtain ⟨w240, rfl, hR103, hX240, hK240⟩ := hq
                      have hq240 : q23 ρ1 (wr ρ1 84 23 w240) := q23.w
                      have hG240 := hZw.1.nx hg1 hB hR103 hq240 hX240 (by decide) (by decide) hK240
                      have hZg := hZw.s hG240 hX240 (by decide)
                      refine tz_aload0 (n := 244) (g_at ck_X11_expression 125 rfl) rfl (g_ne kd_84) ?_
                      refine tz_iconst (n := 245) (g_at ck_X11_expression 126 rfl) rfl ?_
                      refine tz_cvV1 (n := 248) (μ' := μX11_operand) (cb' := 0) (sb' := 0) ml_X11_244 mo_X11_operand mv_X11_operand np_X11_operand kd_84 (g_at ck_X11_expression 127 rfl) (mp_operand hB hn hZg hIo hg1 (Or.inl rfl) (show 1 ≤ zD (hdN t n zo i) by omega)) rfl rfl rfl ⟨by decide, by decide⟩ (Nat.le_of_ble_eq_true rfl) (by decide) (by decide) (fun ρ9 m245 hq => ?_)
                      obtain ⟨hq245, hR104, hZ245, hX245, hI245, hp245⟩ := hq
                      refine tz_goto (tgt := 332) (g_at ck_X11_expression 128 rfl) rfl ?_
                      refine tz_goto (tgt := 39) (g_at ck_X11_expression 167 rfl) rfl ?_
                      refine tz_drop2 ?_
                      have e9 : hdN t n zo (i + 1) = _ := hd_p (t := t) (n := n) (z := (hdN t n zo i)) (a := 9) hg1 (Or.inr ⟨by omega, rfl⟩)
                      exact ihi _ _ ⟨(hq1.tr hq240).tr hq245, hR104, (((hX1.tr hXd).tr (ZX.x FX.wt (by decide) (by decide) (by decide))).tr (ZX.x hX240 (by decide) (by decide) (by decide))).tr hX245, by rw [e9]; exact hZ245, by rw [e9]; exact hI245, fun h9 => by rw [e9] at h9 ⊢; exact ⟨Int.le_trans (show 1 ≤ zD (hdN t n zo i) by omega) opd_zd, Int.le_trans (show ((i + 1 : Nat) : Int) ≤ (sP (zs (hdN t n zo i))) + 1 by omega) (Int.le_trans hlt.1 (hp245 h9))⟩⟩
                · skip
                  have hlt := hkc (by omega)
                  refine tz_aload0 (n := 150) (g_at ck_X11_expression 79 rfl) rfl (g_ne kd_84) ?_
                  refine tz_iconst (n := 151) (g_at ck_X11_expression 80 rfl) rfl ?_
                  refine tz_cvV1 (n := 154) (μ' := μX11_drops) (cb' := 0) (sb' := 0) ml_X11_241 mo_X11_drops mv_X11_drops np_X11_drops kd_84 (g_at ck_X11_expression 81 rfl) (mp_drops hL hR50 hZ1.2.1 hZ1.2.2.1 (by omega) (by omega) hI1.2.2.1 (by decide)) rfl rfl rfl ⟨by decide, by decide⟩ (Nat.le_of_ble_eq_true rfl) (by decide) (by decide) (fun ρ9 m151 hq => ?_)
                  obtain ⟨rfl, hR105, hX151, hb151, hC151, hS151⟩ := hq
                  have hZd := hZ1.drp hR105 hX151 hC151 hS151
                  have hXd : ZX b m1 m151 := ⟨hX151.sub (by decide) (by decide), hb151⟩
                  have hdl := (dr_len (v := 4) (zS (hdN t n zo i)) (zW (hdN t n zo i))).2
                  have hIL : ((zS (drZ 4 (hdN t n zo i))).length : Int) ≤ 700 := by show ((dr 4 (zW (hdN t n zo i)) (zS (hdN t n zo i))).2.length : Int) ≤ 700; omega
                  refine tz_aload0 (n := 155) (g_at ck_X11_expression 82 rfl) rfl (g_ne kd_84) ?_
                  refine tz_aload0 (n := 156) (g_at ck_X11_expression 83 rfl) rfl (g_ne kd_84) ?_
                  refine tz_bipush (n := 158) (g_at ck_X11_expression 84 rfl) rfl rfl ?_
                  refine tz_cvI1 (n := 161) (μ' := μX11_isSign) (cb' := 0) (sb' := 0) ml_X11_229 mo_X11_isSign mv_X11_isSign np_X11_isSign kd_84 (g_at ck_X11_expression 85 rfl) (mp_isSign hB hn hZd.1 hg1 (by decide)) rfl rfl rfl ⟨by decide, by decide⟩ (Nat.le_of_ble_eq_true rfl) (by decide) (by decide) (fun x158 ρ9 m158 hq => ?_)
                  obtain ⟨rfl, hR106, rfl, rfl⟩ := hq
                  rw [show sP (zs (drZ 4 (hdN t n zo i))) = (sP (zs (hdN t n zo i))) from rfl]
                  have hk60b := ki9_1 t n (sP (zs (hdN t n zo i))) 60
                  refine tz_if_eq (n := 164) (tgt := 169) (g_at ck_X11_expression 86 rfl) rfl rfl (by omega) (fun h161 => ?_) (fun h161 => absurd h161 (by omega))
                  refine tz_bipush (n := 171) (g_at ck_X11_expression 89 rfl) rfl rfl ?_
                  refine tz_cvV1 (n := 174) (μ' := μX11_waitsFor) (cb' := 0) (sb' := 0) ml_X11_232 mo_X11_waitsFor mv_X11_waitsFor np_X11_waitsFor kd_84 (g_at ck_X11_expression 90 rfl) (mp_waitsFor hL hR106 (by rw [hZd.2.2.1.1]; omega) (by decide)) rfl rfl rfl ⟨by decide, by decide⟩ (Nat.le_of_ble_eq_true rfl) (by decide) (by decide) (fun ρ9 m171 hq => ?_)
                  obtain ⟨rfl, hR107, rfl⟩ := hq
                  have hZw := hZd.wt hR107
                  refine tz_aload0 (n := 175) (g_at ck_X11_expression 91 rfl) rfl (g_ne kd_84) ?_
                  refine tz_getAv (n := 178) (a := 101) fk_X11_68 kd_84 (ly_84_41 hL) (g_at ck_X11_expression 92 rfl) rfl ?_
                  refine tz_aload0 (n := 179) (g_at ck_X11_expression 93 rfl) rfl (g_ne kd_84) ?_
                  refine tz_getIw (n := 182) (kz := 32) fk_X11_226 kd_84 (g_at ck_X11_expression 94 rfl) rfl rfl ?_
                  rw [show ∀ a : Int, (wtM m151 a) 84 32 = zD (hdN t n zo i) from fun a => by rw [FX.wt.2 32 (by decide), hX151.2 32 (by decide)]; exact hZ1.2.2.2.1]
                  refine tz_iconst (n := 183) (g_at ck_X11_expression 95 rfl) rfl ?_
                  refine tz_zastr (n := 184) kd_101 (by omega) (g_at ck_X11_expression 96 rfl) rfl hR107 (Or.inr rfl) (fun hR108 => ?_)
                  have hZt := hZw.ts hR108 (by show 0 ≤ zD (hdN t n zo i); omega)
                  have hIo : ZI n b (nxZ t n (tsZ 1 (psh 7 (drZ 4 (hdN t n zo i))))) := (hI1.drp.pn (t := t) hg1 (by decide) hlt).ts (Or.inr rfl)
                  refine tz_aload0 (n := 185) (g_at ck_X11_expression 97 rfl) rfl (g_ne kd_84) ?_
                  refine tz_cvV0 (n := 188) (μ' := μX11_goes) (cb' := 0) (sb' := 0) ml_X11_195 mo_X11_goes mv_X11_goes np_X11_goes kd_84 (g_at ck_X11_expression 98 rfl) (mp_goes hL hR108 hB hn (show 0 ≤ tQ t n (sP (zs (hdN t n zo i))) ∧ tQ t n (sP (zs (hdN t n zo i))) ≤ n by omega) hZt.1.2.2.1 hZt.1.2.2.2.1 (hZt.1.g hg1).1.2.2.1) rfl rfl rfl ⟨by decide, by decide⟩ (Nat.le_of_ble_eq_true rfl) (by decide) (by decide) (fun ρ9 m185 hq => ?_)
                  obtain ⟨w185, rfl, hR109, hX185, hK185⟩ := hq
                  have hq185 : q23 ρ1 (wr ρ1 84 23 w185) := q23.w
                  have hG185 := hZt.1.nx hg1 hB hR109 hq185 hX185 (by decide) (by decide) hK185
                  have hZg := hZt.s hG185 hX185 (by decide)
                  refine tz_aload0 (n := 189) (g_at ck_X11_expression 99 rfl) rfl (g_ne kd_84) ?_
                  refine tz_iconst (n := 190) (g_at ck_X11_expression 100 rfl) rfl ?_
                  refine tz_cvV1 (n := 193) (μ' := μX11_operand) (cb' := 0) (sb' := 0) ml_X11_244 mo_X11_operand mv_X11_operand np_X11_operand kd_84 (g_at ck_X11_expression 101 rfl) (mp_operand hB hn hZg hIo hg1 (Or.inl rfl) (show 1 ≤ zD (hdN t n zo i) by omega)) rfl rfl rfl ⟨by decide, by decide⟩ (Nat.le_of_ble_eq_true rfl) (by decide) (by decide) (fun ρ9 m190 hq => ?_)
                  obtain ⟨hq190, hR110, hZ190, hX190, hI190, hp190⟩ := hq
                  refine tz_goto (tgt := 332) (g_at ck_X11_expression 102 rfl) rfl ?_
                  refine tz_goto (tgt := 39) (g_at ck_X11_expression 167 rfl) rfl ?_
                  refine tz_drop2 ?_
                  have e9 : hdN t n zo (i + 1) = _ := hd_t (t := t) (n := n) (z := (hdN t n zo i)) (a := 7) hg1 (by omega) (Or.inr ⟨by omega, rfl⟩) h146
                  exact ihi _ _ ⟨(hq1.tr hq185).tr hq190, hR110, ((((hX1.tr hXd).tr (ZX.x FX.wt (by decide) (by decide) (by decide))).tr (ZX.x (L := [101]) (ks := []) (FX.rf.w (by decide) (fun h9 => absurd h9 (by decide))) (by decide) (by decide) (by decide))).tr (ZX.x hX185 (by decide) (by decide) (by decide))).tr hX190, by rw [e9]; exact hZ190, by rw [e9]; exact hI190, fun h9 => by rw [e9] at h9 ⊢; exact ⟨Int.le_trans (show 1 ≤ zD (hdN t n zo i) by omega) opd_zd, Int.le_trans (show ((i + 1 : Nat) : Int) ≤ (sP (zs (hdN t n zo i))) + 1 by omega) (Int.le_trans hlt.1 (hp190 h9))⟩⟩
          · skip
            have hwo : wdI t n (sP (zs (hdN t n zo i))) 13 = 1 := (hk51.eq (k := 11) (by decide)).mp (by omega)
            have hwn : ¬ wdI t n (sP (zs (hdN t n zo i))) 12 = 1 := fun h9 => by have h8 := (hk51.eq (k := 10) (by decide)).mpr h9; omega
            have hk1 : tK t n (sP (zs (hdN t n zo i))) = 1 := wd_1 hwo
            have hlt := hkc (by omega)
            refine tz_aload0 (n := 68) (g_at ck_X11_expression 37 rfl) rfl (g_ne kd_84) ?_
            refine tz_iload2 (n := 69) (g_at ck_X11_expression 38 rfl) rfl ?_
            refine tz_bipush (n := 71) (g_at ck_X11_expression 39 rfl) rfl rfl ?_
            refine tz_icmp_ne (n := 74) (tgt := 78) (g_at ck_X11_expression 40 rfl) rfl rfl (by omega) (fun h71 => ?_) (fun h71 => absurd h71 (by omega))
            refine tz_iconst (n := 79) (g_at ck_X11_expression 43 rfl) rfl ?_
            refine tz_cvV1 (n := 82) (μ' := μX11_drops) (cb' := 0) (sb' := 0) ml_X11_241 mo_X11_drops mv_X11_drops np_X11_drops kd_84 (g_at ck_X11_expression 44 rfl) (mp_drops hL hR10 hZ1.2.1 hZ1.2.2.1 (by omega) (by omega) hI1.2.2.1 (by decide)) rfl rfl rfl ⟨by decide, by decide⟩ (Nat.le_of_ble_eq_true rfl) (by decide) (by decide) (fun ρ9 m79 hq => ?_)
            obtain ⟨rfl, hR111, hX79, hb79, hC79, hS79⟩ := hq
            have hZd := hZ1.drp hR111 hX79 hC79 hS79
            have hXd : ZX b m1 m79 := ⟨hX79.sub (by decide) (by decide), hb79⟩
            have hdl := (dr_len (v := 1) (zS (hdN t n zo i)) (zW (hdN t n zo i))).2
            have hIL : ((zS (drZ 1 (hdN t n zo i))).length : Int) ≤ 700 := by show ((dr 1 (zW (hdN t n zo i)) (zS (hdN t n zo i))).2.length : Int) ≤ 700; omega
            refine tz_aload0 (n := 83) (g_at ck_X11_expression 45 rfl) rfl (g_ne kd_84) ?_
            refine tz_iload2 (n := 84) (g_at ck_X11_expression 46 rfl) rfl ?_
            refine tz_bipush (n := 86) (g_at ck_X11_expression 47 rfl) rfl rfl ?_
            refine tz_icmp_ne (n := 89) (tgt := 93) (g_at ck_X11_expression 48 rfl) rfl rfl (by omega) (fun h86 => ?_) (fun h86 => absurd h86 (by omega))
            refine tz_iconst (n := 94) (g_at ck_X11_expression 51 rfl) rfl ?_
            refine tz_cvV1 (n := 97) (μ' := μX11_waitsFor) (cb' := 0) (sb' := 0) ml_X11_232 mo_X11_waitsFor mv_X11_waitsFor np_X11_waitsFor kd_84 (g_at ck_X11_expression 52 rfl) (mp_waitsFor hL hR111 (by rw [hZd.2.2.1.1]; omega) (by decide)) rfl rfl rfl ⟨by decide, by decide⟩ (Nat.le_of_ble_eq_true rfl) (by decide) (by decide) (fun ρ9 m94 hq => ?_)
            obtain ⟨rfl, hR112, rfl⟩ := hq
            have hZw := hZd.wt hR112
            refine tz_aload0 (n := 98) (g_at ck_X11_expression 53 rfl) rfl (g_ne kd_84) ?_
            refine tz_getAv (n := 101) (a := 101) fk_X11_68 kd_84 (ly_84_41 hL) (g_at ck_X11_expression 54 rfl) rfl ?_
            refine tz_aload0 (n := 102) (g_at ck_X11_expression 55 rfl) rfl (g_ne kd_84) ?_
            refine tz_getIw (n := 105) (kz := 32) fk_X11_226 kd_84 (g_at ck_X11_expression 56 rfl) rfl rfl ?_
            rw [show ∀ a : Int, (wtM m79 a) 84 32 = zD (hdN t n zo i) from fun a => by rw [FX.wt.2 32 (by decide), hX79.2 32 (by decide)]; exact hZ1.2.2.2.1]
            refine tz_iconst (n := 106) (g_at ck_X11_expression 57 rfl) rfl ?_
            refine tz_zastr (n := 107) kd_101 (by omega) (g_at ck_X11_expression 58 rfl) rfl hR112 (Or.inl rfl) (fun hR113 => ?_)
            have hZt := hZw.ts hR113 (by show 0 ≤ zD (hdN t n zo i); omega)
            have hIo : ZI n b (nxZ t n (tsZ 0 (psh 5 (drZ 1 (hdN t n zo i))))) := (hI1.drp.pn (t := t) hg1 (by decide) hlt).ts (Or.inl rfl)
            refine tz_aload0 (n := 108) (g_at ck_X11_expression 59 rfl) rfl (g_ne kd_84) ?_
            refine tz_cvV0 (n := 111) (μ' := μX11_goes) (cb' := 0) (sb' := 0) ml_X11_195 mo_X11_goes mv_X11_goes np_X11_goes kd_84 (g_at ck_X11_expression 60 rfl) (mp_goes hL hR113 hB hn (show 0 ≤ tQ t n (sP (zs (hdN t n zo i))) ∧ tQ t n (sP (zs (hdN t n zo i))) ≤ n by omega) hZt.1.2.2.1 hZt.1.2.2.2.1 (hZt.1.g hg1).1.2.2.1) rfl rfl rfl ⟨by decide, by decide⟩ (Nat.le_of_ble_eq_true rfl) (by decide) (by decide) (fun ρ9 m108 hq => ?_)
            obtain ⟨w108, rfl, hR114, hX108, hK108⟩ := hq
            have hq108 : q23 ρ1 (wr ρ1 84 23 w108) := q23.w
            have hG108 := hZt.1.nx hg1 hB hR114 hq108 hX108 (by decide) (by decide) hK108
            have hZg := hZt.s hG108 hX108 (by decide)
            refine tz_aload0 (n := 112) (g_at ck_X11_expression 61 rfl) rfl (g_ne kd_84) ?_
            refine tz_iconst (n := 113) (g_at ck_X11_expression 62 rfl) rfl ?_
            refine tz_cvV1 (n := 116) (μ' := μX11_operand) (cb' := 0) (sb' := 0) ml_X11_244 mo_X11_operand mv_X11_operand np_X11_operand kd_84 (g_at ck_X11_expression 63 rfl) (mp_operand hB hn hZg hIo hg1 (Or.inr rfl) (show 1 ≤ zD (hdN t n zo i) by omega)) rfl rfl rfl ⟨by decide, by decide⟩ (Nat.le_of_ble_eq_true rfl) (by decide) (by decide) (fun ρ9 m113 hq => ?_)
            obtain ⟨hq113, hR115, hZ113, hX113, hI113, hp113⟩ := hq
            refine tz_goto (tgt := 332) (g_at ck_X11_expression 64 rfl) rfl ?_
            refine tz_goto (tgt := 39) (g_at ck_X11_expression 167 rfl) rfl ?_
            refine tz_drop2 ?_
            have e9 : hdN t n zo (i + 1) = _ := hd_o hg1 hwn hwo
            exact ihi _ _ ⟨(hq1.tr hq108).tr hq113, hR115, ((((hX1.tr hXd).tr (ZX.x FX.wt (by decide) (by decide) (by decide))).tr (ZX.x (L := [101]) (ks := []) (FX.rf.w (by decide) (fun h9 => absurd h9 (by decide))) (by decide) (by decide) (by decide))).tr (ZX.x hX108 (by decide) (by decide) (by decide))).tr hX113, by rw [e9]; exact hZ113, by rw [e9]; exact hI113, fun h9 => by rw [e9] at h9 ⊢; exact ⟨Int.le_trans (show 1 ≤ zD (hdN t n zo i) by omega) opd_zd, Int.le_trans (show ((i + 1 : Nat) : Int) ≤ (sP (zs (hdN t n zo i))) + 1 by omega) (Int.le_trans hlt.1 (hp113 h9))⟩⟩
  · intro ρ3 m3 hinv
    obtain ⟨hq3, hR3, hX3, hZ3, hI3⟩ := hinv
    have hG3 := hZ3.1
    have hL := hG3.2.1
    have hbb3 := hG3.b
    have hgd3 := gd9_1 (m3 84 13)
    have hi31 := hI3.1
    have hi32 := hI3.2.1
    have hi35 := hI3.2.2.2.2.1
    refine tz_aload0 (n := 336) (g_at ck_X11_expression 168 rfl) rfl (g_ne kd_84) ?_
    refine tz_cvI0 (n := 339) (μ' := μX11_isGood) (cb' := 0) (sb' := 0) ml_X11_191 mo_X11_isGood mv_X11_isGood np_X11_isGood kd_84 (g_at ck_X11_expression 169 rfl) (mp_isGood hR3) rfl rfl rfl ⟨by decide, by decide⟩ (Nat.le_of_ble_eq_true rfl) (by decide) (by decide) (fun x336 ρ9 m336 hq => ?_)
    obtain ⟨rfl, hR116, rfl, rfl⟩ := hq
    refine tz_if_eq (n := 342) (tgt := 355) (g_at ck_X11_expression 170 rfl) rfl rfl (by omega) (fun h339 => ?_) (fun h339 => ?_)
    · skip
      have hb9 : (zs y).1 = 0 := hbb3.2.resolve_right (fun h9 => by have h8 := hbb3.1.mp h9; omega)
      have hBd := hres.resolve_left (fun h9 => by have h8 := h9.1.1.1; omega)
      have hAf : sF (xk t n 6 s) = sF (zs y) ∧ sW (xk t n 6 s) = sW (zs y) := by rcases hBd.2 with h9 | h9; exact ⟨h9.2.1.symm, h9.2.2.symm⟩; exact absurd h9.1 (by omega)
      refine tz_aload0 (n := 356) (g_at ck_X11_expression 178 rfl) rfl (g_ne kd_84) ?_
      refine tz_iconst (n := 357) (g_at ck_X11_expression 179 rfl) rfl ?_
      refine tz_cvV1 (n := 360) (μ' := μX11_drops) (cb' := 0) (sb' := 0) ml_X11_241 mo_X11_drops mv_X11_drops np_X11_drops kd_84 (g_at ck_X11_expression 180 rfl) (mp_drops hL hR116 hZ3.2.1 hZ3.2.2.1 (show 0 ≤ b ∧ b + ((zW y).length : Int) + ((zS y).length : Int) ≤ 1399 by omega) (show (zS y).length ≤ 900 by omega) hI3.2.2.1 (by decide)) rfl rfl rfl ⟨by decide, by decide⟩ (Nat.le_of_ble_eq_true rfl) (by decide) (by decide) (fun ρ9 m357 hq => ?_)
      obtain ⟨rfl, hR117, hX357, hb357, hC357, hS357⟩ := hq
      have hdl := dr_len (v := 0) (zS y) (zW y)
      have hC357 : CdC m357 b (dr 0 (zW y) (zS y)).1 := hC357
      refine tz_aload0 (n := 361) (g_at ck_X11_expression 181 rfl) rfl (g_ne kd_84) ?_
      refine tz_iconst (n := 362) (g_at ck_X11_expression 182 rfl) rfl ?_
      refine tz_cvV1 (n := 365) (μ' := μX11_puts) (cb' := 0) (sb' := 0) ml_X11_213 mo_X11_puts mv_X11_puts np_X11_puts kd_84 (g_at ck_X11_expression 183 rfl) (mp_puts hL hR117 (by rw [hC357.1]; omega) (by decide)) rfl rfl rfl ⟨by decide, by decide⟩ (Nat.le_of_ble_eq_true rfl) (by decide) (by decide) (fun ρ9 m362 hq => ?_)
      obtain ⟨rfl, hR118, rfl⟩ := hq
      exact tz_vret (g_at ck_X11_expression 184 rfl) rfl (rV_mk ⟨hq3, hR118, ((hG3).x hR118 rfl (FX.tr (L := [84, 99]) (ks := [28, 31]) (hX357) (FX.pu.sub (by decide) (by decide))) (by decide) (by decide)).c (by rw [hBd.1]; exact hb9.symm) (fun h9 => by omega) (fun _ => hAf), (hX0.tr ((ZX.tr (hX3) (ZX.tr (show ZX b m3 m357 from ⟨hX357.sub (by decide) (by decide), hb357⟩) (ZX.pu (by rw [hC357.1]; omega)))).1.sub (by decide) (by decide))), (below.x hXm (by decide)).tr (ZX.tr (hX3) (ZX.tr (show ZX b m3 m357 from ⟨hX357.sub (by decide) (by decide), hb357⟩) (ZX.pu (by rw [hC357.1]; omega)))).2, (fun i i1 i2 => by rw [FX.pu.1 101 (by decide), hX357.1 101 (by decide), hZ3.2.2.2.2.1 i i1 i2]; exact hI3.2.2.2.1 i), fun h9 => absurd h9 (by rw [hBd.1]; decide)⟩)
    · skip
      have hg3 : (zs y).1 = 1 := hbb3.1.mpr (by omega)
      have hi36 := hI3.2.2.2.2.2 hg3
      refine tz_aload0 (n := 343) (g_at ck_X11_expression 171 rfl) rfl (g_ne kd_84) ?_
      refine tz_getIw (n := 346) (kz := 32) fk_X11_226 kd_84 (g_at ck_X11_expression 172 rfl) rfl rfl ?_
      rw [hZ3.2.2.2.1]
      refine tz_iconst (n := 347) (g_at ck_X11_expression 173 rfl) rfl ?_
      refine tz_icmp_le (n := 350) (tgt := 355) (g_at ck_X11_expression 174 rfl) rfl rfl (by omega) (fun h347 => ?_) (fun h347 => ?_)
      · skip
        have hO := (hres.resolve_right (fun h9 => by rcases h9.2 with h8 | h8; have h7 := h8.1; omega; have h7 := h8.2.2.1; omega)).1
        have hO2 := hO.2
        obtain ⟨N, n1, n2, n3, n4, n5, n6⟩ := hO2
        have eD : dr 0 (zW y) (zS y) = (encL N, []) := by rw [← dr_dr (show (0 : Int) ≤ 1 by decide) (zS y) (zW y), n3]; rfl
        refine tz_aload0 (n := 356) (g_at ck_X11_expression 178 rfl) rfl (g_ne kd_84) ?_
        refine tz_iconst (n := 357) (g_at ck_X11_expression 179 rfl) rfl ?_
        refine tz_cvV1 (n := 360) (μ' := μX11_drops) (cb' := 0) (sb' := 0) ml_X11_241 mo_X11_drops mv_X11_drops np_X11_drops kd_84 (g_at ck_X11_expression 180 rfl) (mp_drops hL hR116 hZ3.2.1 hZ3.2.2.1 (show 0 ≤ b ∧ b + ((zW y).length : Int) + ((zS y).length : Int) ≤ 1399 by omega) (show (zS y).length ≤ 900 by omega) hI3.2.2.1 (by decide)) rfl rfl rfl ⟨by decide, by decide⟩ (Nat.le_of_ble_eq_true rfl) (by decide) (by decide) (fun ρ9 m357 hq => ?_)
        obtain ⟨rfl, hR119, hX357, hb357, hC357, hS357⟩ := hq
        have hdl := dr_len (v := 0) (zS y) (zW y)
        have hC357 : CdC m357 b (dr 0 (zW y) (zS y)).1 := hC357
        refine tz_aload0 (n := 361) (g_at ck_X11_expression 181 rfl) rfl (g_ne kd_84) ?_
        refine tz_iconst (n := 362) (g_at ck_X11_expression 182 rfl) rfl ?_
        refine tz_cvV1 (n := 365) (μ' := μX11_puts) (cb' := 0) (sb' := 0) ml_X11_213 mo_X11_puts mv_X11_puts np_X11_puts kd_84 (g_at ck_X11_expression 183 rfl) (mp_puts hL hR119 (by rw [hC357.1]; omega) (by decide)) rfl rfl rfl ⟨by decide, by decide⟩ (Nat.le_of_ble_eq_true rfl) (by decide) (by decide) (fun ρ9 m362 hq => ?_)
        obtain ⟨rfl, hR120, rfl⟩ := hq
        have hLN : (encL N).length ≤ (zW y).length + (zS y).length := by have h9 := hdl.1; rw [eD] at h9; have h8 : (encL N).length + 0 = (zW y).length + (zS y).length := h9; omega
        have hCN : CdC (puM m357 0) b (encL N ++ [0]) := by have h9 := hC357.pu (v := 0); rw [eD] at h9; exact h9
        have hlc : ((encL N ++ [0]).length : Int) = ((encL N).length : Int) + 1 := by rw [List.length_append]; rfl
        exact tz_vret (g_at ck_X11_expression 184 rfl) rfl (rV_mk ⟨hq3, hR120, ((hG3).x hR120 rfl (FX.tr (L := [84, 99]) (ks := [28, 31]) (hX357) (FX.pu.sub (by decide) (by decide))) (by decide) (by decide)).c (by rw [hO.1.2.1]; exact hg3.symm) (fun _ => hO.1.2.2.1.symm) (fun h9 => by omega), (hX0.tr ((ZX.tr (hX3) (ZX.tr (show ZX b m3 m357 from ⟨hX357.sub (by decide) (by decide), hb357⟩) (ZX.pu (by rw [hC357.1]; omega)))).1.sub (by decide) (by decide))), (below.x hXm (by decide)).tr (ZX.tr (hX3) (ZX.tr (show ZX b m3 m357 from ⟨hX357.sub (by decide) (by decide), hb357⟩) (ZX.pu (by rw [hC357.1]; omega)))).2, (fun i i1 i2 => by rw [FX.pu.1 101 (by decide), hX357.1 101 (by decide), hZ3.2.2.2.2.1 i i1 i2]; exact hI3.2.2.2.1 i), fun _ => ⟨N, n1, n4, n5, n6, hCN, hO.1.2.2.2.1.1, by rw [hCN.1, ← hO.1.2.2.1]; omega, n2⟩⟩)
      · skip
        have hBd := hres.resolve_left (fun h9 => by have h8 : zD y = 1 := h9.1.1.2.2.2.2.1; omega)
        have hCf : sF (xk t n 6 s) = sF (fl9 t n 1 (zs y)) ∧ sW (xk t n 6 s) = sW (fl9 t n 1 (zs y)) := by rcases hBd.2 with h9 | h9; exact absurd h9.1 (by omega); exact ⟨h9.2.2.2.1, h9.2.2.2.2⟩
        refine tz_aload0 (n := 351) (g_at ck_X11_expression 175 rfl) rfl (g_ne kd_84) ?_
        refine tz_iconst (n := 352) (g_at ck_X11_expression 176 rfl) rfl ?_
        refine tz_cvV1 (n := 355) (μ' := μX11_wrong) (cb' := 0) (sb' := 0) ml_X11_198 mo_X11_wrong mv_X11_wrong np_X11_wrong kd_84 (g_at ck_X11_expression 177 rfl) (mp_wrong hB hn hG3 hg3 (by decide)) rfl rfl rfl ⟨by decide, by decide⟩ (Nat.le_of_ble_eq_true rfl) (by decide) (by decide) (fun ρ9 m352 hq => ?_)
        obtain ⟨rfl, hR121, hG352, hX352⟩ := hq
        have hZf := hZ3.s hG352 hX352 (by decide)
        refine tz_aload0 (n := 356) (g_at ck_X11_expression 178 rfl) rfl (g_ne kd_84) ?_
        refine tz_iconst (n := 357) (g_at ck_X11_expression 179 rfl) rfl ?_
        refine tz_cvV1 (n := 360) (μ' := μX11_drops) (cb' := 0) (sb' := 0) ml_X11_241 mo_X11_drops mv_X11_drops np_X11_drops kd_84 (g_at ck_X11_expression 180 rfl) (mp_drops hL hR121 hZf.2.1 hZf.2.2.1 (show 0 ≤ b ∧ b + ((zW y).length : Int) + ((zS y).length : Int) ≤ 1399 by omega) (show (zS y).length ≤ 900 by omega) hI3.2.2.1 (by decide)) rfl rfl rfl ⟨by decide, by decide⟩ (Nat.le_of_ble_eq_true rfl) (by decide) (by decide) (fun ρ9 m357 hq => ?_)
        obtain ⟨rfl, hR122, hX357, hb357, hC357, hS357⟩ := hq
        have hdl := dr_len (v := 0) (zS y) (zW y)
        have hC357 : CdC m357 b (dr 0 (zW y) (zS y)).1 := hC357
        refine tz_aload0 (n := 361) (g_at ck_X11_expression 181 rfl) rfl (g_ne kd_84) ?_
        refine tz_iconst (n := 362) (g_at ck_X11_expression 182 rfl) rfl ?_
        refine tz_cvV1 (n := 365) (μ' := μX11_puts) (cb' := 0) (sb' := 0) ml_X11_213 mo_X11_puts mv_X11_puts np_X11_puts kd_84 (g_at ck_X11_expression 183 rfl) (mp_puts hL hR122 (by rw [hC357.1]; omega) (by decide)) rfl rfl rfl ⟨by decide, by decide⟩ (Nat.le_of_ble_eq_true rfl) (by decide) (by decide) (fun ρ9 m362 hq => ?_)
        obtain ⟨rfl, hR123, rfl⟩ := hq
        exact tz_vret (g_at ck_X11_expression 184 rfl) rfl (rV_mk ⟨hq3, hR123, ((hG352).x hR123 rfl (FX.tr (L := [84, 99]) (ks := [28, 31]) (hX357) (FX.pu.sub (by decide) (by decide))) (by decide) (by decide)).c (by rw [hBd.1]; rfl) (fun h9 => absurd h9 fl_n) (fun _ => hCf), (hX0.tr ((ZX.tr (hX3.tr (ZX.x hX352 (by decide) (by decide) (by decide))) (ZX.tr (show ZX b m352 m357 from ⟨hX357.sub (by decide) (by decide), hb357⟩) (ZX.pu (by rw [hC357.1]; omega)))).1.sub (by decide) (by decide))), (below.x hXm (by decide)).tr (ZX.tr (hX3.tr (ZX.x hX352 (by decide) (by decide) (by decide))) (ZX.tr (show ZX b m352 m357 from ⟨hX357.sub (by decide) (by decide), hb357⟩) (ZX.pu (by rw [hC357.1]; omega)))).2, (fun i i1 i2 => by rw [FX.pu.1 101 (by decide), hX357.1 101 (by decide), hX352.1 101 (by decide), hZ3.2.2.2.2.1 i i1 i2]; exact hI3.2.2.2.1 i), fun h9 => absurd h9 (by rw [hBd.1]; decide)⟩)
