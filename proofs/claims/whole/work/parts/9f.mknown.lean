/-! The reference reads: known words, faults. -/
theorem lW_inj : ∀ j : Nat, j < 13 → ∀ k : Nat, k < 13 → lW (j : Int) = lW (k : Int) → j = k := by decide +kernel
theorem nuN_congr {f g : Nat → Nat} : ∀ w : Nat, (∀ j, j < w → f j = g j) → nuN f w = nuN g w
  | 0, _ => rfl
  | w + 1, h => by
    show nuN f w * 32 + f w = nuN g w * 32 + g w
    rw [nuN_congr w fun j hj => h j (by omega), h w (by omega)]
theorem wd_pk {t : Int → Int} {n p : Int} {k : Nat} (hk : k < 13) (h1 : tK t n p = 1) (h8 : tQ t n p - tA t n p ≤ 8) : lW (k : Int) = pkL t (tA t n p) (mn8 (tQ t n p - tA t n p)) ↔ wdI t n p (iW (k : Int)) = 1 := by
  obtain ⟨e1, e2, e3⟩ := lW_nu k hk
  have s0 := sLen_0 (iW (k : Int))
  have T := (Tk_is t n p).2
  have hend : isEnd letter t n (tA t n p) (tQ t n p) := by
    rcases T with ⟨g1, g2, g3⟩ | ⟨g1, g2, g3, g4⟩ | ⟨g1, g2, g3, g4, g5⟩ | ⟨g1, g2, g3, g4, g5⟩
    · omega
    · exact g4
    · omega
    · exact absurd h1 (by rcases g4 with g4 | g4; have := g4.1; unfold sgnC at this; omega; omega)
  have hle := hend.1
  obtain ⟨w, ew⟩ : ∃ w : Nat, tQ t n p - tA t n p = (w : Int) := ⟨(tQ t n p - tA t n p).toNat, by omega⟩
  have ml : mn8 (tQ t n p - tA t n p) = w := by unfold mn8; split <;> omega
  have hlet : ∀ j : Nat, j < w → letter (t (tA t n p + (j : Int))) := fun j hj => (hend.2.1 _ (by omega) (by omega)).2
  rw [ml, pkL_N w (by omega) hlet, e1]
  have d1 : ∀ j : Nat, j < (sLen (iW (k : Int))).toNat → 1 ≤ (sCh (iW (k : Int)) (j : Int) - 96).toNat ∧ (sCh (iW (k : Int)) (j : Int) - 96).toNat < 32 := fun j hj => by
    have := e3 j (by omega) hj
    unfold letter at this
    omega
  have d2 : ∀ j : Nat, j < w → 1 ≤ (t (tA t n p + (j : Int)) - 96).toNat ∧ (t (tA t n p + (j : Int)) - 96).toNat < 32 := fun j hj => by
    have := hlet j hj
    unfold letter at this
    omega
  unfold wdI
  constructor
  · intro h
    have i := nuN_inj _ _ d1 d2 (Int.ofNat.inj h)
    refine if_pos ⟨h1, by omega, fun j hj => ?_⟩
    have a := i.2 j hj
    have b1 := e3 j (by omega) hj
    have b2 := hlet j (by omega)
    unfold letter at b1 b2
    have a' : (sCh (iW (k : Int)) (j : Int) - 96).toNat = (t (tA t n p + (j : Int)) - 96).toNat := a
    omega
  · intro h
    have c := ite1 h
    have ec : w = (sLen (iW (k : Int))).toNat := by omega
    rw [ec]
    refine congrArg (fun z : Nat => (z : Int)) ?_
    exact nuN_congr _ fun j hj => by rw [c.2.2 j hj]
/-- x tells which known word stands at p -/
def isKw (t : Int → Int) (n p x : Int) : Prop := (x = -1 ∧ ∀ k : Nat, k < 13 → wdI t n p (iW (k : Int)) = 0) ∨ ((0 ≤ x ∧ x < 13) ∧ wdI t n p (iW x) = 1)
theorem wd_len {t : Int → Int} {n p : Int} {k : Nat} (hk : k < 13) (h : wdI t n p (iW (k : Int)) = 1) : tK t n p = 1 ∧ tQ t n p - tA t n p ≤ 8 := by
  obtain ⟨_, e2, _⟩ := lW_nu k hk
  have s0 := sLen_0 (iW (k : Int))
  unfold wdI at h
  have c := ite1 h
  exact ⟨c.1, by omega⟩
theorem isKw.eq {t : Int → Int} {n p x : Int} (h : isKw t n p x) {k : Nat} (hk : k < 13) : x = (k : Int) ↔ wdI t n p (iW (k : Int)) = 1 := by
  rcases h with ⟨h1, h2⟩ | ⟨h1, h2⟩
  · have := h2 k hk
    omega
  · constructor
    · intro e; rw [← e]; exact h2
    · intro hw
      obtain ⟨j, ej⟩ : ∃ j : Nat, x = (j : Int) := ⟨x.toNat, by omega⟩
      rw [ej] at h2
      have l1 := wd_len hk hw
      have a1 := (wd_pk hk l1.1 l1.2).mpr hw
      have a2 := (wd_pk (k := j) (by omega) l1.1 l1.2).mpr h2
      rw [ej, lW_inj j (by omega) k hk (a2.trans a1.symm)]
theorem isKw.rg {t : Int → Int} {n p x : Int} (h : isKw t n p x) : -1 ≤ x ∧ x < 13 := by
  rcases h with ⟨h1, _⟩ | ⟨h1, _⟩ <;> omega
theorem lW_rg : ∀ k : Nat, k < 13 → 0 ≤ lW (k : Int) ∧ lW (k : Int) < 9223372036854775808 := by decide +kernel
theorem pkL_rg {t : Int → Int} {n p : Int} (h1 : tK t n p = 1) (h8 : tQ t n p - tA t n p ≤ 8) : 0 ≤ pkL t (tA t n p) (mn8 (tQ t n p - tA t n p)) ∧ pkL t (tA t n p) (mn8 (tQ t n p - tA t n p)) < 9223372036854775808 := by
  have T := (Tk_is t n p).2
  have hend : isEnd letter t n (tA t n p) (tQ t n p) := by
    rcases T with ⟨g1, g2, g3⟩ | ⟨g1, g2, g3, g4⟩ | ⟨g1, g2, g3, g4, g5⟩ | ⟨g1, g2, g3, g4, g5⟩
    · omega
    · exact g4
    · omega
    · exact absurd h1 (by rcases g4 with g4 | g4; have := g4.1; unfold sgnC at this; omega; omega)
  have hle := hend.1
  have m8 : mn8 (tQ t n p - tA t n p) ≤ 8 ∧ (mn8 (tQ t n p - tA t n p) : Int) ≤ tQ t n p - tA t n p := by unfold mn8; split <;> omega
  have hlet : ∀ j : Nat, j < mn8 (tQ t n p - tA t n p) → letter (t (tA t n p + (j : Int))) := fun j hj => (hend.2.1 _ (by omega) (by omega)).2
  rw [pkL_N _ m8.1 hlet]
  have lt := nuN_lt (f := fun j => (t (tA t n p + (j : Int)) - 96).toNat) (mn8 (tQ t n p - tA t n p)) (fun j hj => by have := hlet j hj; unfold letter at this; omega)
  have p8 : 32 ^ mn8 (tQ t n p - tA t n p) ≤ 32 ^ 8 := Nat.pow_le_pow_right (by decide) m8.1
  omega
theorem so9_1 (k : Int) : (so9 k = 1 ↔ k = 1) ∧ (so9 k = 2 ↔ k = 2) ∧ (so9 k = 0 ↔ k = 0) ∧ (0 ≤ so9 k ∧ so9 k ≤ 4) ∧ (so9 k = 3 ↔ (k ≠ 0 ∧ k ≠ 1 ∧ k ≠ 2 ∧ k ≠ 3)) := by
  unfold so9
  repeat' split
  all_goals omega
def q23 (ρ ρ9 : Mm) : Prop := ∀ a k : Int, ¬ (a = 84 ∧ k = 23) → ρ9 a k = ρ a k
theorem q23.rf {ρ : Mm} : q23 ρ ρ := fun _ _ _ => rfl
theorem q23.w {ρ : Mm} {x : Int} : q23 ρ (wr ρ 84 23 x) := fun a k h => if_neg h
theorem q23.tr {a b c : Mm} (h : q23 a b) (k : q23 b c) : q23 a c := fun x y hx => (k x y hx).trans (h x y hx)
theorem ly_23 : ∀ q ∈ lytab, ¬ (q.1 = 84 ∧ q.2.1 = 23) := by decide
theorem LY.k23 {ρ ρ9 : Mm} (h : LY ρ) (k : Jvm.Pilot.@@N@@.q23 ρ ρ9) : LY ρ9 := fun q hq => by
  rw [k q.1 q.2.1 (ly_23 q hq)]
  exact h q hq
/-- the reference's reader stands so -/
def GS (ρ m : Mm) (t : Int → Int) (n : Int) (s : PS) : Prop := MR m ∧ LY ρ ∧ m 84 16 = n ∧ (∀ j, 0 ≤ j → j < n → m 91 j = t j) ∧ ((s.1 = 1 ∧ MTk ρ m t n (sP s) ∧ (0 ≤ sP s ∧ sP s ≤ n) ∧ m 84 13 = 0 ∧ m 84 14 = -1) ∨ (s.1 = 0 ∧ m 84 13 = sF s ∧ sF s ≠ 0 ∧ m 84 14 = sW s))
theorem GS.g {ρ m : Mm} {t : Int → Int} {n : Int} {s : PS} (h : GS ρ m t n s) (k : s.1 = 1) : MTk ρ m t n (sP s) ∧ (0 ≤ sP s ∧ sP s ≤ n) ∧ m 84 13 = 0 ∧ m 84 14 = -1 := by
  rcases h.2.2.2.2 with h | h
  · exact h.2
  · omega
theorem GS.b {ρ m : Mm} {t : Int → Int} {n : Int} {s : PS} (h : GS ρ m t n s) : (s.1 = 1 ↔ m 84 13 = 0) ∧ (s.1 = 0 ∨ s.1 = 1) := by
  rcases h.2.2.2.2 with h | h
  · exact ⟨⟨fun _ => h.2.2.2.1, fun _ => h.1⟩, Or.inr h.1⟩
  · exact ⟨⟨fun h9 => by omega, fun h9 => absurd (h.2.1.symm.trans h9) h.2.2.1⟩, Or.inl h.1⟩
/-- a fault found at the token -/
theorem GS.fl {ρ m : Mm} {t : Int → Int} {n k : Int} {s : PS} (h : GS ρ m t n s) (g : s.1 = 1) (hk : 1 ≤ k ∧ k ≤ 5) (hR : MR (wr (wr m 84 13 k) 84 14 (tA t n (sP s)))) : GS ρ (wr (wr m 84 13 k) 84 14 (tA t n (sP s))) t n (fl9 t n k s) := by
  refine ⟨hR, h.2.1, by rw [wr_at, if_neg (by decide), wr_at, if_neg (by decide)]; exact h.2.2.1, fun j h1 h2 => by rw [wr_ne (by decide), wr_ne (by decide)]; exact h.2.2.2.1 j h1 h2, Or.inr ⟨rfl, ?_, ?_, ?_⟩⟩
  · rw [wr_at, if_neg (by decide), wr_same]; rfl
  · show k ≠ 0; omega
  · rw [wr_same]; rfl
theorem GS.nx {ρ ρ9 m m9 : Mm} {t : Int → Int} {n : Int} {s : PS} {L ks : List Int} (h : GS ρ m t n s) (g : s.1 = 1) (hB : BY t) (hR : MR m9) (hq : q23 ρ ρ9) (hX : FX L ks m m9) (h1 : (13 : Int) ∉ ks) (h2 : (14 : Int) ∉ ks) (hK : MTk ρ9 m9 t n (tQ t n (sP s))) : GS ρ9 m9 t n (nx9 t n s) := by
  have k := h.g g
  have r := (tk_rg (t := t) (n := n) hB k.2.1).2
  exact ⟨hR, h.2.1.k23 hq, hK.1, hK.2.1, Or.inl ⟨g, hK, by show 0 ≤ tQ t n (sP s) ∧ tQ t n (sP s) ≤ n; have := (tk_rg (t := t) (n := n) hB k.2.1).1; omega, (hX.2 13 h1).trans k.2.2.1, (hX.2 14 h2).trans k.2.2.2⟩⟩
theorem mp_knownWord {l : Launch} {γ : Gh} {ρ m : Mm} {t : Int → Int} {n : Int} {s : PS} (hB : BY t) (hn : 0 ≤ n ∧ n ≤ 700) (hG : GS ρ m t n s) (hg : s.1 = 1) : gE l γ μX11_knownWord 2 0 0 (rI KK fun x ρ9 m9 => ρ = ρ9 ∧ MR m9 ∧ isKw t n (sP s) x ∧ m = m9) xN KK ρ m [vR 84] := by
  refine gE.ofw cl_X11.2 ?_ rfl rfl (Nat.le_of_ble_eq_true rfl)
  show gT l γ μX11_knownWord 2 0 0 _ _ KK ρ m 0 [some (vR 84), none] []
  have hR := hG.1
  have hL := hG.2.1
  have hgg := hG.g hg
  have hK := hgg.1
  have hr9 := tk_rg (t := t) hB hgg.2.1
  have hso := so9_1 (tK t n (sP s))
  refine tz_aload0 (n := 1) (g_at ck_X11_knownWord 0 rfl) rfl (g_ne kd_84) ?_
  refine tz_getIw (n := 4) (kz := 18) fk_X11_165 kd_84 (g_at ck_X11_knownWord 1 rfl) rfl rfl ?_
  rw [hK.2.2.2.2.2.1]
  refine tz_iconst (n := 5) (g_at ck_X11_knownWord 2 rfl) rfl ?_
  refine tz_icmp_ne (n := 8) (tgt := 17) (g_at ck_X11_knownWord 3 rfl) rfl rfl (by omega) (fun h5 => ?_) (fun h5 => ?_)
  · skip
    refine tz_iconst (n := 18) (g_at ck_X11_knownWord 8 rfl) rfl ?_
    exact tz_iret (g_at ck_X11_knownWord 9 rfl) rfl (rI_mk ⟨rfl, hR, Or.inl ⟨rfl, fun k hk => by rcases wdI_01 (t := t) (n := n) (p := sP s) (i9 := iW (k : Int)) with h9 | h9; exact h9; exact absurd (wd_len hk h9) (fun h8 => h5 (hso.1.mpr h8.1))⟩, rfl⟩)
  · skip
    refine tz_aload0 (n := 9) (g_at ck_X11_knownWord 4 rfl) rfl (g_ne kd_84) ?_
    refine tz_getIw (n := 12) (kz := 20) fk_X11_175 kd_84 (g_at ck_X11_knownWord 5 rfl) rfl rfl ?_
    rw [hK.2.2.2.2.1]
    refine tz_bipush (n := 14) (g_at ck_X11_knownWord 6 rfl) rfl rfl ?_
    refine tz_icmp_le (n := 17) (tgt := 19) (g_at ck_X11_knownWord 7 rfl) rfl rfl (by omega) (fun h14 => ?_) (fun h14 => ?_)
    · skip
      refine tz_iconst (n := 20) (g_at ck_X11_knownWord 10 rfl) rfl ?_
      refine tz_istore1 (n := 21) (g_at ck_X11_knownWord 11 rfl) rfl (by decide) g_hpR ?_
      have h1 : tK t n (sP s) = 1 := hso.1.mp h5
      refine g_for (fun i : Nat => (∀ k : Nat, k < i → wdI t n (sP s) (iW (k : Int)) = 0) → gT l γ μX11_knownWord 2 0 0 _ _ KK ρ m 21 [some (vR 84), some (vI (i : Int))] []) 13 ?_ (fun i hi ihi => ?_) 0 (Nat.zero_le _) (fun k hk => absurd hk (Nat.not_lt_zero k))
      · intro hinv
        refine tz_iload1 (n := 22) (g_at ck_X11_knownWord 12 rfl) rfl ?_
        refine tz_bipush (n := 24) (g_at ck_X11_knownWord 13 rfl) rfl rfl ?_
        refine tz_icmp_ge (n := 27) (tgt := 47) (g_at ck_X11_knownWord 14 rfl) rfl rfl (by omega) (fun h24 => ?_) (fun h24 => absurd h24 (by omega))
        refine tz_iconst (n := 48) (g_at ck_X11_knownWord 25 rfl) rfl ?_
        exact tz_iret (g_at ck_X11_knownWord 26 rfl) rfl (rI_mk ⟨rfl, hR, Or.inl ⟨rfl, hinv⟩, rfl⟩)
      · intro hinv
        have hlw := lW_rg i (by omega)
        have hpk := pkL_rg h1 (by omega)
        have hwp := wd_pk (k := i) (by omega) h1 (by omega)
        have h01 := wdI_01 (t := t) (n := n) (p := sP s) (i9 := iW (i : Int))
        refine tz_iload1 (n := 22) (g_at ck_X11_knownWord 12 rfl) rfl ?_
        refine tz_bipush (n := 24) (g_at ck_X11_knownWord 13 rfl) rfl rfl ?_
        refine tz_icmp_ge (n := 27) (tgt := 47) (g_at ck_X11_knownWord 14 rfl) rfl rfl (by omega) (fun h24 => absurd h24 (by omega)) (fun h24 => ?_)
        refine tz_iload1 (n := 28) (g_at ck_X11_knownWord 15 rfl) rfl ?_
        refine tz_csL1 (n := 31) (μ' := μX11_letters) (cb' := 0) (sb' := 0) ml_X11_184 mo_X11_letters ms_X11_letters np_X11_letters (g_at ck_X11_knownWord 16 rfl) (mp_letters hR (by omega)) rfl rfl ⟨by decide, by decide⟩ (Nat.le_of_ble_eq_true rfl) (by decide) (by decide) (fun x28 ρ9 m28 hq => ?_)
        obtain ⟨rfl, hR1, rfl, rfl⟩ := hq
        refine tz_aload0 (n := 32) (g_at ck_X11_knownWord 17 rfl) rfl (g_ne kd_84) ?_
        refine tz_getLw (n := 35) (kz := 23) fk_X11_155 kd_84 (g_at ck_X11_knownWord 18 rfl) rfl rfl ?_
        rw [hK.2.2.2.2.2.2.2.2 h1]
        refine tz_lcmp (n := 36) (g_at ck_X11_knownWord 19 rfl) rfl ?_
        refine tz_if_ne (n := 39) (tgt := 41) (g_at ck_X11_knownWord 20 rfl) rfl rfl (lCmp_rg _ _) (fun h36 => ?_) (fun h36 => ?_)
        · skip
          refine tz_iinc1 (n := 44) (g_at ck_X11_knownWord 23 rfl) rfl (by decide) g_hpR ?_
          refine tz_goto (tgt := 21) (g_at ck_X11_knownWord 24 rfl) rfl ?_
          exact ihi (fun k hk => by
            by_cases e9 : k = i
            · rw [e9]; rcases h01 with h9 | h9; exact h9; exact absurd ((lCmp_0 hlw hpk).mpr (hwp.mpr h9)) h36
            · exact hinv k (by omega))
        · skip
          refine tz_iload1 (n := 40) (g_at ck_X11_knownWord 21 rfl) rfl ?_
          exact tz_iret (g_at ck_X11_knownWord 22 rfl) rfl (rI_mk ⟨rfl, hR1, Or.inr ⟨by omega, hwp.mp ((lCmp_0 hlw hpk).mp h36)⟩, rfl⟩)
    · skip
      refine tz_iconst (n := 18) (g_at ck_X11_knownWord 8 rfl) rfl ?_
      exact tz_iret (g_at ck_X11_knownWord 9 rfl) rfl (rI_mk ⟨rfl, hR, Or.inl ⟨rfl, fun k hk => by rcases wdI_01 (t := t) (n := n) (p := sP s) (i9 := iW (k : Int)) with h9 | h9; exact h9; exact absurd (wd_len hk h9) (fun h8 => by omega)⟩, rfl⟩)
