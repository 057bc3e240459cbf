/-! The reference reads: crossings, roads, people, arms. -/
/-- the land being read -/
def NM (m ν : Mm) : Prop := (m 84 24 = ν 0 0 ∧ m 84 25 = ν 0 1) ∧ (∀ c, 0 ≤ c → c < ν 0 0 → m 93 c = ν 1 c ∧ m 94 c = ν 2 c ∧ m 95 c = ν 3 c ∧ m 102 c = bAnd (bShr (ν 0 2) c) 1) ∧ (∀ c r, 0 ≤ c → c < ν 0 0 → 0 ≤ r → r < ν 3 c → m 96 (5 * c + r) = ν 4 (c * 5 + r)) ∧ (∀ p, 0 ≤ p → p < ν 0 1 → m 97 p = ν 5 p) ∧ (∀ k, 0 ≤ k → k < 35 → m 98 k = ν 6 k) ∧ ∀ c, ν 0 0 ≤ c → c < 9 → bAnd (bShr (ν 0 2) c) 1 = 0
theorem NM.x {m m9 ν : Mm} {L ks : List Int} (h : NM m ν) (k : FX L ks m m9) (h1 : ∀ x ∈ ks, x < 24 ∨ 25 < x) (h2 : ∀ x ∈ L, x < 93 ∨ (98 < x ∧ x ≠ 102)) : NM m9 ν := by
  obtain ⟨g1, g2, g3, g4, g5, g6⟩ := h
  have f : ∀ a, (93 ≤ a ∧ a ≤ 98) ∨ a = 102 → m9 a = m a := fun a ha => k.1 a fun h9 => by have := h2 a h9; omega
  have e : ∀ j, j = 24 ∨ j = 25 → m9 84 j = m 84 j := fun j hj => k.2 j fun h9 => by have := h1 j h9; omega
  unfold NM
  rw [e 24 (by decide), e 25 (by decide), f 93 (by decide), f 94 (by decide), f 95 (by decide), f 96 (by decide), f 97 (by decide), f 98 (by decide), f 102 (by decide)]
  exact ⟨g1, g2, g3, g4, g5, g6⟩
theorem NM.cross {m m9 ν : Mm} {a b : Int} (h : NM m ν) (hw : WN ν) (h9 : ν 0 0 < 9) (e0 : m9 84 24 = ν 0 0 + 1) (e1 : m9 84 25 = m 84 25) (f1 : m9 93 = up (m 93) (ν 0 0) a) (f2 : m9 94 = up (m 94) (ν 0 0) b) (f3 : m9 95 = up (m 95) (ν 0 0) 0) (f4 : m9 102 = up (m 102) (ν 0 0) 0) (k : ∀ c, c = 96 ∨ c = 97 ∨ c = 98 → m9 c = m c) : NM m9 (wr (wr (wr ν 1 (ν 0 0) a) 2 (ν 0 0) b) 0 0 (ν 0 0 + 1)) := by
  obtain ⟨g1, g2, g3, g4, g5, g6⟩ := h
  generalize hν : wr (wr (wr ν 1 (ν 0 0) a) 2 (ν 0 0) b) 0 0 (ν 0 0 + 1) = N
  have r00 : N 0 0 = ν 0 0 + 1 := by rw [← hν, wr_same]
  have r01 : N 0 1 = ν 0 1 := by rw [← hν, wr_at, if_neg (by decide), wr_ne (by decide), wr_ne (by decide)]
  have r02 : N 0 2 = ν 0 2 := by rw [← hν, wr_at, if_neg (by decide), wr_ne (by decide), wr_ne (by decide)]
  have r1 : N 1 = up (ν 1) (ν 0 0) a := by rw [← hν, wr_ne (by decide), wr_ne (by decide), wr_up]
  have r2 : N 2 = up (ν 2) (ν 0 0) b := by rw [← hν, wr_ne (by decide), wr_up, wr_ne (by decide)]
  have r3 : N 3 = ν 3 := by rw [← hν, wr_ne (by decide), wr_ne (by decide), wr_ne (by decide)]
  have r4 : N 4 = ν 4 := by rw [← hν, wr_ne (by decide), wr_ne (by decide), wr_ne (by decide)]
  have r5 : N 5 = ν 5 := by rw [← hν, wr_ne (by decide), wr_ne (by decide), wr_ne (by decide)]
  have r6 : N 6 = ν 6 := by rw [← hν, wr_ne (by decide), wr_ne (by decide), wr_ne (by decide)]
  have w3 := hw.2.2.2.2.1
  have w0 := hw.1
  unfold NM
  rw [r00, r01, r02, r1, r2, r3, r4, r5, r6, f1, f2, f3, f4, k 96 (by decide), k 97 (by decide), k 98 (by decide)]
  refine ⟨⟨e0, e1.trans g1.2⟩, fun c c1 c2 => ?_, fun c r c1 c2 r1 r2 => ?_, g4, g5, fun c c1 c2 => g6 c (by omega) c2⟩
  · by_cases e : c = ν 0 0
    · rw [e, up_at, up_at, up_at, up_at, up_at, up_at]
      exact ⟨rfl, rfl, (w3 _ (Int.le_refl _) h9).symm, (g6 _ (Int.le_refl _) h9).symm⟩
    · rw [up_ne e, up_ne e, up_ne e, up_ne e, up_ne e, up_ne e]
      exact g2 c c1 (by omega)
  · by_cases e : c = ν 0 0
    · rw [e] at r2
      have := w3 _ (Int.le_refl _) h9
      omega
    · exact g3 c r c1 (by omega) r1 r2
theorem NM.road {m m9 ν : Mm} {a b : Int} (h : NM m ν) (hw : WN ν) (ha : 0 ≤ a ∧ a < ν 0 0) (h5 : ν 3 a < 5) (e : ∀ j, j = 24 ∨ j = 25 → m9 84 j = m 84 j) (f1 : m9 96 = up (m 96) (5 * a + ν 3 a) b) (f2 : m9 95 = up (m 95) a (ν 3 a + 1)) (k : ∀ c, c = 93 ∨ c = 94 ∨ c = 97 ∨ c = 98 ∨ c = 102 → m9 c = m c) : NM m9 (wr (wr ν 4 (a * 5 + ν 3 a) b) 3 a (ν 3 a + 1)) := by
  obtain ⟨g1, g2, g3, g4, g5, g6⟩ := h
  generalize hν : wr (wr ν 4 (a * 5 + ν 3 a) b) 3 a (ν 3 a + 1) = N
  have r0 : N 0 = ν 0 := by rw [← hν, wr_ne (by decide), wr_ne (by decide)]
  have r1 : N 1 = ν 1 := by rw [← hν, wr_ne (by decide), wr_ne (by decide)]
  have r2 : N 2 = ν 2 := by rw [← hν, wr_ne (by decide), wr_ne (by decide)]
  have r3 : N 3 = up (ν 3) a (ν 3 a + 1) := by rw [← hν, wr_up, wr_ne (by decide)]
  have r4 : N 4 = up (ν 4) (a * 5 + ν 3 a) b := by rw [← hν, wr_ne (by decide), wr_up]
  have r5 : N 5 = ν 5 := by rw [← hν, wr_ne (by decide), wr_ne (by decide)]
  have r6 : N 6 = ν 6 := by rw [← hν, wr_ne (by decide), wr_ne (by decide)]
  have w5 := hw.2.2.2.1
  have w0 := hw.1
  unfold NM
  rw [r0, r1, r2, r3, r4, r5, r6, f1, f2, k 93 (by decide), k 94 (by decide), k 97 (by decide), k 98 (by decide), k 102 (by decide), e 24 (by decide), e 25 (by decide)]
  refine ⟨g1, fun c c1 c2 => ?_, fun c r c1 c2 r1 r2 => ?_, g4, g5, g6⟩
  · have q := g2 c c1 c2
    by_cases ec : c = a
    · rw [ec, up_at, up_at]
      rw [ec] at q
      exact ⟨q.1, q.2.1, rfl, q.2.2.2⟩
    · rw [up_ne ec, up_ne ec]
      exact q
  · have wc := w5 c c1 (by omega)
    have wa := w5 a ha.1 (by omega)
    by_cases ec : c = a
    · rw [ec, up_at] at r2
      rw [ec]
      by_cases er : r = ν 3 a
      · rw [er, up_at, up_at]
      · rw [up_ne (by omega), up_ne (by omega)]
        exact g3 a r ha.1 ha.2 r1 (by omega)
    · rw [up_ne ec] at r2
      rw [up_ne (by omega), up_ne (by omega)]
      exact g3 c r c1 c2 r1 r2
theorem NM.person {m m9 ν : Mm} {a b c : Int} (h : NM m ν) (h8 : 0 ≤ ν 0 1 ∧ ν 0 1 < 8) (e0 : m9 84 24 = m 84 24) (e1 : m9 84 25 = ν 0 1 + 1) (f1 : m9 97 = up (m 97) (ν 0 1) b) (f2 : m9 98 = up (up (m 98) (1 + ν 0 1) a) (9 + ν 0 1) c) (k : ∀ d, d = 93 ∨ d = 94 ∨ d = 95 ∨ d = 96 ∨ d = 102 → m9 d = m d) : NM m9 (wr (wr (wr (wr ν 6 (1 + ν 0 1) a) 5 (ν 0 1) b) 6 (9 + ν 0 1) c) 0 1 (ν 0 1 + 1)) := by
  obtain ⟨g1, g2, g3, g4, g5, g6⟩ := h
  generalize hν : wr (wr (wr (wr ν 6 (1 + ν 0 1) a) 5 (ν 0 1) b) 6 (9 + ν 0 1) c) 0 1 (ν 0 1 + 1) = N
  have r00 : N 0 0 = ν 0 0 := by rw [← hν, wr_at, if_neg (by decide), wr_ne (by decide), wr_ne (by decide), wr_ne (by decide)]
  have r01 : N 0 1 = ν 0 1 + 1 := by rw [← hν, wr_same]
  have r02 : N 0 2 = ν 0 2 := by rw [← hν, wr_at, if_neg (by decide), wr_ne (by decide), wr_ne (by decide), wr_ne (by decide)]
  have r1 : N 1 = ν 1 := by rw [← hν, wr_ne (by decide), wr_ne (by decide), wr_ne (by decide), wr_ne (by decide)]
  have r2 : N 2 = ν 2 := by rw [← hν, wr_ne (by decide), wr_ne (by decide), wr_ne (by decide), wr_ne (by decide)]
  have r3 : N 3 = ν 3 := by rw [← hν, wr_ne (by decide), wr_ne (by decide), wr_ne (by decide), wr_ne (by decide)]
  have r4 : N 4 = ν 4 := by rw [← hν, wr_ne (by decide), wr_ne (by decide), wr_ne (by decide), wr_ne (by decide)]
  have r5 : N 5 = up (ν 5) (ν 0 1) b := by rw [← hν, wr_ne (by decide), wr_ne (by decide), wr_up, wr_ne (by decide)]
  have r6 : N 6 = up (up (ν 6) (1 + ν 0 1) a) (9 + ν 0 1) c := by rw [← hν, wr_ne (by decide), wr_up, wr_ne (by decide), wr_up]
  unfold NM
  rw [r00, r01, r02, r1, r2, r3, r4, r5, r6, f1, f2, k 93 (by decide), k 94 (by decide), k 95 (by decide), k 96 (by decide), k 102 (by decide)]
  refine ⟨⟨e0.trans g1.1, e1⟩, g2, g3, fun p p1 p2 => ?_, fun j j1 j2 => ?_, g6⟩
  · by_cases e : p = ν 0 1
    · rw [e, up_at, up_at]
    · rw [up_ne e, up_ne e]; exact g4 p p1 (by omega)
  · by_cases e : j = 9 + ν 0 1
    · rw [e, up_at, up_at]
    · rw [up_ne e, up_ne e]
      by_cases e2 : j = 1 + ν 0 1
      · rw [e2, up_at, up_at]
      · rw [up_ne e2, up_ne e2]; exact g5 j j1 j2
theorem bit_set {x c a : Int} (hx : 0 ≤ x ∧ x < 512) (hc : 0 ≤ c ∧ c < 9) (ha : 0 ≤ a ∧ a < 9) : bAnd (bShr (bOr x (bShl 1 a)) c) 1 = (if c = a then 1 else bAnd (bShr x c) 1) ∧ 0 ≤ bOr x (bShl 1 a) ∧ bOr x (bShl 1 a) < 512 := by
  obtain ⟨X, eX⟩ : ∃ X : Nat, x = (X : Int) := ⟨x.toNat, by omega⟩
  obtain ⟨C, eC⟩ : ∃ C : Nat, c = (C : Int) := ⟨c.toNat, by omega⟩
  obtain ⟨A, eA⟩ : ∃ A : Nat, a = (A : Int) := ⟨a.toNat, by omega⟩
  have pA : 2 ^ A ≤ 2 ^ 8 := Nat.pow_le_pow_right (by decide) (by omega)
  have lt : X ||| 2 ^ A < 2 ^ 9 := Nat.or_lt_two_pow (by omega) (by omega)
  rw [eX, eC, eA, bShl_1 A (by omega), bOr_nn (by omega) (by omega), bBit (by omega) (by omega), bBit (by omega) (by omega), Nat.testBit_or, Nat.testBit_two_pow]
  refine ⟨?_, by omega, by omega⟩
  by_cases e : A = C
  · rw [if_pos (show (C : Int) = (A : Int) by omega), decide_eq_true e, Bool.or_true]
    rfl
  · rw [if_neg (show ¬ (C : Int) = (A : Int) by omega), decide_eq_false e, Bool.or_false]
theorem NM.arm {m m9 ν : Mm} {a b : Int} (h : NM m ν) (hw : WN ν) (ha : 0 ≤ a ∧ a < ν 0 0) (e : ∀ j, j = 24 ∨ j = 25 → m9 84 j = m 84 j) (f1 : m9 98 = up (m 98) (17 + a) b) (f2 : m9 102 = up (m 102) a 1) (k : ∀ c, c = 93 ∨ c = 94 ∨ c = 95 ∨ c = 96 ∨ c = 97 → m9 c = m c) : NM m9 (wr (wr ν 0 2 (bOr (ν 0 2) (bShl 1 a))) 6 (17 + a) b) := by
  obtain ⟨g1, g2, g3, g4, g5, g6⟩ := h
  have w0 := hw.1
  have w2 := hw.2.2.1
  have bs := fun c (hc : 0 ≤ c ∧ c < 9) => (bit_set (x := ν 0 2) (c := c) (a := a) w2 hc (by omega)).1
  generalize hX : bOr (ν 0 2) (bShl 1 a) = X at bs
  generalize hν : wr (wr ν 0 2 X) 6 (17 + a) b = N
  have r00 : N 0 0 = ν 0 0 := by rw [← hν, wr_ne (by decide), wr_at, if_neg (by decide)]
  have r01 : N 0 1 = ν 0 1 := by rw [← hν, wr_ne (by decide), wr_at, if_neg (by decide)]
  have r02 : N 0 2 = X := by rw [← hν, wr_ne (by decide), wr_same]
  have r1 : N 1 = ν 1 := by rw [← hν, wr_ne (by decide), wr_ne (by decide)]
  have r2 : N 2 = ν 2 := by rw [← hν, wr_ne (by decide), wr_ne (by decide)]
  have r3 : N 3 = ν 3 := by rw [← hν, wr_ne (by decide), wr_ne (by decide)]
  have r4 : N 4 = ν 4 := by rw [← hν, wr_ne (by decide), wr_ne (by decide)]
  have r5 : N 5 = ν 5 := by rw [← hν, wr_ne (by decide), wr_ne (by decide)]
  have r6 : N 6 = up (ν 6) (17 + a) b := by rw [← hν, wr_up, wr_ne (by decide)]
  unfold NM
  rw [r00, r01, r02, r1, r2, r3, r4, r5, r6, f1, f2, k 93 (by decide), k 94 (by decide), k 95 (by decide), k 96 (by decide), k 97 (by decide), e 24 (by decide), e 25 (by decide)]
  refine ⟨g1, fun c c1 c2 => ?_, g3, g4, fun j j1 j2 => ?_, fun c c1 c2 => ?_⟩
  · have q := g2 c c1 c2
    rw [bs c (by omega)]
    by_cases ec : c = a
    · rw [if_pos ec, ec, up_at]
      rw [ec] at q
      exact ⟨q.1, q.2.1, q.2.2.1, rfl⟩
    · rw [if_neg ec, up_ne ec]
      exact q
  · by_cases ej : j = 17 + a
    · rw [ej, up_at, up_at]
    · rw [up_ne ej, up_ne ej]; exact g5 j j1 j2
  · rw [bs c (by omega), if_neg (by omega)]
    exact g6 c c1 c2
theorem tB_ok {t : Int → Int} {n k : Int} {s : PS} (g : s.1 = 1) (h : ¬ (tB9 t n k s).1 = 0) : tB9 t n k s = s ∧ tK t n (sP s) = 2 ∧ tV t n (sP s) < k ∧ (td9 t n k s).1 = 1 := by
  have e : tB9 t n k s = td9 t n k s := if_pos g
  by_cases h1 : tK t n (sP s) = 2
  · by_cases h2 : 4 < tQ t n (sP s) - tA t n (sP s)
    · exact absurd (show (tB9 t n k s).1 = 0 by rw [tB_2 g h1 h2]; rfl) h
    · by_cases h3 : k ≤ tV t n (sP s)
      · exact absurd (show (tB9 t n k s).1 = 0 by rw [tB_3 g h1 h2 h3]; rfl) h
      · have e2 := tB_k (k := k) g h1 h2 h3
        exact ⟨e2, h1, by omega, by rw [← e, e2]; exact g⟩
  · exact absurd (show (tB9 t n k s).1 = 0 by rw [tB_1 g h1]; rfl) h
theorem tB_no {t : Int → Int} {n k : Int} {s : PS} (g : s.1 = 1) (h : (tB9 t n k s).1 = 0) : td9 t n k s = tB9 t n k s ∧ ¬ (td9 t n k s).1 = 1 := by
  have e : tB9 t n k s = td9 t n k s := if_pos g
  exact ⟨e.symm, by rw [← e]; omega⟩
theorem GS.rg {ρ m : Mm} {t : Int → Int} {n : Int} {s : PS} (h : GS ρ m t n s) : MR m := h.1
