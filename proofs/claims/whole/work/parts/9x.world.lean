/-! The world: what the class's cells and the reference's cells hold, by one value. -/
def ActC (m : Mm) (q n : Int) (α : Mm) : Prop := m q 2 = n ∧ (0 ≤ m q 1 ∧ m q 1 < 40) ∧ ∀ k j, 0 ≤ k → k < n → 0 ≤ j → j < 35 → m (q + 1) ((m q 1 + k) % 40 * 35 + j) = α k j
theorem cpy_in {m : Mm} {a sp b dp k j : Int} (h : dp ≤ j ∧ j < dp + k) : cpy m a sp b dp k b j = m a (sp + (j - dp)) := if_pos ⟨rfl, h⟩
theorem cpy_out {m : Mm} {a sp b dp k j : Int} (h : ¬ (dp ≤ j ∧ j < dp + k)) : cpy m a sp b dp k b j = m b j := if_neg fun h9 => h h9.2
theorem momwr_out {m : Mm} {r a t x : Int} (h : ¬ (t ≤ x ∧ x < t + 35)) : momwr m r a t a x = m a x := by
  unfold momwr
  rw [cpy_out (by omega), cpy_out (by omega), cpy_out (by omega), cpy_out (by omega), wr_at, if_neg (by omega)]
theorem momwr_in {m : Mm} {r a t j : Int} {s : Int → Int} (h : MomC m r s) (ha : a ≠ r ∧ a ≠ r + 1 ∧ a ≠ r + 2 ∧ a ≠ r + 3 ∧ a ≠ r + 4) (hj : 0 ≤ j ∧ j < 35) : momwr m r a t a (t + j) = s j := by
  unfold momwr
  by_cases h4 : 26 ≤ j
  · rw [cpy_in (by omega), cpy_ne (by omega), cpy_ne (by omega), cpy_ne (by omega), wr_ne (by omega), (h.2.2 _ (by omega) (by omega)).2]
    exact congrArg s (by omega)
  rw [cpy_out (by omega)]
  by_cases h3 : 17 ≤ j
  · rw [cpy_in (by omega), cpy_ne (by omega), cpy_ne (by omega), wr_ne (by omega), (h.2.2 _ (by omega) (by omega)).1]
    exact congrArg s (by omega)
  rw [cpy_out (by omega)]
  by_cases h2 : 9 ≤ j
  · rw [cpy_in (by omega), cpy_ne (by omega), wr_ne (by omega), (h.2.1 _ (by omega) (by omega)).2]
    exact congrArg s (by omega)
  rw [cpy_out (by omega)]
  by_cases h1 : 1 ≤ j
  · rw [cpy_in (by omega), wr_ne (by omega), (h.2.1 _ (by omega) (by omega)).1]
    exact congrArg s (by omega)
  rw [cpy_out (by omega), wr_at, if_pos (by omega), h.1]
  exact congrArg s (by omega)
theorem momrd_mom {m : Mm} {r a t : Int} {s : Int → Int} (h : ∀ j, 0 ≤ j → j < 35 → m a (t + j) = s j) (ha : a ≠ r ∧ a ≠ r + 1 ∧ a ≠ r + 2 ∧ a ≠ r + 3 ∧ a ≠ r + 4) : MomC (momrd m r a t) r s := by
  unfold momrd
  refine ⟨?_, fun p p1 p2 => ⟨?_, ?_⟩, fun c c1 c2 => ⟨?_, ?_⟩⟩
  · rw [cpy_ne (by omega), cpy_ne (by omega), cpy_ne (by omega), cpy_ne (by omega), wr_same, ← h 0 (by omega) (by omega)]
    exact congrArg (m a) (by omega)
  · rw [cpy_ne (by omega), cpy_ne (by omega), cpy_ne (by omega), cpy_in (by omega), wr_ne (by omega), ← h (1 + p) (by omega) (by omega)]
    exact congrArg (m a) (by omega)
  · rw [cpy_ne (by omega), cpy_ne (by omega), cpy_in (by omega), cpy_ne (by omega), wr_ne (by omega), ← h (9 + p) (by omega) (by omega)]
    exact congrArg (m a) (by omega)
  · rw [cpy_ne (by omega), cpy_in (by omega), cpy_ne (by omega), cpy_ne (by omega), wr_ne (by omega), ← h (17 + c) (by omega) (by omega)]
    exact congrArg (m a) (by omega)
  · rw [cpy_in (by omega), cpy_ne (by omega), cpy_ne (by omega), cpy_ne (by omega), wr_ne (by omega), ← h (26 + c) (by omega) (by omega)]
    exact congrArg (m a) (by omega)
theorem momrd_ne {m : Mm} {r a t x : Int} (h : x ≠ r ∧ x ≠ r + 1 ∧ x ≠ r + 2 ∧ x ≠ r + 3 ∧ x ≠ r + 4) : momrd m r a t x = m x := by
  unfold momrd
  rw [cpy_ne (by omega), cpy_ne (by omega), cpy_ne (by omega), cpy_ne (by omega), wr_ne (by omega)]
theorem momcp_ne {m : Mm} {o r x : Int} (h : x ≠ r ∧ x ≠ r + 1 ∧ x ≠ r + 2 ∧ x ≠ r + 3 ∧ x ≠ r + 4) : momcp m o r x = m x := by
  unfold momcp
  rw [cpy_ne (by omega), cpy_ne (by omega), cpy_ne (by omega), cpy_ne (by omega), wr_ne (by omega)]
theorem momcp_mom {m : Mm} {o r : Int} {s : Int → Int} (h : MomC m o s) (ho : o + 4 < r ∨ r + 4 < o) : MomC (momcp m o r) r s := by
  unfold momcp
  refine ⟨?_, fun p p1 p2 => ⟨?_, ?_⟩, fun c c1 c2 => ⟨?_, ?_⟩⟩
  · rw [cpy_ne (by omega), cpy_ne (by omega), cpy_ne (by omega), cpy_ne (by omega), wr_same]; exact h.1
  · rw [cpy_ne (by omega), cpy_ne (by omega), cpy_ne (by omega), cpy_in (by omega), wr_ne (by omega), ← (h.2.1 p p1 p2).1]
    exact congrArg (m (o + 1)) (by omega)
  · rw [cpy_ne (by omega), cpy_ne (by omega), cpy_in (by omega), cpy_ne (by omega), wr_ne (by omega), ← (h.2.1 p p1 p2).2]
    exact congrArg (m (o + 2)) (by omega)
  · rw [cpy_ne (by omega), cpy_in (by omega), cpy_ne (by omega), cpy_ne (by omega), wr_ne (by omega), ← (h.2.2 c c1 c2).1]
    exact congrArg (m (o + 3)) (by omega)
  · rw [cpy_in (by omega), cpy_ne (by omega), cpy_ne (by omega), cpy_ne (by omega), wr_ne (by omega), ← (h.2.2 c c1 c2).2]
    exact congrArg (m (o + 4)) (by omega)
theorem MomC.c {m m9 : Mm} {r : Int} {s : Int → Int} (h : MomC m r s) (e : m9 r = m r ∧ m9 (r + 1) = m (r + 1) ∧ m9 (r + 2) = m (r + 2) ∧ m9 (r + 3) = m (r + 3) ∧ m9 (r + 4) = m (r + 4)) : MomC m9 r s := by
  unfold MomC at *
  rw [e.1, e.2.1, e.2.2.1, e.2.2.2.1, e.2.2.2.2]; exact h
theorem ActC.c {m m9 : Mm} {q n : Int} {α : Mm} (h : ActC m q n α) (e : m9 q = m q ∧ m9 (q + 1) = m (q + 1)) : ActC m9 q n α := by
  unfold ActC at *
  rw [e.1, e.2]; exact h
theorem SeenC.c {m m9 : Mm} {q : Int} {κ : Mm} (h : SeenC m q κ) (e : m9 q = m q ∧ m9 (q + 1) = m (q + 1) ∧ m9 (q + 2) = m (q + 2) ∧ m9 (q + 3) = m (q + 3)) : SeenC m9 q κ := by
  unfold SeenC at *
  rw [e.1, e.2.1, e.2.2.1, e.2.2.2]; exact h
theorem keep_fr {m : Mm} : Fr [44, 45] m (actKeep m 44 39) := fun a ha => by
  simp at ha
  unfold actKeep
  split
  · rw [wr_ne (by omega), momwr_ne (by omega)]
  · rw [wr_ne (by omega), momwr_ne (by omega)]
theorem keep_act {m : Mm} {n : Int} {α : Mm} {s : Int → Int} (h : ActC m 44 n α) (hn : 0 ≤ n ∧ n ≤ 40) (hs : MomC m 39 s) : ActC (actKeep m 44 39) 44 (keepN n) (keepA n α s) := by
  obtain ⟨h1, h2, h3⟩ := h
  unfold actKeep keepN keepA
  by_cases e : n = 40
  · rw [if_pos (by omega), if_pos e]
    refine ⟨by rw [wr_at, if_neg (by decide), momwr_ne (by decide)]; omega, by rw [wr_at, if_pos rfl]; omega, fun k j k1 k2 j1 j2 => ?_⟩
    rw [wr_at, if_pos rfl, wr_ne (by decide)]
    simp only [if_pos e]
    by_cases ek : k = 39
    · rw [if_pos ek, show ((m 44 1 + 1) % 40 + k) % 40 * 35 + j = (m 44 1 + m 44 2) % 40 * 35 + j by omega]
      exact momwr_in hs (by decide) ⟨j1, j2⟩
    · rw [if_neg ek, momwr_out (by omega), ← h3 (k + 1) j (by omega) (by omega) j1 j2]
      exact congrArg (m (44 + 1)) (by omega)
  · rw [if_neg (by omega), if_neg e]
    refine ⟨by rw [wr_at, if_pos rfl]; omega, by rw [wr_at, if_neg (by decide), momwr_ne (by decide)]; omega, fun k j k1 k2 j1 j2 => ?_⟩
    rw [wr_at, if_neg (by decide), wr_ne (by decide), momwr_ne (r := 44) (by decide)]
    simp only [if_neg e]
    by_cases ek : k = n
    · rw [if_pos ek, ek, ← h1]
      exact momwr_in hs (by decide) ⟨j1, j2⟩
    · rw [if_neg ek, momwr_out (by omega)]
      exact h3 k j k1 (by omega) j1 j2
theorem back_act {m : Mm} {n : Int} {α : Mm} (h : ActC m 44 n α) (hn : 0 < n) : ActC (actBack m 44 39) 44 (n - 1) α ∧ MomC (actBack m 44 39) 39 (α (n - 1)) ∧ Fr [39, 40, 41, 42, 43, 44] m (actBack m 44 39) := by
  obtain ⟨h1, h2, h3⟩ := h
  unfold actBack
  rw [if_neg (by omega)]
  refine ⟨⟨?_, ?_, fun k j k1 k2 j1 j2 => ?_⟩, momrd_mom (fun j j1 j2 => ?_) (by decide), fun a ha => ?_⟩
  · rw [momrd_ne (by decide), wr_same, h1]
  · rw [momrd_ne (by decide), wr_at, if_neg (by decide)]; exact h2
  · rw [momrd_ne (by decide), momrd_ne (by decide), wr_at, if_neg (by decide), wr_ne (by decide)]; exact h3 k j k1 (by omega) j1 j2
  · rw [wr_ne (by decide), h1]; exact h3 (n - 1) j (by omega) (by omega) j1 j2
  · simp at ha; rw [momrd_ne (by omega), wr_ne (by omega)]
theorem actcp_ne {m : Mm} {o q a : Int} (h : a ≠ q ∧ a ≠ q + 1) : actcp m o q a = m a := by
  unfold actcp
  rw [wr_ne h.1, wr_ne h.1, cpy_ne h.2]
theorem actcp_act {m : Mm} {o q n : Int} {α : Mm} (h : ActC m o n α) (hn : n ≤ 40) : ActC (actcp m o q) q n α := by
  obtain ⟨h1, h2, h3⟩ := h
  unfold actcp
  have e1 : wr (wr (cpy m (o + 1) 0 (q + 1) 0 1400) q 1 (m o 1)) q 2 (m o 2) q 1 = m o 1 := by rw [wr_at, if_neg (by decide), wr_same]
  refine ⟨by rw [wr_same]; exact h1, by rw [e1]; exact h2, fun k j k1 k2 j1 j2 => ?_⟩
  rw [e1, wr_ne (by omega), wr_ne (by omega), cpy_in (by omega), ← h3 k j k1 k2 j1 j2]
  exact congrArg (m (o + 1)) (by omega)
theorem sencp_ne {m : Mm} {o q a : Int} (h : a ≠ q ∧ a ≠ q + 1 ∧ a ≠ q + 2 ∧ a ≠ q + 3) : sencp m o q a = m a := by
  unfold sencp
  rw [wr_ne h.1, cpy_ne h.2.2.2, cpy_ne h.2.2.1, cpy_ne h.2.1]
theorem sencp_seen {m : Mm} {o q : Int} {κ : Mm} (h : SeenC m o κ) (hk : κ 0 0 ≤ 8) (ho : o + 3 < q ∨ q + 3 < o) : SeenC (sencp m o q) q κ := by
  unfold sencp
  refine ⟨by rw [wr_same]; exact h.1, fun i i1 i2 => ?_⟩
  have h9 := h.2 i i1 i2
  rw [wr_ne (by omega), wr_ne (by omega), wr_ne (by omega)]
  refine ⟨?_, ?_, ?_⟩
  · rw [cpy_ne (by omega), cpy_ne (by omega), cpy_in (by omega), ← h9.1]; exact congrArg (m (o + 1)) (by omega)
  · rw [cpy_ne (by omega), cpy_in (by omega), cpy_ne (by omega), ← h9.2.1]; exact congrArg (m (o + 2)) (by omega)
  · rw [cpy_in (by omega), cpy_ne (by omega), cpy_ne (by omega), ← h9.2.2]; exact congrArg (m (o + 3)) (by omega)
