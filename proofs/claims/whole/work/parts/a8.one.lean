/-! Answers are one; codes. -/
theorem uFN {P : Nat → Prop} {n : Nat} : ∀ x y, isFN P n x → isFN P n y → x = y := fun x y hx hy => by
  rcases hx with ⟨h1, h2⟩ | ⟨i, h1, h2, h3, h4⟩ <;> rcases hy with ⟨k1, k2⟩ | ⟨j, k1, k2, k3, k4⟩
  · rw [h1, k1]
  · exact absurd k3 (h2 j k2)
  · exact absurd h3 (k2 i h2)
  · rw [h1, k1]
    rcases Nat.lt_trichotomy i j with h | h | h
    · exact absurd h3 (k4 i h)
    · rw [h]
    · exact absurd k3 (h4 j h)
theorem uF1 {P : Nat → Prop} {n : Nat} : ∀ x y, isF1 P n x → isF1 P n y → x = y := fun x y hx hy => by
  rcases hx with ⟨h1, h2⟩ | ⟨i, h1, h2, h3, h4⟩ <;> rcases hy with ⟨k1, k2⟩ | ⟨j, k1, k2, k3, k4⟩
  · rw [h1, k1]
  · exact absurd k3 (h2 j k2)
  · exact absurd h3 (k2 i h2)
  · rw [h1, k1]
    rcases Nat.lt_trichotomy i j with h | h | h
    · exact absurd h3 (k4 i h)
    · rw [h]
    · exact absurd k3 (h4 j h)
theorem uFst {P : Nat → Prop} {n : Nat} : ∀ x y, isFst P n x → isFst P n y → x = y := fun x y hx hy => by
  obtain ⟨h1, h2, h3, h4⟩ := hx
  obtain ⟨k1, k2, k3, k4⟩ := hy
  rcases Int.lt_trichotomy x y with h | h | h
  · exact absurd (h4 (by omega)) (k3 x.toNat (by omega))
  · exact h
  · exact absurd (k4 (by omega)) (h3 y.toNat (by omega))
theorem uFF {P : Nat → Nat → Prop} {a b : Nat} : ∀ x y, isFF P a b x → isFF P a b y → x = y := fun x y hx hy => by
  rcases hx with ⟨h1, h2⟩ | ⟨i, j, h1, h2, h3, h4, h5, h6⟩ <;> rcases hy with ⟨k1, k2⟩ | ⟨u, v, k1, k2, k3, k4, k5, k6⟩
  · rw [h1, k1]
  · exact absurd k3 (h2 u k1 v k2)
  · exact absurd h3 (k2 i h1 j h2)
  · rw [h4, k4]
    rcases Nat.lt_trichotomy i u with h | h | h
    · exact absurd h3 (k5 i h j h2)
    · subst h
      rcases Nat.lt_trichotomy j v with h | h | h
      · exact absurd h3 (k6 j h)
      · rw [h]
      · exact absurd k3 (h6 v h)
    · exact absurd k3 (h5 u h v k2)
theorem uE {e : Int} : ∀ x y, e = x → e = y → x = y := fun _ _ h k => h.symm.trans k
theorem uLodge {Λ : Mm} {s : Int → Int} (hW : WL Λ) {w : Int} : ∀ x y, (∃ T : Int → Int, LodgeOK Λ s T ∧ (if w = 0 then (tbN Λ s T (Λ 0 1).toNat).2.1 else (tbN Λ s T (Λ 0 1).toNat).2.2) = x) → (∃ T : Int → Int, LodgeOK Λ s T ∧ (if w = 0 then (tbN Λ s T (Λ 0 1).toNat).2.1 else (tbN Λ s T (Λ 0 1).toNat).2.2) = y) → x = y := fun x y ⟨T, h1, h2⟩ ⟨T', k1, k2⟩ => by
  have hn := hW.2.1
  rw [← h2, ← k2, tb_eq hW h1 k1 (Λ 0 1).toNat (by omega)]
theorem uBed {Λ : Mm} {s : Int → Int} (hW : WL Λ) {p : Int} (hp : 0 ≤ p ∧ p < Λ 0 1) : ∀ x y, (∃ T : Int → Int, LodgeOK Λ s T ∧ bdP Λ s T p = x) → (∃ T : Int → Int, LodgeOK Λ s T ∧ bdP Λ s T p = y) → x = y := fun x y ⟨T, h1, h2⟩ ⟨T', k1, k2⟩ => by
  rw [← h2, ← k2, bd_eq hW h1 k1 hp]
theorem uTour {Λ : Mm} {s : Int → Int} (hW : WL Λ) {i : Int} : ∀ x y, ((Λ 0 0 = 0 → x = -1) ∧ (Λ 0 0 ≠ 0 → ∃ T : Int → Int, TourOK Λ s T 0 ∧ (if i = 0 ∨ 10000 ≤ T 9 then orN (T 9) else (tsN Λ s T i.toNat).2) = x)) → ((Λ 0 0 = 0 → y = -1) ∧ (Λ 0 0 ≠ 0 → ∃ T : Int → Int, TourOK Λ s T 0 ∧ (if i = 0 ∨ 10000 ≤ T 9 then orN (T 9) else (tsN Λ s T i.toNat).2) = y)) → x = y := fun x y hx hy => by
  have hn := hW.1
  by_cases h0 : Λ 0 0 = 0
  · rw [hx.1 h0, hy.1 h0]
  · obtain ⟨T, h1, h2⟩ := hx.2 h0
    obtain ⟨T', k1, k2⟩ := hy.2 h0
    rw [← h2, ← k2, tour_9 hW h1 k1 (by omega), ts_eq hW h1 k1 (by omega)]
theorem c2P {Λ : Mm} {p : Int} : cdP Λ p ≠ 2 := by unfold cdP; split <;> decide
theorem c2C {Λ : Mm} {c : Int} : cdC Λ c ≠ 2 := by unfold cdC; split <;> decide
theorem c2R {Λ : Mm} {c r : Int} : cdR Λ c r ≠ 2 := by unfold cdR; split <;> decide
theorem c2W {w k : Int} : cdW w k ≠ 2 := by unfold cdW; split <;> decide
theorem c2I {Λ : Mm} {i : Int} : cdI Λ i ≠ 2 := by unfold cdI; split <;> decide
theorem c2q {a b : Int} (ha : a ≠ 2) (hb : b ≠ 2) : sq a b ≠ 2 := by
  unfold sq
  split
  · exact hb
  · exact ha
theorem c1S {n f : Int} : cdS n f ≠ 1 := by unfold cdS; split <;> decide
