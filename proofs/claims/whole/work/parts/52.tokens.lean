/-! Tokens. -/
def isEnd (P : Int → Prop) (t : Int → Int) (n p q : Int) : Prop := p ≤ q ∧ (∀ j, p ≤ j → j < q → j < n ∧ P (t j)) ∧ ¬ (q < n ∧ P (t q))
theorem isEnd_eq {P : Int → Prop} {t : Int → Int} {n p q r : Int} (h : isEnd P t n p q) (k : isEnd P t n p r) : q = r := by
  by_cases c : q < r
  · exact absurd (k.2.1 q h.1 c) h.2.2
  · by_cases d : r < q
    · exact absurd (h.2.1 r k.1 d) k.2.2
    · omega
theorem isEnd_le {P : Int → Prop} {t : Int → Int} {n p q : Int} (h : isEnd P t n p q) (hp : p ≤ n) : q ≤ n := by
  by_cases c : p < q
  · have := (h.2.1 (q - 1) (by omega) (by omega)).1
    omega
  · have := h.1
    omega
theorem isEnd_exN {P : Int → Prop} {t : Int → Int} {n : Int} : ∀ (k : Nat) (p : Int), n - p ≤ k → ∃ q, isEnd P t n p q
  | 0, p, h => ⟨p, Int.le_refl p, fun j h1 h2 => absurd h2 (by omega), fun h9 => by omega⟩
  | k + 1, p, h => by
    by_cases c : p < n ∧ P (t p)
    · obtain ⟨q, h1, h2, h3⟩ := isEnd_exN (P := P) (t := t) (n := n) k (p + 1) (by omega)
      refine ⟨q, by omega, fun j h4 h5 => ?_, h3⟩
      by_cases e : j = p
      · rw [e]; exact c
      · exact h2 j (by omega) h5
    · exact ⟨p, Int.le_refl p, fun j h1 h2 => absurd h2 (by omega), c⟩
theorem isEnd_ex (P : Int → Prop) (t : Int → Int) (n p : Int) : ∃ q, isEnd P t n p q := isEnd_exN (n - p).toNat p (by omega)
def blnk (c : Int) : Prop := c = 32 ∨ c = 10
def letter (c : Int) : Prop := 97 ≤ c ∧ c ≤ 122
def digit (c : Int) : Prop := 48 ≤ c ∧ c ≤ 57
def sgnC (c : Int) : Prop := c = 59 ∨ c = 40 ∨ c = 41 ∨ c = 43 ∨ c = 45 ∨ c = 42 ∨ c = 47 ∨ c = 60 ∨ c = 61
def nmV (t : Int → Int) (a : Int) (w : Nat) : Int := fd (fun i v => v * 10 + t (a + (i : Int)) - 48) 0 w
def mn4 (w : Int) : Nat := if w < 4 then w.toNat else 4
theorem mn4_le (i : Nat) : mn4 (i : Int) ≤ i := by
  unfold mn4
  split <;> omega
def Tk (t : Int → Int) (n p a k q v : Int) : Prop := isEnd blnk t n p a ∧ ((n ≤ a ∧ k = 0 ∧ q = a) ∨ (a < n ∧ letter (t a) ∧ k = 1 ∧ isEnd letter t n a q) ∨ (a < n ∧ digit (t a) ∧ k = 2 ∧ isEnd digit t n a q ∧ v = nmV t a (mn4 (q - a))) ∨ (a < n ∧ ¬ letter (t a) ∧ ¬ digit (t a) ∧ ((sgnC (t a) ∧ k = t a) ∨ (¬ sgnC (t a) ∧ k = 3)) ∧ q = a + 1))
theorem Tk_ex (t : Int → Int) (n p : Int) : ∃ z : Int × Int × Int × Int, Tk t n p z.1 z.2.1 z.2.2.1 z.2.2.2 := by
  obtain ⟨a, ha⟩ := isEnd_ex blnk t n p
  by_cases h0 : n ≤ a
  · exact ⟨(a, 0, a, 0), ha, Or.inl ⟨h0, rfl, rfl⟩⟩
  · by_cases h1 : letter (t a)
    · obtain ⟨q, hq⟩ := isEnd_ex letter t n a
      exact ⟨(a, 1, q, 0), ha, Or.inr (Or.inl ⟨by omega, h1, rfl, hq⟩)⟩
    · by_cases h2 : digit (t a)
      · obtain ⟨q, hq⟩ := isEnd_ex digit t n a
        exact ⟨(a, 2, q, nmV t a (mn4 (q - a))), ha, Or.inr (Or.inr (Or.inl ⟨by omega, h2, rfl, hq, rfl⟩))⟩
      · by_cases h3 : sgnC (t a)
        · exact ⟨(a, t a, a + 1, 0), ha, Or.inr (Or.inr (Or.inr ⟨by omega, h1, h2, Or.inl ⟨h3, rfl⟩, rfl⟩))⟩
        · exact ⟨(a, 3, a + 1, 0), ha, Or.inr (Or.inr (Or.inr ⟨by omega, h1, h2, Or.inr ⟨h3, rfl⟩, rfl⟩))⟩
noncomputable def tA (t : Int → Int) (n p : Int) : Int := (Classical.choose (Tk_ex t n p)).1
noncomputable def tK (t : Int → Int) (n p : Int) : Int := (Classical.choose (Tk_ex t n p)).2.1
noncomputable def tQ (t : Int → Int) (n p : Int) : Int := (Classical.choose (Tk_ex t n p)).2.2.1
noncomputable def tV (t : Int → Int) (n p : Int) : Int := (Classical.choose (Tk_ex t n p)).2.2.2
theorem Tk_is (t : Int → Int) (n p : Int) : Tk t n p (tA t n p) (tK t n p) (tQ t n p) (tV t n p) := Classical.choose_spec (Tk_ex t n p)
theorem Tk_uni {t : Int → Int} {n p a k q v a' k' q' v' : Int} (h : Tk t n p a k q v) (g : Tk t n p a' k' q' v') : a = a' ∧ k = k' ∧ q = q' ∧ (k = 2 → v = v') := by
  have e := isEnd_eq h.1 g.1
  subst e
  refine ⟨rfl, ?_⟩
  have sg : ∀ {x y : Int}, ((sgnC (t a) ∧ x = t a) ∨ (¬ sgnC (t a) ∧ x = 3)) → ((sgnC (t a) ∧ y = t a) ∨ (¬ sgnC (t a) ∧ y = 3)) → x = y := by
    intro x y h1 h2
    rcases h1 with h1 | h1
    · rcases h2 with h2 | h2
      · rw [h1.2, h2.2]
      · exact absurd h1.1 h2.1
    · rcases h2 with h2 | h2
      · exact absurd h2.1 h1.1
      · rw [h1.2, h2.2]
  have dl : letter (t a) → digit (t a) → False := fun h1 h2 => by unfold letter at h1; unfold digit at h2; omega
  have k2 : ∀ {x : Int}, ¬ digit (t a) → ((sgnC (t a) ∧ x = t a) ∨ (¬ sgnC (t a) ∧ x = 3)) → x ≠ 2 := by
    intro x h0 h1 h2
    rcases h1 with h1 | h1
    · have := h1.1
      unfold sgnC at this
      omega
    · omega
  rcases h.2 with ⟨h1, h2, h3⟩ | ⟨h1, h2, h3, h4⟩ | ⟨h1, h2, h3, h4, h5⟩ | ⟨h1, h2, h3, h4, h5⟩
  · rcases g.2 with ⟨g1, g2, g3⟩ | ⟨g1, g2, g3, g4⟩ | ⟨g1, g2, g3, g4, g5⟩ | ⟨g1, g2, g3, g4, g5⟩
    · exact ⟨by omega, by omega, fun h9 => by omega⟩
    · omega
    · omega
    · omega
  · rcases g.2 with ⟨g1, g2, g3⟩ | ⟨g1, g2, g3, g4⟩ | ⟨g1, g2, g3, g4, g5⟩ | ⟨g1, g2, g3, g4, g5⟩
    · omega
    · exact ⟨by omega, isEnd_eq h4 g4, fun h9 => by omega⟩
    · exact absurd g2 (dl h2)
    · exact absurd h2 g2
  · rcases g.2 with ⟨g1, g2, g3⟩ | ⟨g1, g2, g3, g4⟩ | ⟨g1, g2, g3, g4, g5⟩ | ⟨g1, g2, g3, g4, g5⟩
    · omega
    · exact absurd h2 (dl g2)
    · have e := isEnd_eq h4 g4
      subst e
      exact ⟨by omega, rfl, fun _ => by rw [h5, g5]⟩
    · exact absurd h2 g3
  · rcases g.2 with ⟨g1, g2, g3⟩ | ⟨g1, g2, g3, g4⟩ | ⟨g1, g2, g3, g4, g5⟩ | ⟨g1, g2, g3, g4, g5⟩
    · omega
    · exact absurd g2 h2
    · exact absurd g2 h3
    · exact ⟨sg h4 g4, by omega, fun h9 => absurd h9 (k2 h3 h4)⟩
def BY (t : Int → Int) : Prop := ∀ j, 0 ≤ t j ∧ t j < 256
def TpC (m : Mm) (t : Int → Int) (n : Int) : Prop := ∀ j, 0 ≤ j → j < n → m 2 j = t j
def TokC (m : Mm) (t : Int → Int) (n p : Int) : Prop := m 38 1 = n ∧ TpC m t n ∧ Tk t n p (m 38 4) (m 38 3) (m 38 2) (m 38 5)
theorem Tk_rg {t : Int → Int} {n p a k q v : Int} (h : Tk t n p a k q v) (hp : 0 ≤ p ∧ p ≤ n) (hB : BY t) : (p ≤ a ∧ a ≤ n) ∧ (a ≤ q ∧ q ≤ n) ∧ (0 ≤ k ∧ k < 256) ∧ (k ≠ 0 → a < q) := by
  have h1 := h.1.1
  have h2 := isEnd_le h.1 hp.2
  have h3 := hB a
  rcases h.2 with ⟨e1, e2, e3⟩ | ⟨e1, e2, e3, e4⟩ | ⟨e1, e2, e3, e4, e5⟩ | ⟨e1, e2, e3, e4, e5⟩
  · omega
  · have h5 := e4.1
    have h6 := isEnd_le e4 h2
    have h7 : a < q := by
      by_cases c : a < q
      · exact c
      · have e : q = a := by omega
        exact absurd (show q < n ∧ _ from ⟨by omega, by rw [e]; exact e2⟩) e4.2.2
    omega
  · have h5 := e4.1
    have h6 := isEnd_le e4 h2
    have h7 : a < q := by
      by_cases c : a < q
      · exact c
      · have e : q = a := by omega
        exact absurd (show q < n ∧ _ from ⟨by omega, by rw [e]; exact e2⟩) e4.2.2
    omega
  · rcases e4 with e4 | e4 <;> omega
theorem nmV_rg {t : Int → Int} {a : Int} (h : ∀ j : Nat, j < 4 → (48 ≤ t (a + (j : Int)) ∧ t (a + (j : Int)) ≤ 57) ∨ True) : True := trivial
def nmB (w : Nat) : Int := fd (fun _ b => b * 10 + 9) 0 w
theorem nmV_b {t : Int → Int} {a : Int} : ∀ w : Nat, (∀ j : Nat, j < w → digit (t (a + (j : Int)))) → 0 ≤ nmV t a w ∧ nmV t a w ≤ nmB w
  | 0, _ => by show (0 : Int) ≤ 0 ∧ (0 : Int) ≤ 0; decide
  | w + 1, h => by
    have ih := nmV_b (t := t) (a := a) w (fun j hj => h j (by omega))
    have hd := h w (by omega)
    unfold digit at hd
    show 0 ≤ nmV t a w * 10 + t (a + (w : Int)) - 48 ∧ nmV t a w * 10 + t (a + (w : Int)) - 48 ≤ nmB w * 10 + 9
    omega
theorem nmB_4 : ∀ w : Nat, w ≤ 4 → nmB w ≤ 9999 := by decide
theorem nmV_9 {t : Int → Int} {a : Int} {w : Nat} (hw : w ≤ 4) (h : ∀ j : Nat, j < w → digit (t (a + (j : Int)))) : 0 ≤ nmV t a w ∧ nmV t a w ≤ 9999 := by
  have h1 := nmV_b w h
  have h2 := nmB_4 w hw
  omega
def isLetterI (c : Int) : Int := if 97 ≤ c ∧ c ≤ 122 then 1 else 0
def isDigitI (c : Int) : Int := if 48 ≤ c ∧ c ≤ 57 then 1 else 0
theorem isL_1 {c : Int} (h : isLetterI c ≠ 0) : letter c := ite10 (P := 97 ≤ c ∧ c ≤ 122) h
theorem isL_0 {c : Int} (h : isLetterI c = 0) : ¬ letter c := ite10n (P := 97 ≤ c ∧ c ≤ 122) h
theorem isD_1 {c : Int} (h : isDigitI c ≠ 0) : digit c := ite10 (P := 48 ≤ c ∧ c ≤ 57) h
theorem isD_0 {c : Int} (h : isDigitI c = 0) : ¬ digit c := ite10n (P := 48 ≤ c ∧ c ≤ 57) h
theorem TpC.fr {m m9 : Mm} {t : Int → Int} {n : Int} (h : TpC m t n) (k : Fr [38] m m9) : TpC m9 t n := fun j h1 h2 => by rw [k 2 (by decide)]; exact h j h1 h2
theorem end_step {P : Int → Prop} {t : Int → Int} {n p : Int} {i : Nat} (h : ∀ j, p ≤ j → j < p + (i : Int) → j < n ∧ P (t j)) (h1 : p + (i : Int) < n) (h2 : P (t (p + (i : Int)))) : ∀ j, p ≤ j → j < p + ((i + 1 : Nat) : Int) → j < n ∧ P (t j) := fun j a b => by
  by_cases e : j = p + (i : Int)
  · rw [e]; exact ⟨h1, h2⟩
  · exact h j a (by omega)
