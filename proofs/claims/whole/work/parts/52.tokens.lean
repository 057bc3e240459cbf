/-! Tokens. -/
def isEnd (P : Int → Prop) (t : Int → Int) (n p q : Int) : Prop := p ≤ q ∧ (∀ j, p ≤ j → j < q → j < n ∧ P (t j)) ∧ ¬ (q < n ∧ P (t q))
theorem isEnd_eq {P : Int → Prop} {t : Int → Int} {n p q r : Int} (h : isEnd P t n p q) (k : isEnd P t n p r) : q = r := by
  by_cases c : q < r
  · exact absurd (k.2.1 q h.1 c) h.2.2
  · by_cases d : r < q
    · exact absurd (h.2.1 r k.1 d) k.2.2
    · omega
theorem isEnd_le {P : Int → Prop} {t : Int → Int} {n p q : Int} (h : isEnd P t n p q) (hp : p ≤ n) : q ≤ n := by
  by_cases c : p < q
  · have := (h.2.1 (q - 1) (by omega) (by omega)).1
    omega
  · have := h.1
    omega
theorem isEnd_exN {P : Int → Prop} {t : Int → Int} {n : Int} : ∀ (k : Nat) (p : Int), n - p ≤ k → ∃ q, isEnd P t n p q
  | 0, p, h => ⟨p, Int.le_refl p, fun j h1 h2 => absurd h2 (by omega), fun h9 => by omega⟩
  | k + 1, p, h => by
    by_cases c : p < n ∧ P (t p)
    · obtain ⟨q, h1, h2, h3⟩ := isEnd_exN (P := P) (t := t) (n := n) k (p + 1) (by omega)
      refine ⟨q, by omega, fun j h4 h5 => ?_, h3⟩
      by_cases e : j = p
      · rw [e]; exact c
      · exact h2 j (by omega) h5
    · exact ⟨p, Int.le_refl p, fun j h1 h2 => absurd h2 (by omega), c⟩
theorem isEnd_ex (P : Int → Prop) (t : Int → Int) (n p : Int) : ∃ q, isEnd P t n p q := isEnd_exN (n - p).toNat p (by omega)
def blnk (c : Int) : Prop := c = 32 ∨ c = 10
def letter (c : Int) : Prop := 97 ≤ c ∧ c ≤ 122
def digit (c : Int) : Prop := 48 ≤ c ∧ c ≤ 57
def sgnC (c : Int) : Prop := c = 59 ∨ c = 40 ∨ c = 41 ∨ c = 43 ∨ c = 45 ∨ c = 42 ∨ c = 47 ∨ c = 60 ∨ c = 61
def nmV (t : Int → Int) (a : Int) (w : Nat) : Int := fd (fun i v => v * 10 + t (a + (i : Int)) - 48) 0 w
def mn4 (w : Int) : Nat := if w < 4 then w.toNat else 4
theorem mn4_le (i : Nat) : mn4 (i : Int) ≤ i := by
  unfold mn4
  split <;> omega
def Tk (t : Int → Int) (n p a k q v : Int) : Prop := isEnd blnk t n p a ∧ ((n ≤ a ∧ k = 0 ∧ q = a) ∨ (a < n ∧ letter (t a) ∧ k = 1 ∧ isEnd letter t n a q) ∨ (a < n ∧ digit (t a) ∧ k = 2 ∧ isEnd digit t n a q ∧ v = nmV t a (mn4 (q - a))) ∨ (a < n ∧ ¬ letter (t a) ∧ ¬ digit (t a) ∧ ((sgnC (t a) ∧ k = t a) ∨ (¬ sgnC (t a) ∧ k = 3)) ∧ q = a + 1))
theorem Tk_ex (t : Int → Int) (n p : Int) : ∃ z : Int × Int × Int × Int, Tk t n p z.1 z.2.1 z.2.2.1 z.2.2.2 := by
  obtain ⟨a, ha⟩ := isEnd_ex blnk t n p
  by_cases h0 : n ≤ a
  · exact ⟨(a, 0, a, 0), ha, Or.inl ⟨h0, rfl, rfl⟩⟩
  · by_cases h1 : letter (t a)
    · obtain ⟨q, hq⟩ := isEnd_ex letter t n a
      exact ⟨(a, 1, q, 0), ha, Or.inr (Or.inl ⟨by omega, h1, rfl, hq⟩)⟩
    · by_cases h2 : digit (t a)
      · obtain ⟨q, hq⟩ := isEnd_ex digit t n a
        exact ⟨(a, 2, q, nmV t a (mn4 (q - a))), ha, Or.inr (Or.inr (Or.inl ⟨by omega, h2, rfl, hq, rfl⟩))⟩
      · by_cases h3 : sgnC (t a)
        · exact ⟨(a, t a, a + 1, 0), ha, Or.inr (Or.inr (Or.inr ⟨by omega, h1, h2, Or.inl ⟨h3, rfl⟩, rfl⟩))⟩
        · exact ⟨(a, 3, a + 1, 0), ha, Or.inr (Or.inr (Or.inr ⟨by omega, h1, h2, Or.inr ⟨h3, rfl⟩, rfl⟩))⟩
noncomputable def tA (t : Int → Int) (n p : Int) : Int := (Classical.choose (Tk_ex t n p)).1
noncomputable def tK (t : Int → Int) (n p : Int) : Int := (Classical.choose (Tk_ex t n p)).2.1
noncomputable def tQ (t : Int → Int) (n p : Int) : Int := (Classical.choose (Tk_ex t n p)).2.2.1
noncomputable def tV (t : Int → Int) (n p : Int) : Int := (Classical.choose (Tk_ex t n p)).2.2.2
theorem Tk_is (t : Int → Int) (n p : Int) : Tk t n p (tA t n p) (tK t n p) (tQ t n p) (tV t n p) := Classical.choose_spec (Tk_ex t n p)
theorem Tk_uni {t : Int → Int} {n p a k q v a' k' q' v' : Int} (h : Tk t n p a k q v) (g : Tk t n p a' k' q' v') : a = a' ∧ k = k' ∧ q = q' ∧ (k = 2 → v = v') := by
  have e := isEnd_eq h.1 g.1
  subst e
  refine ⟨rfl, ?_⟩
  have sg : ∀ {x y : Int}, ((sgnC (t a) ∧ x = t a) ∨ (¬ sgnC (t a) ∧ x = 3)) → ((sgnC (t a) ∧ y = t a) ∨ (¬ sgnC (t a) ∧ y = 3)) → x = y := by
    intro x y h1 h2
    rcases h1 with h1 | h1
    · rcases h2 with h2 | h2
      · rw [h1.2, h2.2]
      · exact absurd h1.1 h2.1
    · rcases h2 with h2 | h2
      · exact absurd h2.1 h1.1
      · rw [h1.2, h2.2]
  have dl : letter (t a) → digit (t a) → False := fun h1 h2 => by unfold letter at h1; unfold digit at h2; omega
  have k2 : ∀ {x : Int}, ¬ digit (t a) → ((sgnC (t a) ∧ x = t a) ∨ (¬ sgnC (t a) ∧ x = 3)) → x ≠ 2 := by
    intro x h0 h1 h2
    rcases h1 with h1 | h1
    · have := h1.1
      unfold sgnC at this
      omega
    · omega
  rcases h.2 with ⟨h1, h2, h3⟩ | ⟨h1, h2, h3, h4⟩ | ⟨h1, h2, h3, h4, h5⟩ | ⟨h1, h2, h3, h4, h5⟩
  · rcases g.2 with ⟨g1, g2, g3⟩ | ⟨g1, g2, g3, g4⟩ | ⟨g1, g2, g3, g4, g5⟩ | ⟨g1, g2, g3, g4, g5⟩
    · exact ⟨by omega, by omega, fun h9 => by omega⟩
    · omega
    · omega
    · omega
  · rcases g.2 with ⟨g1, g2, g3⟩ | ⟨g1, g2, g3, g4⟩ | ⟨g1, g2, g3, g4, g5⟩ | ⟨g1, g2, g3, g4, g5⟩
    · omega
    · exact ⟨by omega, isEnd_eq h4 g4, fun h9 => by omega⟩
    · exact absurd g2 (dl h2)
    · exact absurd h2 g2
  · rcases g.2 with ⟨g1, g2, g3⟩ | ⟨g1, g2, g3, g4⟩ | ⟨g1, g2, g3, g4, g5⟩ | ⟨g1, g2, g3, g4, g5⟩
    · omega
    · exact absurd h2 (dl g2)
    · have e := isEnd_eq h4 g4
      subst e
      exact ⟨by omega, rfl, fun _ => by rw [h5, g5]⟩
    · exact absurd h2 g3
  · rcases g.2 with ⟨g1, g2, g3⟩ | ⟨g1, g2, g3, g4⟩ | ⟨g1, g2, g3, g4, g5⟩ | ⟨g1, g2, g3, g4, g5⟩
    · omega
    · exact absurd g2 h2
    · exact absurd g2 h3
    · exact ⟨sg h4 g4, by omega, fun h9 => absurd h9 (k2 h3 h4)⟩
def BY (t : Int → Int) : Prop := ∀ j, 0 ≤ t j ∧ t j < 256
def TpC (m : Mm) (t : Int → Int) (n : Int) : Prop := ∀ j, 0 ≤ j → j < n → m 2 j = t j
def TokC (m : Mm) (t : Int → Int) (n p : Int) : Prop := m 38 1 = n ∧ TpC m t n ∧ Tk t n p (m 38 4) (m 38 3) (m 38 2) (m 38 5)
theorem Tk_rg {t : Int → Int} {n p a k q v : Int} (h : Tk t n p a k q v) (hp : 0 ≤ p ∧ p ≤ n) (hB : BY t) : (p ≤ a ∧ a ≤ n) ∧ (a ≤ q ∧ q ≤ n) ∧ (0 ≤ k ∧ k < 256) ∧ (k ≠ 0 → a < q) := by
  have h1 := h.1.1
  have h2 := isEnd_le h.1 hp.2
  have h3 := hB a
  rcases h.2 with ⟨e1, e2, e3⟩ | ⟨e1, e2, e3, e4⟩ | ⟨e1, e2, e3, e4, e5⟩ | ⟨e1, e2, e3, e4, e5⟩
  · omega
  · have h5 := e4.1
    have h6 := isEnd_le e4 h2
    have h7 : a < q := by
      by_cases c : a < q
      · exact c
      · have e : q = a := by omega
        exact absurd (show q < n ∧ _ from ⟨by omega, by rw [e]; exact e2⟩) e4.2.2
    omega
  · have h5 := e4.1
    have h6 := isEnd_le e4 h2
    have h7 : a < q := by
      by_cases c : a < q
      · exact c
      · have e : q = a := by omega
        exact absurd (show q < n ∧ _ from ⟨by omega, by rw [e]; exact e2⟩) e4.2.2
    omega
  · rcases e4 with e4 | e4 <;> omega
theorem nmV_rg {t : Int → Int} {a : Int} (h : ∀ j : Nat, j < 4 → (48 ≤ t (a + (j : Int)) ∧ t (a + (j : Int)) ≤ 57) ∨ True) : True := trivial
def nmB (w : Nat) : Int := fd (fun _ b => b * 10 + 9) 0 w
theorem nmV_b {t : Int → Int} {a : Int} : ∀ w : Nat, (∀ j : Nat, j < w → digit (t (a + (j : Int)))) → 0 ≤ nmV t a w ∧ nmV t a w ≤ nmB w
  | 0, _ => by show (0 : Int) ≤ 0 ∧ (0 : Int) ≤ 0; decide
  | w + 1, h => by
    have ih := nmV_b (t := t) (a := a) w (fun j hj => h j (by omega))
    have hd := h w (by omega)
    unfold digit at hd
    show 0 ≤ nmV t a w * 10 + t (a + (w : Int)) - 48 ∧ nmV t a w * 10 + t (a + (w : Int)) - 48 ≤ nmB w * 10 + 9
    omega
theorem nmB_4 : ∀ w : Nat, w ≤ 4 → nmB w ≤ 9999 := by decide
theorem nmV_9 {t : Int → Int} {a : Int} {w : Nat} (hw : w ≤ 4) (h : ∀ j : Nat, j < w → digit (t (a + (j : Int)))) : 0 ≤ nmV t a w ∧ nmV t a w ≤ 9999 := by
  have h1 := nmV_b w h
  have h2 := nmB_4 w hw
  omega
def isLetterI (c : Int) : Int := if 97 ≤ c ∧ c ≤ 122 then 1 else 0
theorem sp_isLetter {l : Launch} {γ : Gh} {ρ m : Mm} {c : Int} (hR : MR m) (hc : 0 ≤ c ∧ c < 256) : gE l γ μX7_isLetter 0 0 0 (rI KK fun x ρ9 m9 => ρ = ρ9 ∧ MR m9 ∧ isLetterI c = x ∧ m = m9) xN KK ρ m [vI c] := by
  refine gE.ofw cl_X7.2 ?_ rfl rfl (Nat.le_of_ble_eq_true rfl)
  show gT l γ μX7_isLetter 0 0 0 _ _ KK ρ m 0 [some (vI c)] []
  refine tz_iload0 (n := 1) (g_at ck_X7_isLetter 0 rfl) rfl ?_
  refine tz_bipush (n := 3) (g_at ck_X7_isLetter 1 rfl) rfl rfl ?_
  refine tz_icmp_lt (n := 6) (tgt := 16) (g_at ck_X7_isLetter 2 rfl) rfl rfl ⟨(by omega), (by omega), (by decide), (by decide)⟩ (fun h3 => ?_) (fun h3 => ?_)
  · skip
    refine tz_iconst (n := 17) (g_at ck_X7_isLetter 8 rfl) rfl ?_
    exact tz_bret (g_at ck_X7_isLetter 9 rfl) rfl (by decide) (rI_mk ⟨rfl, hR, if_neg (by omega), rfl⟩)
  · skip
    refine tz_iload0 (n := 7) (g_at ck_X7_isLetter 3 rfl) rfl ?_
    refine tz_bipush (n := 9) (g_at ck_X7_isLetter 4 rfl) rfl rfl ?_
    refine tz_icmp_gt (n := 12) (tgt := 16) (g_at ck_X7_isLetter 5 rfl) rfl rfl ⟨(by omega), (by omega), (by decide), (by decide)⟩ (fun h9 => ?_) (fun h9 => ?_)
    · skip
      refine tz_iconst (n := 17) (g_at ck_X7_isLetter 8 rfl) rfl ?_
      exact tz_bret (g_at ck_X7_isLetter 9 rfl) rfl (by decide) (rI_mk ⟨rfl, hR, if_neg (by omega), rfl⟩)
    · skip
      refine tz_iconst (n := 13) (g_at ck_X7_isLetter 6 rfl) rfl ?_
      refine tz_goto (tgt := 17) (g_at ck_X7_isLetter 7 rfl) rfl ?_
      exact tz_bret (g_at ck_X7_isLetter 9 rfl) rfl (by decide) (rI_mk ⟨rfl, hR, if_pos (by omega), rfl⟩)
def isDigitI (c : Int) : Int := if 48 ≤ c ∧ c ≤ 57 then 1 else 0
theorem sp_isDigit {l : Launch} {γ : Gh} {ρ m : Mm} {c : Int} (hR : MR m) (hc : 0 ≤ c ∧ c < 256) : gE l γ μX7_isDigit 0 0 0 (rI KK fun x ρ9 m9 => ρ = ρ9 ∧ MR m9 ∧ isDigitI c = x ∧ m = m9) xN KK ρ m [vI c] := by
  refine gE.ofw cl_X7.2 ?_ rfl rfl (Nat.le_of_ble_eq_true rfl)
  show gT l γ μX7_isDigit 0 0 0 _ _ KK ρ m 0 [some (vI c)] []
  refine tz_iload0 (n := 1) (g_at ck_X7_isDigit 0 rfl) rfl ?_
  refine tz_bipush (n := 3) (g_at ck_X7_isDigit 1 rfl) rfl rfl ?_
  refine tz_icmp_lt (n := 6) (tgt := 16) (g_at ck_X7_isDigit 2 rfl) rfl rfl ⟨(by omega), (by omega), (by decide), (by decide)⟩ (fun h3 => ?_) (fun h3 => ?_)
  · skip
    refine tz_iconst (n := 17) (g_at ck_X7_isDigit 8 rfl) rfl ?_
    exact tz_bret (g_at ck_X7_isDigit 9 rfl) rfl (by decide) (rI_mk ⟨rfl, hR, if_neg (by omega), rfl⟩)
  · skip
    refine tz_iload0 (n := 7) (g_at ck_X7_isDigit 3 rfl) rfl ?_
    refine tz_bipush (n := 9) (g_at ck_X7_isDigit 4 rfl) rfl rfl ?_
    refine tz_icmp_gt (n := 12) (tgt := 16) (g_at ck_X7_isDigit 5 rfl) rfl rfl ⟨(by omega), (by omega), (by decide), (by decide)⟩ (fun h9 => ?_) (fun h9 => ?_)
    · skip
      refine tz_iconst (n := 17) (g_at ck_X7_isDigit 8 rfl) rfl ?_
      exact tz_bret (g_at ck_X7_isDigit 9 rfl) rfl (by decide) (rI_mk ⟨rfl, hR, if_neg (by omega), rfl⟩)
    · skip
      refine tz_iconst (n := 13) (g_at ck_X7_isDigit 6 rfl) rfl ?_
      refine tz_goto (tgt := 17) (g_at ck_X7_isDigit 7 rfl) rfl ?_
      exact tz_bret (g_at ck_X7_isDigit 9 rfl) rfl (by decide) (rI_mk ⟨rfl, hR, if_pos (by omega), rfl⟩)
theorem TpC.fr {m m9 : Mm} {t : Int → Int} {n : Int} (h : TpC m t n) (k : Fr [38] m m9) : TpC m9 t n := fun j h1 h2 => by rw [k 2 (by decide)]; exact h j h1 h2
theorem isL_1 {c : Int} (h : isLetterI c ≠ 0) : letter c := ite10 (P := 97 ≤ c ∧ c ≤ 122) h
theorem isL_0 {c : Int} (h : isLetterI c = 0) : ¬ letter c := ite10n (P := 97 ≤ c ∧ c ≤ 122) h
theorem isD_1 {c : Int} (h : isDigitI c ≠ 0) : digit c := ite10 (P := 48 ≤ c ∧ c ≤ 57) h
theorem isD_0 {c : Int} (h : isDigitI c = 0) : ¬ digit c := ite10n (P := 48 ≤ c ∧ c ≤ 57) h
theorem end_step {P : Int → Prop} {t : Int → Int} {n p : Int} {i : Nat} (h : ∀ j, p ≤ j → j < p + (i : Int) → j < n ∧ P (t j)) (h1 : p + (i : Int) < n) (h2 : P (t (p + (i : Int)))) : ∀ j, p ≤ j → j < p + ((i + 1 : Nat) : Int) → j < n ∧ P (t j) := fun j a b => by
  by_cases e : j = p + (i : Int)
  · rw [e]; exact ⟨h1, h2⟩
  · exact h j a (by omega)
theorem sp_passWord {l : Launch} {γ : Gh} {ρ m : Mm} {t : Int → Int} {n p : Int} (hL : LY ρ) (hR : MR m) (hB : BY t) (hn : 0 ≤ n ∧ n ≤ 700) (hp : 0 ≤ p ∧ p ≤ n) (hn1 : m 38 1 = n) (hT : TpC m t n) (hat : m 38 2 = p) : gE l γ μX7_passWord 1 0 0 (rV KK fun ρ9 m9 => ρ = ρ9 ∧ MR m9 ∧ Fr [38] m m9 ∧ (∀ k, k ≠ 2 → m9 38 k = m 38 k) ∧ isEnd letter t n p (m9 38 2)) xN KK ρ m [vR 38] := by
  refine gE.ofw cl_X7.2 ?_ rfl rfl (Nat.le_of_ble_eq_true rfl)
  show gT l γ μX7_passWord 1 0 0 _ _ KK ρ m 0 [some (vR 38)] []
  refine g_for (fun i : Nat => ∀ m1 : Mm, (MR m1 ∧ Fr [38] m m1 ∧ (∀ k, k ≠ 2 → m1 38 k = m 38 k) ∧ m1 38 2 = p + (i : Int) ∧ ∀ j, p ≤ j → j < p + (i : Int) → j < n ∧ letter (t j)) → gT l γ μX7_passWord 1 0 0 _ _ KK ρ m1 0 [some (vR 38)] []) (n - p).toNat ?_ (fun i hi ihi => ?_) 0 (Nat.zero_le _) _ ⟨hR, Fr.rf, fun _ _ => rfl, by rw [hat]; show p = p + 0; omega, fun j h1 h2 => absurd h2 (by show ¬ j < p + 0; omega)⟩
  · intro m1 hinv
    obtain ⟨hR1, hF1, hk1, ha1, hw1⟩ := hinv
    have hl1 : m1 38 1 = n := (hk1 1 (by decide)).trans hn1
    refine tz_aload0 (n := 1) (g_at ck_X7_passWord 0 rfl) rfl (g_ne kd_38) ?_
    refine tz_getIw (n := 4) (kz := 2) fk_X7_23 kd_38 (g_at ck_X7_passWord 1 rfl) rfl rfl ?_
    rw [ha1]
    refine tz_aload0 (n := 5) (g_at ck_X7_passWord 2 rfl) rfl (g_ne kd_38) ?_
    refine tz_getIw (n := 8) (kz := 1) fk_X7_19 kd_38 (g_at ck_X7_passWord 3 rfl) rfl rfl ?_
    rw [hl1]
    refine tz_icmp_ge (n := 11) (tgt := 39) (g_at ck_X7_passWord 4 rfl) rfl rfl ⟨by omega, by omega, by omega, by omega⟩ (fun h8 => ?_) (fun h8 => absurd h8 (by omega))
    exact tz_vret (g_at ck_X7_passWord 19 rfl) rfl (rV_mk ⟨rfl, hR1, hF1, hk1, by rw [ha1]; exact ⟨by omega, hw1, fun h9 => absurd h9.1 (by omega)⟩⟩)
  · intro m1 hinv
    obtain ⟨hR1, hF1, hk1, ha1, hw1⟩ := hinv
    have hl1 : m1 38 1 = n := (hk1 1 (by decide)).trans hn1
    have hT1 := hT.fr hF1
    refine tz_aload0 (n := 1) (g_at ck_X7_passWord 0 rfl) rfl (g_ne kd_38) ?_
    refine tz_getIw (n := 4) (kz := 2) fk_X7_23 kd_38 (g_at ck_X7_passWord 1 rfl) rfl rfl ?_
    rw [ha1]
    refine tz_aload0 (n := 5) (g_at ck_X7_passWord 2 rfl) rfl (g_ne kd_38) ?_
    refine tz_getIw (n := 8) (kz := 1) fk_X7_19 kd_38 (g_at ck_X7_passWord 3 rfl) rfl rfl ?_
    rw [hl1]
    refine tz_icmp_ge (n := 11) (tgt := 39) (g_at ck_X7_passWord 4 rfl) rfl rfl ⟨by omega, by omega, by omega, by omega⟩ (fun h8 => absurd h8 (by omega)) (fun h8 => ?_)
    refine tz_aload0 (n := 12) (g_at ck_X7_passWord 5 rfl) rfl (g_ne kd_38) ?_
    refine tz_getAv (n := 15) (a := 2) fk_X7_7 kd_38 (ly_38_0 hL) (g_at ck_X7_passWord 6 rfl) rfl ?_
    refine tz_aload0 (n := 16) (g_at ck_X7_passWord 7 rfl) rfl (g_ne kd_38) ?_
    refine tz_getIw (n := 19) (kz := 2) fk_X7_23 kd_38 (g_at ck_X7_passWord 8 rfl) rfl rfl ?_
    rw [ha1]
    refine tz_iald (n := 20) kd_2 (by omega) (g_at ck_X7_passWord 9 rfl) rfl ?_
    rw [hT1 _ (by omega) (by omega)]
    refine tz_csI1 (n := 23) (μ' := μX7_isLetter) (cb' := 0) (sb' := 0) ml_X7_35 mo_X7_isLetter ms_X7_isLetter np_X7_isLetter (g_at ck_X7_passWord 10 rfl) (sp_isLetter hR1 (hB _)) rfl rfl ⟨by decide, by decide⟩ (Nat.le_of_ble_eq_true rfl) (by decide) (by decide) (fun x20 ρ9 m20 hq => ?_)
    obtain ⟨rfl, hR1, rfl, rfl⟩ := hq
    refine tz_if_eq (n := 26) (tgt := 39) (g_at ck_X7_passWord 11 rfl) rfl rfl (by unfold isLetterI; split <;> decide) (fun h23 => ?_) (fun h23 => ?_)
    · skip
      exact tz_vret (g_at ck_X7_passWord 19 rfl) rfl (rV_mk ⟨rfl, hR1, hF1, hk1, by rw [ha1]; exact ⟨by omega, hw1, fun h9 => isL_0 h23 h9.2⟩⟩)
    · skip
      refine tz_aload0 (n := 27) (g_at ck_X7_passWord 12 rfl) rfl (g_ne kd_38) ?_
      refine tz_dupR (n := 28) (g_at ck_X7_passWord 13 rfl) rfl ?_
      refine tz_getIw (n := 31) (kz := 2) fk_X7_23 kd_38 (g_at ck_X7_passWord 14 rfl) rfl rfl ?_
      rw [ha1]
      refine tz_iconst (n := 32) (g_at ck_X7_passWord 15 rfl) rfl ?_
      refine tz_iadd (n := 33) (g_at ck_X7_passWord 16 rfl) rfl ?_
      refine tz_putIr (n := 36) (kz := 2) fk_X7_23 kd_38 (g_at ck_X7_passWord 17 rfl) rfl hR1 (by omega) rfl (fun hR2 => ?_)
      refine tz_goto (tgt := 0) (g_at ck_X7_passWord 18 rfl) rfl ?_
      exact ihi _ ⟨hR2, hF1.wr (by decide), fun k hk => by rw [wr_at, if_neg hk]; exact hk1 k hk, by rw [wr_same]; omega, end_step hw1 (by omega) (isL_1 h23)⟩
theorem sp_passNumber {l : Launch} {γ : Gh} {ρ m : Mm} {t : Int → Int} {n p : Int} (hL : LY ρ) (hR : MR m) (hB : BY t) (hn : 0 ≤ n ∧ n ≤ 700) (hp : 0 ≤ p ∧ p ≤ n) (hn1 : m 38 1 = n) (hT : TpC m t n) (hat : m 38 2 = p) (hst : m 38 4 = p) : gE l γ μX7_passNumber 1 0 0 (rV KK fun ρ9 m9 => ρ = ρ9 ∧ MR m9 ∧ Fr [38] m m9 ∧ (∀ k, k ≠ 2 → k ≠ 5 → m9 38 k = m 38 k) ∧ isEnd digit t n p (m9 38 2) ∧ m9 38 5 = nmV t p (mn4 (m9 38 2 - p))) xN KK ρ m [vR 38] := by
  refine gE.ofw cl_X7.2 ?_ rfl rfl (Nat.le_of_ble_eq_true rfl)
  show gT l γ μX7_passNumber 1 0 0 _ _ KK ρ m 0 [some (vR 38)] []
  refine tz_aload0 (n := 1) (g_at ck_X7_passNumber 0 rfl) rfl (g_ne kd_38) ?_
  refine tz_iconst (n := 2) (g_at ck_X7_passNumber 1 rfl) rfl ?_
  refine tz_putIr (n := 5) (kz := 5) fk_X7_56 kd_38 (g_at ck_X7_passNumber 2 rfl) rfl hR ⟨(by decide), (by decide)⟩ rfl (fun hR1 => ?_)
  refine g_for (fun i : Nat => ∀ m1 : Mm, (MR m1 ∧ Fr [38] m m1 ∧ (∀ k, k ≠ 2 → k ≠ 5 → m1 38 k = m 38 k) ∧ m1 38 2 = p + (i : Int) ∧ (∀ j, p ≤ j → j < p + (i : Int) → j < n ∧ digit (t j)) ∧ m1 38 5 = (nmV t p (mn4 (i : Int)))) → gT l γ μX7_passNumber 1 0 0 _ _ KK ρ m1 5 [some (vR 38)] []) (n - p).toNat ?_ (fun i hi ihi => ?_) 0 (Nat.zero_le _) _ ⟨hR1, Fr.rf.wr (by decide), fun k h2 h5 => by rw [wr_at, if_neg h5], by rw [wr_at, if_neg (by decide), hat]; show p = p + 0; omega, fun j h1 h2 => absurd h2 (by show ¬ j < p + 0; omega), wr_same⟩
  · intro m1 hinv
    obtain ⟨hR1, hF1, hk1, ha1, hw1, hv1⟩ := hinv
    have hl1 : m1 38 1 = n := (hk1 1 (by decide) (by decide)).trans hn1
    refine tz_aload0 (n := 6) (g_at ck_X7_passNumber 3 rfl) rfl (g_ne kd_38) ?_
    refine tz_getIw (n := 9) (kz := 2) fk_X7_23 kd_38 (g_at ck_X7_passNumber 4 rfl) rfl rfl ?_
    rw [ha1]
    refine tz_aload0 (n := 10) (g_at ck_X7_passNumber 5 rfl) rfl (g_ne kd_38) ?_
    refine tz_getIw (n := 13) (kz := 1) fk_X7_19 kd_38 (g_at ck_X7_passNumber 6 rfl) rfl rfl ?_
    rw [hl1]
    refine tz_icmp_ge (n := 16) (tgt := 81) (g_at ck_X7_passNumber 7 rfl) rfl rfl ⟨by omega, by omega, by omega, by omega⟩ (fun h13 => ?_) (fun h13 => absurd h13 (by omega))
    exact tz_vret (g_at ck_X7_passNumber 43 rfl) rfl (rV_mk ⟨rfl, hR1, hF1, hk1, by rw [ha1]; exact ⟨by omega, hw1, fun h9 => absurd h9.1 (by omega)⟩, by rw [ha1, hv1, show p + (((n - p).toNat : Int) : Int) - p = (((n - p).toNat : Int) : Int) by omega]⟩)
  · intro m1 hinv
    obtain ⟨hR1, hF1, hk1, ha1, hw1, hv1⟩ := hinv
    have hl1 : m1 38 1 = n := (hk1 1 (by decide) (by decide)).trans hn1
    have hT1 := hT.fr hF1
    have hs1 : m1 38 4 = p := (hk1 4 (by decide) (by decide)).trans hst
    have hv9 := nmV_9 (t := t) (a := p) (w := mn4 (i : Int)) (by unfold mn4; split <;> omega) (fun j hj => (hw1 (p + (j : Int)) (by omega) (by have h7 := mn4_le i; omega)).2)
    refine tz_aload0 (n := 6) (g_at ck_X7_passNumber 3 rfl) rfl (g_ne kd_38) ?_
    refine tz_getIw (n := 9) (kz := 2) fk_X7_23 kd_38 (g_at ck_X7_passNumber 4 rfl) rfl rfl ?_
    rw [ha1]
    refine tz_aload0 (n := 10) (g_at ck_X7_passNumber 5 rfl) rfl (g_ne kd_38) ?_
    refine tz_getIw (n := 13) (kz := 1) fk_X7_19 kd_38 (g_at ck_X7_passNumber 6 rfl) rfl rfl ?_
    rw [hl1]
    refine tz_icmp_ge (n := 16) (tgt := 81) (g_at ck_X7_passNumber 7 rfl) rfl rfl ⟨by omega, by omega, by omega, by omega⟩ (fun h13 => absurd h13 (by omega)) (fun h13 => ?_)
    refine tz_aload0 (n := 17) (g_at ck_X7_passNumber 8 rfl) rfl (g_ne kd_38) ?_
    refine tz_getAv (n := 20) (a := 2) fk_X7_7 kd_38 (ly_38_0 hL) (g_at ck_X7_passNumber 9 rfl) rfl ?_
    refine tz_aload0 (n := 21) (g_at ck_X7_passNumber 10 rfl) rfl (g_ne kd_38) ?_
    refine tz_getIw (n := 24) (kz := 2) fk_X7_23 kd_38 (g_at ck_X7_passNumber 11 rfl) rfl rfl ?_
    rw [ha1]
    refine tz_iald (n := 25) kd_2 (by omega) (g_at ck_X7_passNumber 12 rfl) rfl ?_
    rw [hT1 _ (by omega) (by omega)]
    refine tz_csI1 (n := 28) (μ' := μX7_isDigit) (cb' := 0) (sb' := 0) ml_X7_42 mo_X7_isDigit ms_X7_isDigit np_X7_isDigit (g_at ck_X7_passNumber 13 rfl) (sp_isDigit hR1 (hB _)) rfl rfl ⟨by decide, by decide⟩ (Nat.le_of_ble_eq_true rfl) (by decide) (by decide) (fun x25 ρ9 m25 hq => ?_)
    obtain ⟨rfl, hR2, rfl, rfl⟩ := hq
    refine tz_if_eq (n := 31) (tgt := 81) (g_at ck_X7_passNumber 14 rfl) rfl rfl (by unfold isDigitI; split <;> decide) (fun h28 => ?_) (fun h28 => ?_)
    · skip
      exact tz_vret (g_at ck_X7_passNumber 43 rfl) rfl (rV_mk ⟨rfl, hR2, hF1, hk1, by rw [ha1]; exact ⟨by omega, hw1, fun h9 => isD_0 h28 h9.2⟩, by rw [ha1, hv1, show p + (i : Int) - p = (i : Int) by omega]⟩)
    · skip
      refine tz_aload0 (n := 32) (g_at ck_X7_passNumber 15 rfl) rfl (g_ne kd_38) ?_
      refine tz_getIw (n := 35) (kz := 2) fk_X7_23 kd_38 (g_at ck_X7_passNumber 16 rfl) rfl rfl ?_
      rw [ha1]
      refine tz_aload0 (n := 36) (g_at ck_X7_passNumber 17 rfl) rfl (g_ne kd_38) ?_
      refine tz_getIw (n := 39) (kz := 4) fk_X7_29 kd_38 (g_at ck_X7_passNumber 18 rfl) rfl rfl ?_
      rw [hs1]
      refine tz_isub (n := 40) (g_at ck_X7_passNumber 19 rfl) rfl ?_
      refine tz_iconst (n := 41) (g_at ck_X7_passNumber 20 rfl) rfl ?_
      refine tz_icmp_ge (n := 44) (tgt := 68) (g_at ck_X7_passNumber 21 rfl) rfl rfl ⟨by omega, by omega, by decide, by decide⟩ (fun h41 => ?_) (fun h41 => ?_)
      · skip
        refine tz_aload0 (n := 69) (g_at ck_X7_passNumber 36 rfl) rfl (g_ne kd_38) ?_
        refine tz_dupR (n := 70) (g_at ck_X7_passNumber 37 rfl) rfl ?_
        refine tz_getIw (n := 73) (kz := 2) fk_X7_23 kd_38 (g_at ck_X7_passNumber 38 rfl) rfl rfl ?_
        rw [ha1]
        refine tz_iconst (n := 74) (g_at ck_X7_passNumber 39 rfl) rfl ?_
        refine tz_iadd (n := 75) (g_at ck_X7_passNumber 40 rfl) rfl ?_
        refine tz_putIr (n := 78) (kz := 2) fk_X7_23 kd_38 (g_at ck_X7_passNumber 41 rfl) rfl hR2 (by omega) rfl (fun hR3 => ?_)
        refine tz_goto (tgt := 5) (g_at ck_X7_passNumber 42 rfl) rfl ?_
        have e9 : mn4 (((i + 1 : Nat)) : Int) = mn4 (i : Int) := by unfold mn4; split <;> split <;> omega
        exact ihi _ ⟨hR3, hF1.wr (by decide), fun k h2 h5 => by rw [wr_at, if_neg h2]; exact hk1 k h2 h5, by rw [wr_same]; omega, end_step hw1 (by omega) (isD_1 h28), by rw [wr_at, if_neg (by decide), e9]; exact hv1⟩
      · skip
        refine tz_aload0 (n := 45) (g_at ck_X7_passNumber 22 rfl) rfl (g_ne kd_38) ?_
        refine tz_aload0 (n := 46) (g_at ck_X7_passNumber 23 rfl) rfl (g_ne kd_38) ?_
        refine tz_getIw (n := 49) (kz := 5) fk_X7_56 kd_38 (g_at ck_X7_passNumber 24 rfl) rfl rfl ?_
        rw [hv1]
        refine tz_bipush (n := 51) (g_at ck_X7_passNumber 25 rfl) rfl rfl ?_
        refine tz_imul (n := 52) (g_at ck_X7_passNumber 26 rfl) rfl ?_
        refine tz_aload0 (n := 53) (g_at ck_X7_passNumber 27 rfl) rfl (g_ne kd_38) ?_
        refine tz_getAv (n := 56) (a := 2) fk_X7_7 kd_38 (ly_38_0 hL) (g_at ck_X7_passNumber 28 rfl) rfl ?_
        refine tz_aload0 (n := 57) (g_at ck_X7_passNumber 29 rfl) rfl (g_ne kd_38) ?_
        refine tz_getIw (n := 60) (kz := 2) fk_X7_23 kd_38 (g_at ck_X7_passNumber 30 rfl) rfl rfl ?_
        rw [ha1]
        refine tz_iald (n := 61) kd_2 (by omega) (g_at ck_X7_passNumber 31 rfl) rfl ?_
        rw [hT1 _ (by omega) (by omega)]
        have hb9 := hB (p + (i : Int))
        refine tz_iadd (n := 62) (g_at ck_X7_passNumber 32 rfl) rfl ?_
        refine tz_bipush (n := 64) (g_at ck_X7_passNumber 33 rfl) rfl rfl ?_
        refine tz_isub (n := 65) (g_at ck_X7_passNumber 34 rfl) rfl ?_
        refine tz_putIr (n := 68) (kz := 5) fk_X7_56 kd_38 (g_at ck_X7_passNumber 35 rfl) rfl hR2 (by omega) rfl (fun hR4 => ?_)
        refine tz_aload0 (n := 69) (g_at ck_X7_passNumber 36 rfl) rfl (g_ne kd_38) ?_
        refine tz_dupR (n := 70) (g_at ck_X7_passNumber 37 rfl) rfl ?_
        refine tz_getIw (n := 73) (kz := 2) fk_X7_23 kd_38 (g_at ck_X7_passNumber 38 rfl) rfl rfl ?_
        rw [wr_at, if_neg (by decide), ha1]
        refine tz_iconst (n := 74) (g_at ck_X7_passNumber 39 rfl) rfl ?_
        refine tz_iadd (n := 75) (g_at ck_X7_passNumber 40 rfl) rfl ?_
        refine tz_putIr (n := 78) (kz := 2) fk_X7_23 kd_38 (g_at ck_X7_passNumber 41 rfl) rfl hR4 (by omega) rfl (fun hR5 => ?_)
        refine tz_goto (tgt := 5) (g_at ck_X7_passNumber 42 rfl) rfl ?_
        have e9 : mn4 (((i + 1 : Nat)) : Int) = mn4 (i : Int) + 1 := by unfold mn4; split <;> split <;> omega
        have e8 : mn4 (i : Int) = i := by unfold mn4; split <;> omega
        exact ihi _ ⟨hR5, (hF1.wr (by decide)).wr (by decide), fun k h2 h5 => by rw [wr_at, if_neg h2, wr_at, if_neg h5]; exact hk1 k h2 h5, by rw [wr_same]; omega, end_step hw1 (by omega) (isD_1 h28), by rw [wr_at, if_neg (by decide), wr_same, e9, e8]; rfl⟩
