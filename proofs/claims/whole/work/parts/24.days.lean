/-! What a rule's text comes to; a land, what stands in it, and a day, as numbers alone. -/
def stepL (c : Int) (V : Int → Int) (st : List Int) : List Int :=
  if c < -5 then
    if c = -8 then match st with
      | x :: r => (if x = 0 then 1 else 0) :: r
      | [] => []
    else match st with
      | b :: a :: r => joinF c a b :: r
      | s => s
  else (if c < 0 then V (-1 - c) else c) :: st
def evS (L : List Int) (V : Int → Int) : List Int := L.foldl (fun st c => stepL c V st) []
def evC (L : List Int) (V : Int → Int) : Int := (evS L V).headD 0
def okL : List Int → Nat → Prop
  | [], d => d = 1
  | c :: r, d => if c < -5 then (if c = -8 then 1 ≤ d ∧ okL r d else 2 ≤ d ∧ okL r (d - 1)) else d < 40 ∧ okL r (d + 1)
def simL (s : Int → Int) : List Int → Prop
  | [] => True
  | x :: r => s (r.length : Int) = x ∧ simL s r
theorem simL_up {s : Int → Int} {k x : Int} : ∀ {r : List Int}, simL s r → (r.length : Int) ≤ k → simL (up s k x) r
  | [], _, _ => trivial
  | y :: r, h, hk => by
    have e : ((y :: r).length : Int) = (r.length : Int) + 1 := by rw [List.length_cons]; omega
    rw [e] at hk
    exact ⟨by rw [up_ne (by omega)]; exact h.1, simL_up h.2 (by omega)⟩
theorem simL_push {s : Int → Int} {x : Int} {r : List Int} (h : simL s r) : simL (up s (r.length : Int) x) (x :: r) := ⟨up_at, simL_up h (Int.le_refl _)⟩
theorem step_sim {c : Int} {V : Int → Int} {q : Int × (Int → Int)} {st : List Int} {L : List Int} (hq : q.1 = st.length) (hs : simL q.2 st) (ho : okL (c :: L) st.length) : (stepV c V q).1 = (stepL c V st).length ∧ simL (stepV c V q).2 (stepL c V st) ∧ okL L (stepL c V st).length := by
  unfold okL at ho
  unfold stepV stepL
  by_cases h1 : c < -5
  · rw [if_pos h1] at ho
    rw [if_pos h1, if_pos h1]
    by_cases h2 : c = -8
    · rw [if_pos h2] at ho
      rw [if_pos h2, if_pos h2]
      match st, hq, hs, ho with
      | [], _, _, ho => exact absurd ho.1 (by simp)
      | x :: r, hq, hs, ho =>
        have e : ((x :: r).length : Int) = (r.length : Int) + 1 := by rw [List.length_cons]; omega
        rw [e] at hq
        rw [if_neg (by omega)]
        have e2 : q.1 - 1 = (r.length : Int) := by omega
        refine ⟨?_, ?_, ho.2⟩
        · show q.1 = ((_ :: r : List Int).length : Int)
          rw [List.length_cons]; omega
        · show simL (up q.2 (q.1 - 1) _) _
          rw [e2, hs.1]
          exact simL_push hs.2
    · rw [if_neg h2] at ho
      rw [if_neg h2, if_neg h2]
      match st, hq, hs, ho with
      | [], _, _, ho => exact absurd ho.1 (by simp)
      | [x], _, _, ho => exact absurd ho.1 (by simp)
      | b :: a :: r, hq, hs, ho =>
        have e : ((b :: a :: r).length : Int) = (r.length : Int) + 2 := by rw [List.length_cons, List.length_cons]; omega
        rw [e] at hq
        rw [if_neg (by omega)]
        have e2 : q.1 + -1 - 1 = (r.length : Int) := by omega
        have e3 : q.1 + -1 = (r.length : Int) + 1 := by omega
        have e4 : (((a :: r).length : Nat) : Int) = (r.length : Int) + 1 := by rw [List.length_cons]; omega
        refine ⟨?_, ?_, ho.2⟩
        · show q.1 + -1 = ((_ :: r : List Int).length : Int)
          rw [List.length_cons]; omega
        · show simL (up q.2 (q.1 + -1 - 1) _) _
          have hb := hs.1
          rw [e4] at hb
          rw [e2, e3, hb, hs.2.1]
          exact simL_push hs.2.2
  · rw [if_neg h1] at ho
    rw [if_neg h1, if_neg h1, if_neg (by omega)]
    refine ⟨?_, ?_, ho.2⟩
    · show q.1 + 1 = ((_ :: st : List Int).length : Int)
      rw [List.length_cons]; omega
    · show simL (up q.2 q.1 _) _
      rw [hq]
      exact simL_push hs
/-- the rule at u tells L -/
def RuleC (m : Mm) (u : Int) (L : List Int) : Prop := m u 2 = (L.length : Int) ∧ L.length ≤ 700 ∧ (∀ i : Nat, (h : i < L.length) → m (u + 1) (i : Int) = L[i]) ∧ (L ≠ [] → okL L 0)
theorem val_sim {code V s0 : Int → Int} {L : List Int} (hc : ∀ i : Nat, (h : i < L.length) → code (i : Int) = L[i]) (ho : okL L 0) : ∀ n, n ≤ L.length → (valS code V s0 n).1 = (evS (L.take n) V).length ∧ simL (valS code V s0 n).2 (evS (L.take n) V) ∧ okL (L.drop n) (evS (L.take n) V).length
  | 0, _ => ⟨rfl, trivial, ho⟩
  | n + 1, h => by
    obtain ⟨a, b, c⟩ := val_sim hc ho n (by omega)
    rw [List.drop_eq_getElem_cons (by omega)] at c
    have k := step_sim (V := V) a b c
    rw [← hc n (by omega)] at k
    have e : evS (L.take (n + 1)) V = stepL (code (n : Int)) V (evS (L.take n) V) := by
      unfold evS
      rw [List.take_succ_eq_append_getElem (by omega), List.foldl_append, hc n (by omega)]
      rfl
    rw [e]
    exact k
theorem val_ev {m : Mm} {u : Int} {L : List Int} (h : RuleC m u L) (hL : L ≠ []) (V s0 : Int → Int) : valR (valS (m (u + 1)) V s0 (m u 2).toNat) = evC L V := by
  have e : (m u 2).toNat = L.length := by rw [h.1]; rfl
  obtain ⟨a, b, c⟩ := val_sim (V := V) (s0 := s0) h.2.2.1 (h.2.2.2 hL) L.length (Nat.le_refl _)
  rw [List.take_length] at a b c
  rw [List.drop_length] at c
  rw [e]
  unfold valR evC
  have c1 : (evS L V).length = 1 := c
  match hs : evS L V, a, b, c1 with
  | [x], a, b, _ =>
    have a1 : (valS (m (u + 1)) V s0 L.length).1 = 1 := a
    rw [if_neg (by omega), a1]
    exact b.1
theorem evC_rg {L : List Int} {V : Int → Int} (hL : ∀ c ∈ L, -2147483648 ≤ c ∧ c < 2147483648) (hV : ∀ j, -2147483648 ≤ V j ∧ V j < 2147483648) : True := trivial
def clamp9 (x : Int) : Int := if x < 0 then 0 else if x > 9 then 9 else x
def hvL (L : List Int) (V : Int → Int) : Int := if L = [] then 1 else evC L V
def tvL (L : List Int) (V : Int → Int) : Int := if L = [] then 1 else clamp9 (evC L V)
theorem tvL_rg (L : List Int) (V : Int → Int) : 0 ≤ tvL L V ∧ tvL L V ≤ 9 := by
  unfold tvL clamp9
  repeat' split
  all_goals omega
/-- a land: 0 how many crossings, people; 1 tolls, 2 beds, 3 how many roads, 4 where they lead, 5 homes -/
def WL (Λ : Mm) : Prop := (0 ≤ Λ 0 0 ∧ Λ 0 0 ≤ 9) ∧ (0 ≤ Λ 0 1 ∧ Λ 0 1 ≤ 8) ∧ (∀ c, 0 ≤ c → c < Λ 0 0 → 0 ≤ Λ 1 c ∧ Λ 1 c ≤ 9 ∧ 0 ≤ Λ 2 c ∧ Λ 2 c ≤ 1 ∧ 0 ≤ Λ 3 c ∧ Λ 3 c ≤ 5) ∧ (∀ c r, 0 ≤ c → c < Λ 0 0 → 0 ≤ r → r < Λ 3 c → 0 ≤ Λ 4 (c * 5 + r) ∧ Λ 4 (c * 5 + r) < Λ 0 0) ∧ (∀ p, 0 ≤ p → p < Λ 0 1 → 0 ≤ Λ 5 p ∧ Λ 5 p < Λ 0 0)
/-- what stands in it: 0 the row of 35 (day, where, purse, arm, shut), 1 steps, 2 goings; within bounds for b more days gone -/
def WS (Λ : Mm) (b : Int) (σ : Mm) : Prop := (0 ≤ σ 0 0 ∧ σ 0 0 ≤ 9999 + b) ∧ (∀ p, 0 ≤ p → p < Λ 0 1 → 0 ≤ σ 0 (1 + p) ∧ σ 0 (1 + p) < Λ 0 0 ∧ 0 ≤ σ 0 (9 + p) ∧ σ 0 (9 + p) ≤ 99 ∧ 0 ≤ σ 1 p ∧ σ 1 p ≤ b) ∧ (∀ c, 0 ≤ c → c < Λ 0 0 → 0 ≤ σ 0 (17 + c) ∧ (0 < Λ 3 c → σ 0 (17 + c) < Λ 3 c) ∧ 0 ≤ σ 0 (26 + c) ∧ σ 0 (26 + c) < 32) ∧ (∀ j, 0 ≤ j → j < 45 → 0 ≤ σ 2 j ∧ σ 2 j ≤ 8 * b)
def cntAt (σ : Mm) (c : Int) (n : Nat) : Int := fd (fun p v => if σ 0 (1 + (p : Int)) = c then v + 1 else v) 0 n
def tolV (Λ σ : Mm) (p c : Int) : Int → Int := fun k => if k = 0 then σ 0 (17 + c) else if k = 1 then Λ 3 c else if k = 2 then σ 0 (9 + p) else if k = 3 then cntAt σ c (Λ 0 1).toNat - 1 else if k = 4 then σ 0 0 else 0
def folP (Λ : Mm) (p c : Int) (σ : Mm) : Mm :=
  if shutB (σ 0 (26 + c)) (σ 0 (17 + c)) = 1 ∨ σ 0 (9 + p) < Λ 1 (Λ 4 (c * 5 + σ 0 (17 + c))) then σ
  else wr (wr (wr (wr σ 0 (1 + p) (Λ 4 (c * 5 + σ 0 (17 + c)))) 0 (9 + p) (σ 0 (9 + p) - Λ 1 (Λ 4 (c * 5 + σ 0 (17 + c))))) 1 p (σ 1 p + 1)) 2 (c * 5 + σ 0 (17 + c)) (σ 2 (c * 5 + σ 0 (17 + c)) + 1)
def trnP (Λ : Mm) (c k : Int) (σ : Mm) : Mm := if Λ 3 c ≤ 0 then σ else wr σ 0 (17 + c) ((σ 0 (17 + c) + k) % Λ 3 c)
def takP (Λ : Mm) (hL tL : List Int) (w p : Int) (σ : Mm) : Mm :=
  if hvL hL (tolV Λ σ p (σ 0 (1 + p))) ≤ 0 then σ
  else if w = 0 then folP Λ p (σ 0 (1 + p)) σ
  else trnP Λ (σ 0 (1 + p)) (tvL tL (tolV Λ σ p (σ 0 (1 + p)))) (folP Λ p (σ 0 (1 + p)) σ)
def perP (Λ : Mm) (hL tL : List Int) (w p : Int) (σ : Mm) : Mm :=
  if σ 0 (1 + p) = Λ 5 p ∨ Λ 3 (σ 0 (1 + p)) ≤ 0 then σ else takP Λ hL tL w p σ
def dayN (Λ : Mm) (hL tL : List Int) (w : Int) (σ : Mm) (n : Nat) : Mm := fd (fun p s => perP Λ hL tL w (p : Int) s) σ n
def dayP (Λ : Mm) (hL tL : List Int) (w : Int) (σ : Mm) : Mm := wr (dayN Λ hL tL w σ (Λ 0 1).toNat) 0 0 (dayN Λ hL tL w σ (Λ 0 1).toNat 0 0 + 1)
/-- the shire at ld is this land -/
def LandC (m : Mm) (ld : Int) (Λ : Mm) (hL tL : List Int) : Prop := (ld = 3 ∨ ld = 20) ∧ m ld 0 = Λ 0 0 ∧ m ld 1 = Λ 0 1 ∧ (∀ c, 0 ≤ c → c < Λ 0 0 → m (ld + 1) c = Λ 1 c ∧ m (ld + 2) c = Λ 2 c ∧ m (ld + 3) c = Λ 3 c) ∧ (∀ c r, 0 ≤ c → c < Λ 0 0 → 0 ≤ r → r < Λ 3 c → m (ld + 4) (c * 5 + r) = Λ 4 (c * 5 + r)) ∧ (∀ p, 0 ≤ p → p < Λ 0 1 → m (ld + 5) p = Λ 5 p) ∧ RuleC m (ld + 6) hL ∧ RuleC m (ld + 9) tL
/-- the moment at mo is this row -/
def MomC (m : Mm) (mo : Int) (s : Int → Int) : Prop := m mo 0 = s 0 ∧ (∀ p, 0 ≤ p → p < 8 → m (mo + 1) p = s (1 + p) ∧ m (mo + 2) p = s (9 + p)) ∧ ∀ c, 0 ≤ c → c < 9 → m (mo + 3) c = s (17 + c) ∧ m (mo + 4) c = s (26 + c)
def TripC (m : Mm) (σ : Mm) : Prop := MomC m 63 (σ 0) ∧ (∀ p, 0 ≤ p → p < 8 → m 68 p = σ 1 p) ∧ ∀ j, 0 ≤ j → j < 45 → m 69 j = σ 2 j
def trL (ld : Int) : List Int := [63, 64, 65, 66, 67, 68, 69, 70, ld + 8, ld + 11]
theorem trL_no {ld : Int} (h : ld = 3 ∨ ld = 20) {a : Int} (ha : a ∈ trL ld) : (a = 11 ∨ a = 14 ∨ a = 28 ∨ a = 31 ∨ (63 ≤ a ∧ a ≤ 70)) ∧ ((a = 11 ∨ a = 14) → ld = 3) ∧ ((a = 28 ∨ a = 31) → ld = 20) := by
  unfold trL at ha
  simp only [List.mem_cons, List.not_mem_nil, or_false] at ha
  omega
theorem LandC.fr {m m9 Λ : Mm} {ld : Int} {hL tL : List Int} (h : LandC m ld Λ hL tL) (k : Fr (trL ld) m m9) : LandC m9 ld Λ hL tL := by
  obtain ⟨h0, h1, h2, h3, h4, h5, h6, h7⟩ := h
  have g : ∀ a, 0 ≤ a → a ≤ 10 → a ≠ 8 → m9 (ld + a) = m (ld + a) := fun a ha hb hc => k _ fun h9 => by
    have := trL_no h0 h9
    omega
  have g0 : m9 ld = m ld := k _ fun h9 => by
    have := trL_no h0 h9
    omega
  refine ⟨h0, by rw [g0]; exact h1, by rw [g0]; exact h2, ?_, ?_, ?_, ?_, ?_⟩
  · intro c a b
    rw [g 1 (by decide) (by decide) (by decide), g 2 (by decide) (by decide) (by decide), g 3 (by decide) (by decide) (by decide)]
    exact h3 c a b
  · intro c r a b d e
    rw [g 4 (by decide) (by decide) (by decide)]
    exact h4 c r a b d e
  · intro p a b
    rw [g 5 (by decide) (by decide) (by decide)]
    exact h5 p a b
  · refine ⟨by rw [g 6 (by decide) (by decide) (by decide)]; exact h6.1, h6.2.1, fun i hi => ?_, h6.2.2.2⟩
    have e : ld + 6 + 1 = ld + 7 := by omega
    have := h6.2.2.1 i hi
    rw [e] at this ⊢
    rw [g 7 (by decide) (by decide) (by decide)]
    exact this
  · refine ⟨by rw [g 9 (by decide) (by decide) (by decide)]; exact h7.1, h7.2.1, fun i hi => ?_, h7.2.2.2⟩
    have e : ld + 9 + 1 = ld + 10 := by omega
    have := h7.2.2.1 i hi
    rw [e] at this ⊢
    rw [g 10 (by decide) (by decide) (by decide)]
    exact this
