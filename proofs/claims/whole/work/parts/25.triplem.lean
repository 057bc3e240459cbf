/-! The trip's cells, one by one. -/
section
variable {m m9 Λ σ : Mm} {ld : Int} {hl tl : List Int}
theorem TripC.day (h : TripC m σ) : m 63 0 = σ 0 0 := h.1.1
theorem TripC.whr (h : TripC m σ) (p : Int) (hp : 0 ≤ p ∧ p < 8) : m 64 p = σ 0 (1 + p) := (h.1.2.1 p hp.1 hp.2).1
theorem TripC.pur (h : TripC m σ) (p : Int) (hp : 0 ≤ p ∧ p < 8) : m 65 p = σ 0 (9 + p) := (h.1.2.1 p hp.1 hp.2).2
theorem TripC.arm (h : TripC m σ) (c : Int) (hc : 0 ≤ c ∧ c < 9) : m 66 c = σ 0 (17 + c) := (h.1.2.2 c hc.1 hc.2).1
theorem TripC.sht (h : TripC m σ) (c : Int) (hc : 0 ≤ c ∧ c < 9) : m 67 c = σ 0 (26 + c) := (h.1.2.2 c hc.1 hc.2).2
theorem TripC.stp (h : TripC m σ) (p : Int) (hp : 0 ≤ p ∧ p < 8) : m 68 p = σ 1 p := h.2.1 p hp.1 hp.2
theorem TripC.goi (h : TripC m σ) (j : Int) (hj : 0 ≤ j ∧ j < 45) : m 69 j = σ 2 j := h.2.2 j hj.1 hj.2
theorem TripC.mk (h1 : m 63 0 = σ 0 0) (h2 : ∀ p, 0 ≤ p ∧ p < 8 → m 64 p = σ 0 (1 + p)) (h3 : ∀ p, 0 ≤ p ∧ p < 8 → m 65 p = σ 0 (9 + p)) (h4 : ∀ c, 0 ≤ c ∧ c < 9 → m 66 c = σ 0 (17 + c)) (h5 : ∀ c, 0 ≤ c ∧ c < 9 → m 67 c = σ 0 (26 + c)) (h6 : ∀ p, 0 ≤ p ∧ p < 8 → m 68 p = σ 1 p) (h7 : ∀ j, 0 ≤ j ∧ j < 45 → m 69 j = σ 2 j) : TripC m σ := ⟨⟨h1, fun p a b => ⟨h2 p ⟨a, b⟩, h3 p ⟨a, b⟩⟩, fun c a b => ⟨h4 c ⟨a, b⟩, h5 c ⟨a, b⟩⟩⟩, fun p a b => h6 p ⟨a, b⟩, fun j a b => h7 j ⟨a, b⟩⟩
theorem TripC.sam (h : TripC m σ) (k : ∀ a, 63 ≤ a → a ≤ 69 → m9 a = m a) : TripC m9 σ := TripC.mk (by rw [k 63 (by decide) (by decide)]; exact h.day) (fun p hp => by rw [k 64 (by decide) (by decide)]; exact h.whr p hp) (fun p hp => by rw [k 65 (by decide) (by decide)]; exact h.pur p hp) (fun p hp => by rw [k 66 (by decide) (by decide)]; exact h.arm p hp) (fun p hp => by rw [k 67 (by decide) (by decide)]; exact h.sht p hp) (fun p hp => by rw [k 68 (by decide) (by decide)]; exact h.stp p hp) (fun p hp => by rw [k 69 (by decide) (by decide)]; exact h.goi p hp)
theorem TripC.setW (h : TripC m σ) {p x : Int} (hp : 0 ≤ p ∧ p < 8) : TripC (wr m 64 p x) (wr σ 0 (1 + p) x) := TripC.mk (by have := h.day; simp only [wr, true_and, and_true, false_and, if_false, if_true]; (repeat' split) <;> omega) (fun q hq => by have := h.whr q hq; simp only [wr, true_and, and_true, false_and, if_false, if_true]; (repeat' split) <;> omega) (fun q hq => by have := h.pur q hq; simp only [wr, true_and, and_true, false_and, if_false, if_true]; (repeat' split) <;> omega) (fun q hq => by have := h.arm q hq; simp only [wr, true_and, and_true, false_and, if_false, if_true]; (repeat' split) <;> omega) (fun q hq => by have := h.sht q hq; simp only [wr, true_and, and_true, false_and, if_false, if_true]; (repeat' split) <;> omega) (fun q hq => by have := h.stp q hq; simp only [wr, true_and, and_true, false_and, if_false, if_true]; (repeat' split) <;> omega) (fun q hq => by have := h.goi q hq; simp only [wr, true_and, and_true, false_and, if_false, if_true]; (repeat' split) <;> omega)
theorem TripC.setP (h : TripC m σ) {p x : Int} (hp : 0 ≤ p ∧ p < 8) : TripC (wr m 65 p x) (wr σ 0 (9 + p) x) := TripC.mk (by have := h.day; simp only [wr, true_and, and_true, false_and, if_false, if_true]; (repeat' split) <;> omega) (fun q hq => by have := h.whr q hq; simp only [wr, true_and, and_true, false_and, if_false, if_true]; (repeat' split) <;> omega) (fun q hq => by have := h.pur q hq; simp only [wr, true_and, and_true, false_and, if_false, if_true]; (repeat' split) <;> omega) (fun q hq => by have := h.arm q hq; simp only [wr, true_and, and_true, false_and, if_false, if_true]; (repeat' split) <;> omega) (fun q hq => by have := h.sht q hq; simp only [wr, true_and, and_true, false_and, if_false, if_true]; (repeat' split) <;> omega) (fun q hq => by have := h.stp q hq; simp only [wr, true_and, and_true, false_and, if_false, if_true]; (repeat' split) <;> omega) (fun q hq => by have := h.goi q hq; simp only [wr, true_and, and_true, false_and, if_false, if_true]; (repeat' split) <;> omega)
theorem TripC.setA (h : TripC m σ) {p x : Int} (hp : 0 ≤ p ∧ p < 9) : TripC (wr m 66 p x) (wr σ 0 (17 + p) x) := TripC.mk (by have := h.day; simp only [wr, true_and, and_true, false_and, if_false, if_true]; (repeat' split) <;> omega) (fun q hq => by have := h.whr q hq; simp only [wr, true_and, and_true, false_and, if_false, if_true]; (repeat' split) <;> omega) (fun q hq => by have := h.pur q hq; simp only [wr, true_and, and_true, false_and, if_false, if_true]; (repeat' split) <;> omega) (fun q hq => by have := h.arm q hq; simp only [wr, true_and, and_true, false_and, if_false, if_true]; (repeat' split) <;> omega) (fun q hq => by have := h.sht q hq; simp only [wr, true_and, and_true, false_and, if_false, if_true]; (repeat' split) <;> omega) (fun q hq => by have := h.stp q hq; simp only [wr, true_and, and_true, false_and, if_false, if_true]; (repeat' split) <;> omega) (fun q hq => by have := h.goi q hq; simp only [wr, true_and, and_true, false_and, if_false, if_true]; (repeat' split) <;> omega)
theorem TripC.setH (h : TripC m σ) {p x : Int} (hp : 0 ≤ p ∧ p < 9) : TripC (wr m 67 p x) (wr σ 0 (26 + p) x) := TripC.mk (by have := h.day; simp only [wr, true_and, and_true, false_and, if_false, if_true]; (repeat' split) <;> omega) (fun q hq => by have := h.whr q hq; simp only [wr, true_and, and_true, false_and, if_false, if_true]; (repeat' split) <;> omega) (fun q hq => by have := h.pur q hq; simp only [wr, true_and, and_true, false_and, if_false, if_true]; (repeat' split) <;> omega) (fun q hq => by have := h.arm q hq; simp only [wr, true_and, and_true, false_and, if_false, if_true]; (repeat' split) <;> omega) (fun q hq => by have := h.sht q hq; simp only [wr, true_and, and_true, false_and, if_false, if_true]; (repeat' split) <;> omega) (fun q hq => by have := h.stp q hq; simp only [wr, true_and, and_true, false_and, if_false, if_true]; (repeat' split) <;> omega) (fun q hq => by have := h.goi q hq; simp only [wr, true_and, and_true, false_and, if_false, if_true]; (repeat' split) <;> omega)
theorem TripC.setS (h : TripC m σ) {p x : Int} (hp : 0 ≤ p ∧ p < 8) : TripC (wr m 68 p x) (wr σ 1 p x) := TripC.mk (by have := h.day; simp only [wr, true_and, and_true, false_and, if_false, if_true]; (repeat' split) <;> omega) (fun q hq => by have := h.whr q hq; simp only [wr, true_and, and_true, false_and, if_false, if_true]; (repeat' split) <;> omega) (fun q hq => by have := h.pur q hq; simp only [wr, true_and, and_true, false_and, if_false, if_true]; (repeat' split) <;> omega) (fun q hq => by have := h.arm q hq; simp only [wr, true_and, and_true, false_and, if_false, if_true]; (repeat' split) <;> omega) (fun q hq => by have := h.sht q hq; simp only [wr, true_and, and_true, false_and, if_false, if_true]; (repeat' split) <;> omega) (fun q hq => by have := h.stp q hq; simp only [wr, true_and, and_true, false_and, if_false, if_true]; (repeat' split) <;> omega) (fun q hq => by have := h.goi q hq; simp only [wr, true_and, and_true, false_and, if_false, if_true]; (repeat' split) <;> omega)
theorem TripC.setG (h : TripC m σ) {p x : Int} (hp : 0 ≤ p ∧ p < 45) : TripC (wr m 69 p x) (wr σ 2 p x) := TripC.mk (by have := h.day; simp only [wr, true_and, and_true, false_and, if_false, if_true]; (repeat' split) <;> omega) (fun q hq => by have := h.whr q hq; simp only [wr, true_and, and_true, false_and, if_false, if_true]; (repeat' split) <;> omega) (fun q hq => by have := h.pur q hq; simp only [wr, true_and, and_true, false_and, if_false, if_true]; (repeat' split) <;> omega) (fun q hq => by have := h.arm q hq; simp only [wr, true_and, and_true, false_and, if_false, if_true]; (repeat' split) <;> omega) (fun q hq => by have := h.sht q hq; simp only [wr, true_and, and_true, false_and, if_false, if_true]; (repeat' split) <;> omega) (fun q hq => by have := h.stp q hq; simp only [wr, true_and, and_true, false_and, if_false, if_true]; (repeat' split) <;> omega) (fun q hq => by have := h.goi q hq; simp only [wr, true_and, and_true, false_and, if_false, if_true]; (repeat' split) <;> omega)
theorem TripC.setD (h : TripC m σ) {x : Int} : TripC (wr m 63 0 x) (wr σ 0 0 x) := TripC.mk (by rw [wr_same, wr_same]) (fun q hq => by have := h.whr q hq; simp only [wr, true_and, and_true, false_and, if_false, if_true]; (repeat' split) <;> omega) (fun q hq => by have := h.pur q hq; simp only [wr, true_and, and_true, false_and, if_false, if_true]; (repeat' split) <;> omega) (fun q hq => by have := h.arm q hq; simp only [wr, true_and, and_true, false_and, if_false, if_true]; (repeat' split) <;> omega) (fun q hq => by have := h.sht q hq; simp only [wr, true_and, and_true, false_and, if_false, if_true]; (repeat' split) <;> omega) (fun q hq => by have := h.stp q hq; simp only [wr, true_and, and_true, false_and, if_false, if_true]; (repeat' split) <;> omega) (fun q hq => by have := h.goi q hq; simp only [wr, true_and, and_true, false_and, if_false, if_true]; (repeat' split) <;> omega)
theorem LandC.ld9 (h : LandC m ld Λ hl tl) : ld = 3 ∨ ld = 20 := h.1
theorem LandC.n0 (h : LandC m ld Λ hl tl) : m ld 0 = Λ 0 0 := h.2.1
theorem LandC.n1 (h : LandC m ld Λ hl tl) : m ld 1 = Λ 0 1 := h.2.2.1
theorem LandC.toll (h : LandC m ld Λ hl tl) (c : Int) (hc : 0 ≤ c ∧ c < Λ 0 0) : m (ld + 1) c = Λ 1 c := (h.2.2.2.1 c hc.1 hc.2).1
theorem LandC.bed (h : LandC m ld Λ hl tl) (c : Int) (hc : 0 ≤ c ∧ c < Λ 0 0) : m (ld + 2) c = Λ 2 c := (h.2.2.2.1 c hc.1 hc.2).2.1
theorem LandC.roads (h : LandC m ld Λ hl tl) (c : Int) (hc : 0 ≤ c ∧ c < Λ 0 0) : m (ld + 3) c = Λ 3 c := (h.2.2.2.1 c hc.1 hc.2).2.2
theorem LandC.ends (h : LandC m ld Λ hl tl) (c r : Int) (hc : 0 ≤ c ∧ c < Λ 0 0) (hr : 0 ≤ r ∧ r < Λ 3 c) : m (ld + 4) (c * 5 + r) = Λ 4 (c * 5 + r) := h.2.2.2.2.1 c r hc.1 hc.2 hr.1 hr.2
theorem LandC.home (h : LandC m ld Λ hl tl) (p : Int) (hp : 0 ≤ p ∧ p < Λ 0 1) : m (ld + 5) p = Λ 5 p := h.2.2.2.2.2.1 p hp.1 hp.2
theorem LandC.hr (h : LandC m ld Λ hl tl) : RuleC m (ld + 6) hl := h.2.2.2.2.2.2.1
theorem LandC.tr (h : LandC m ld Λ hl tl) : RuleC m (ld + 9) tl := h.2.2.2.2.2.2.2
end
def tld (L : List Int) : Int := if L = [] then 0 else 1
theorem RuleC.told {m : Mm} {u : Int} {L : List Int} (h : RuleC m u L) : (if m u 2 ≤ 0 then (0 : Int) else 1) = tld L := by
  unfold tld
  match L, h with
  | [], h =>
    have e : m u 2 = 0 := h.1
    rw [if_pos (by omega), if_pos rfl]
  | x :: r, h =>
    have e : m u 2 = ((x :: r).length : Int) := h.1
    rw [List.length_cons] at e
    rw [if_neg (by omega), if_neg (by simp)]
theorem tld_01 (L : List Int) : tld L = 0 ∨ tld L = 1 := by unfold tld; split <;> simp
theorem tld_ne {L : List Int} (h : tld L ≠ 0) : L ≠ [] := fun e => h (by rw [e]; rfl)
theorem tld_eq {L : List Int} (h : tld L = 0) : L = [] := by
  unfold tld at h
  split at h
  · assumption
  · exact absurd h (by decide)
theorem stepL_congr {c : Int} {V V' : Int → Int} (h : ∀ k, 0 ≤ k → k < 5 → V k = V' k) (st : List Int) : stepL c V st = stepL c V' st := by
  unfold stepL
  by_cases h1 : c < -5
  · rw [if_pos h1, if_pos h1]
  · rw [if_neg h1, if_neg h1]
    by_cases h2 : c < 0
    · rw [if_pos h2, if_pos h2, h (-1 - c) (by omega) (by omega)]
    · rw [if_neg h2, if_neg h2]
theorem evC_congr {L : List Int} {V V' : Int → Int} (h : ∀ k, 0 ≤ k → k < 5 → V k = V' k) : evC L V = evC L V' := by
  unfold evC evS
  congr 1
  congr 1
  exact funext fun st => funext fun c => stepL_congr h st
theorem valR_rg {q : Int × (Int → Int)} (h : ∀ j, -2147483648 ≤ q.2 j ∧ q.2 j < 2147483648) : -2147483648 ≤ valR q ∧ valR q < 2147483648 := by
  unfold valR
  split
  · decide
  · exact h _
def bitsN (f : Int → Int) (c : Int) (n : Nat) : Nat := fd (fun p v => if f (p : Int) = c then v ||| 2 ^ p else v) 0 n
theorem bitsN_lt (f : Int → Int) (c : Int) : ∀ n, bitsN f c n < 2 ^ n
  | 0 => by show 0 < 1; decide
  | n + 1 => by
    have h := bitsN_lt f c n
    have h2 : 2 ^ n < 2 ^ (n + 1) := Nat.pow_lt_pow_right (by decide) (Nat.lt_succ_self n)
    show (if f (n : Int) = c then bitsN f c n ||| 2 ^ n else bitsN f c n) < 2 ^ (n + 1)
    split
    · exact Nat.or_lt_two_pow (by omega) h2
    · omega
theorem bitsW_N (f : Int → Int) (c : Int) : ∀ n, n ≤ 30 → bitsW f c n = (bitsN f c n : Int)
  | 0, _ => rfl
  | n + 1, hn => by
    have h := bitsW_N f c n (by omega)
    have h1 := bitsN_lt f c n
    have h2 : 2 ^ n ≤ 2 ^ 30 := Nat.pow_le_pow_right (by decide) (by omega)
    show (if f (n : Int) = c then bOr (bitsW f c n) (bShl 1 (n : Int)) else bitsW f c n) = ((if f (n : Int) = c then bitsN f c n ||| 2 ^ n else bitsN f c n : Nat) : Int)
    rw [h]
    split
    · rw [bShl_1 n (by omega), bOr_nn (by omega) (by omega)]
    · rfl
theorem bc_step : ∀ n : Nat, n < 9 → ∀ v : Nat, v < 2 ^ n → bcJ ((v ||| 2 ^ n : Nat) : Int) = bcJ (v : Int) + 1 := by decide +kernel
theorem bc_cnt {f : Int → Int} {σ : Mm} {c : Int} : ∀ {n : Nat}, n ≤ 8 → (∀ p : Int, 0 ≤ p → p < n → f p = σ 0 (1 + p)) → bcJ (bitsW f c n) = cntAt σ c n
  | 0, _, _ => by show bcJ 0 = 0; decide
  | n + 1, hn, hf => by
    have ih := bc_cnt (c := c) (n := n) (by omega) (fun p a b => hf p a (by omega))
    rw [bitsW_N _ _ _ (by omega)] at ih ⊢
    show bcJ ((if f (n : Int) = c then bitsN f c n ||| 2 ^ n else bitsN f c n : Nat) : Int) = (if σ 0 (1 + (n : Int)) = c then cntAt σ c n + 1 else cntAt σ c n)
    rw [hf (n : Int) (by omega) (by omega)]
    split
    · rw [bc_step n (by omega) _ (bitsN_lt _ _ _), ih]
    · exact ih
theorem cntAt_rg (σ : Mm) (c : Int) : ∀ n : Nat, 0 ≤ cntAt σ c n ∧ cntAt σ c n ≤ n
  | 0 => by show (0 : Int) ≤ 0 ∧ (0 : Int) ≤ ((0 : Nat) : Int); decide
  | n + 1 => by
    have h := cntAt_rg σ c n
    show 0 ≤ (if σ 0 (1 + (n : Int)) = c then cntAt σ c n + 1 else cntAt σ c n) ∧ (if σ 0 (1 + (n : Int)) = c then cntAt σ c n + 1 else cntAt σ c n) ≤ ((n + 1 : Nat) : Int)
    split <;> omega
theorem clampM (v : Int) : (if 0 < (if v < 9 then v else 9) then (if v < 9 then v else 9) else 0) = clamp9 v := by
  unfold clamp9
  repeat' split
  all_goals omega
theorem folP_no1 {Λ σ : Mm} {p c : Int} (h : shutB (σ 0 (26 + c)) (σ 0 (17 + c)) ≠ 0) : folP Λ p c σ = σ := if_pos (Or.inl (by have := shutB_01 (σ 0 (26 + c)) (σ 0 (17 + c)); omega))
theorem folP_no2 {Λ σ : Mm} {p c : Int} (h : σ 0 (9 + p) < Λ 1 (Λ 4 (c * 5 + σ 0 (17 + c)))) : folP Λ p c σ = σ := if_pos (Or.inr h)
theorem folP_yes {Λ σ : Mm} {p c : Int} (h : shutB (σ 0 (26 + c)) (σ 0 (17 + c)) = 0) (h2 : ¬ σ 0 (9 + p) < Λ 1 (Λ 4 (c * 5 + σ 0 (17 + c)))) : folP Λ p c σ = wr (wr (wr (wr σ 0 (1 + p) (Λ 4 (c * 5 + σ 0 (17 + c)))) 0 (9 + p) (σ 0 (9 + p) - Λ 1 (Λ 4 (c * 5 + σ 0 (17 + c))))) 1 p (σ 1 p + 1)) 2 (c * 5 + σ 0 (17 + c)) (σ 2 (c * 5 + σ 0 (17 + c)) + 1) := if_neg (fun h9 => by omega)
theorem fr_one {a : Int} {m : Mm} {k x : Int} : Fr [a] m (wr m a k x) := Fr.rf.wr (List.mem_cons_self)
