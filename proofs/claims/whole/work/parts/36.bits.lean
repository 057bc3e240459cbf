/-! Sets of bits; what references a call that looks ahead may change. -/
theorem g_cut {T G : Prop} (h : T → G) (t : T) : G := h t
theorem LY.q {ρ ρ9 : Mm} (h : LY ρ) (k : qR ρ ρ9) : LY ρ9 := fun q hq => by
  have h62 : ∀ q ∈ lytab, ¬ (q.1 = 62 ∧ q.2.1 = 0) := by decide
  have h71 : ∀ q ∈ lytab, ¬ (q.1 = 71 ∧ q.2.1 = 0) := by decide
  rw [k q.1 q.2.1 (h62 q hq) (h71 q hq)]
  exact h q hq
theorem qR.ln {ρ ρ9 : Mm} {x : Int} (k : qR ρ ρ9) (h : ρ 1 3 = x) : ρ9 1 3 = x := by rw [k 1 3 (by decide) (by decide)]; exact h
theorem isS_q {ρ ρ9 : Mm} {ld : Int} (hL : LY ρ) (k : qR ρ ρ9) (hld : ld = 3 ∨ ld = 20) : isS ρ9 ld := isS_of (hL.q k) hld
def bmN (P : Nat → Prop) [DecidablePred P] (n : Nat) : Nat := fd (fun p v => if P p then v ||| 2 ^ p else v) 0 n
def bmI (P : Nat → Prop) [DecidablePred P] (n : Nat) : Int := fd (fun p v => if P p then bOr v (bShl 1 (p : Int)) else v) 0 n
theorem bmN_lt (P : Nat → Prop) [DecidablePred P] : ∀ n, bmN P n < 2 ^ n
  | 0 => by show 0 < 1; decide
  | n + 1 => by
    have h := bmN_lt P n
    have h2 : 2 ^ n < 2 ^ (n + 1) := Nat.pow_lt_pow_right (by decide) (Nat.lt_succ_self n)
    show (if P n then bmN P n ||| 2 ^ n else bmN P n) < 2 ^ (n + 1)
    split
    · exact Nat.or_lt_two_pow (by omega) h2
    · omega
theorem bmI_N (P : Nat → Prop) [DecidablePred P] : ∀ n, n ≤ 30 → bmI P n = (bmN P n : Int)
  | 0, _ => rfl
  | n + 1, hn => by
    have h := bmI_N P n (by omega)
    have h1 := bmN_lt P n
    have h2 : 2 ^ n ≤ 2 ^ 30 := Nat.pow_le_pow_right (by decide) (by omega)
    show (if P n then bOr (bmI P n) (bShl 1 (n : Int)) else bmI P n) = ((if P n then bmN P n ||| 2 ^ n else bmN P n : Nat) : Int)
    rw [h]
    split
    · rw [bShl_1 n (by omega), bOr_nn (by omega) (by omega)]
    · rfl
theorem bmN_bit (P : Nat → Prop) [DecidablePred P] (k : Nat) : ∀ n, (bmN P n).testBit k = (decide (k < n) && decide (P k))
  | 0 => by
    show Nat.testBit 0 k = _
    rw [Nat.zero_testBit]
    simp
  | n + 1 => by
    have h := bmN_bit P k n
    show (if P n then bmN P n ||| 2 ^ n else bmN P n).testBit k = _
    by_cases e : k = n
    · subst e
      split
      · rename_i hp
        rw [Nat.testBit_or, Nat.testBit_two_pow_self]
        simp [hp]
      · rename_i hp
        rw [h]
        simp [hp]
    · have hk : (decide (k < n + 1)) = decide (k < n) := by
        by_cases c : k < n
        · simp [c]; omega
        · simp [c]; omega
      rw [hk]
      split
      · rw [Nat.testBit_or, Nat.testBit_two_pow_of_ne (fun h9 => e h9.symm), Bool.or_false, h]
      · exact h
theorem bmN_congr {P Q : Nat → Prop} [DecidablePred P] [DecidablePred Q] {n : Nat} (h : ∀ k, k < n → (P k ↔ Q k)) : bmN P n = bmN Q n := by
  unfold bmN
  exact fd_congr fun i v hi => by
    by_cases c : P i
    · rw [if_pos c, if_pos ((h i hi).mp c)]
    · rw [if_neg c, if_neg (fun h9 => c ((h i hi).mpr h9))]
theorem bmI_congr {P Q : Nat → Prop} [DecidablePred P] [DecidablePred Q] {n : Nat} (h : ∀ k, k < n → (P k ↔ Q k)) : bmI P n = bmI Q n := by
  unfold bmI
  exact fd_congr fun i v hi => by
    by_cases c : P i
    · rw [if_pos c, if_pos ((h i hi).mp c)]
    · rw [if_neg c, if_neg (fun h9 => c ((h i hi).mpr h9))]
theorem bmI_bit (P : Nat → Prop) [DecidablePred P] {n k : Nat} (hn : n ≤ 30) (hk : k < n) : bAnd (bShr (bmI P n) (k : Int)) 1 = if P k then 1 else 0 := by
  have h1 := bmN_lt P n
  have h2 : 2 ^ n ≤ 2 ^ 30 := Nat.pow_le_pow_right (by decide) hn
  rw [bmI_N P n hn, bBit (by omega) (by omega), bmN_bit]
  by_cases c : P k
  · rw [if_pos c, if_pos (by simp [hk, c])]
  · rw [if_neg c, if_neg (by simp [c])]
theorem bitsH_bm (f g : Int → Int) (n : Nat) : bitsH f g n = bmI (fun p => f (p : Int) = g (p : Int)) n := rfl
theorem homB_bit {Λ σ : Mm} (hW : WL Λ) {p : Int} (hp : 0 ≤ p ∧ p < Λ 0 1) : bAnd (bShr (homB Λ σ) p) 1 = if σ 0 (1 + p) = Λ 5 p then 1 else 0 := by
  have hn8 := hW.2.1
  have h := bmI_bit (fun q => σ 0 (1 + (q : Int)) = Λ 5 (q : Int)) (n := (Λ 0 1).toNat) (k := p.toNat) (by omega) (by omega)
  have e : ((p.toNat : Nat) : Int) = p := by omega
  rw [e] at h
  exact h
theorem homB_rg {Λ σ : Mm} (hW : WL Λ) : 0 ≤ homB Λ σ ∧ homB Λ σ < 256 := by
  have hn8 := hW.2.1
  have h1 := bmN_lt (fun q => σ 0 (1 + (q : Int)) = Λ 5 (q : Int)) (Λ 0 1).toNat
  have h2 : 2 ^ (Λ 0 1).toNat ≤ 2 ^ 8 := Nat.pow_le_pow_right (by decide) (by omega)
  have h := bmI_N (fun q => σ 0 (1 + (q : Int)) = Λ 5 (q : Int)) (Λ 0 1).toNat (by omega)
  have e : homB Λ σ = bmI (fun q => σ 0 (1 + (q : Int)) = Λ 5 (q : Int)) (Λ 0 1).toNat := rfl
  rw [e, h]
  omega
/-- the first one, days first, then people -/
def isFF (P : Nat → Nat → Prop) (a b : Nat) (x : Int) : Prop := (x = -1 ∧ ∀ i : Nat, i < a → ∀ j : Nat, j < b → ¬ P i j) ∨ ∃ i j : Nat, i < a ∧ j < b ∧ P i j ∧ x = (j : Int) ∧ (∀ i' : Nat, i' < i → ∀ j' : Nat, j' < b → ¬ P i' j') ∧ ∀ j' : Nat, j' < j → ¬ P i j'
theorem isFF_eq {P : Nat → Nat → Prop} {a b : Nat} {x y : Int} (h : isFF P a b x) (k : isFF P a b y) : x = y := by
  rcases h with ⟨h1, h2⟩ | ⟨i, j, h1, h2, h3, h4, h5, h6⟩
  · rcases k with ⟨k1, k2⟩ | ⟨i', j', k1, k2, k3, k4, k5, k6⟩
    · omega
    · exact absurd k3 (h2 i' k1 j' k2)
  · rcases k with ⟨k1, k2⟩ | ⟨i', j', k1, k2, k3, k4, k5, k6⟩
    · exact absurd h3 (k2 i h1 j h2)
    · by_cases c : i < i'
      · exact absurd h3 (k5 i c j h2)
      · by_cases d : i' < i
        · exact absurd k3 (h5 i' d j' k2)
        · have e : i = i' := by omega
          subst e
          by_cases c : j < j'
          · exact absurd h3 (k6 j c)
          · by_cases d : j' < j
            · exact absurd k3 (h6 j' d)
            · omega
theorem no_step2 {P : Nat → Nat → Prop} {i b : Nat} (h : ∀ j : Nat, j < i → ∀ k : Nat, k < b → ¬ P j k) (hi : ∀ k : Nat, k < b → ¬ P i k) : ∀ j : Nat, j < i + 1 → ∀ k : Nat, k < b → ¬ P j k := fun j hj => by
  by_cases e : j = i
  · rw [e]; exact hi
  · exact h j (by omega)
theorem Fr.cons {L : List Int} {a : Int} {m m9 : Mm} (h : Fr L m m9) : Fr (a :: L) m m9 := fun y hy => h y fun z => hy (List.mem_cons_of_mem _ z)
theorem Fr.wrc {L : List Int} {a k x : Int} {m m9 : Mm} (h : Fr (a :: L) m m9) : Fr (a :: L) m (Jvm.Pilot.@@N@@.wr m9 a k x) := h.wr List.mem_cons_self
theorem Fr.fil {L : List Int} {a : Int} {n : Nat} {x : Int} {m m9 : Mm} (h : Fr L m m9) (ha : a ∈ L) : Fr L m (Jvm.Pilot.@@N@@.fil m9 a n x) := fun y hy => by
  rw [fil_ne fun e => hy (by rw [e]; exact ha)]
  exact h y hy
theorem qM_trc {ld a : Int} {m m9 : Mm} (ha : 62 ≤ a ∧ a ≤ 83) (h : Fr (a :: trL ld) m m9) : qM ld m m9 := fun b h1 h2 h3 => h b fun h9 => by
  unfold trL at h9
  simp only [List.mem_cons, List.not_mem_nil, or_false] at h9
  omega
theorem LandC.q {m m9 Λ : Mm} {ld : Int} {hl tl : List Int} (h : LandC m ld Λ hl tl) (k : qM ld m m9) : LandC m9 ld Λ hl tl := by
  have hld := h.ld9
  refine h.fr (m9 := fun a => if a ∈ trL ld then m9 a else m a) (fun a ha => if_neg ha) |> fun h9 => ?_
  have e : ∀ a : Int, 0 ≤ a → a ≤ 10 → (fun a => if a ∈ trL ld then m9 a else m a : Mm) (ld + a) = m9 (ld + a) := fun a h1 h2 => by
    show (if ld + a ∈ trL ld then m9 (ld + a) else m (ld + a)) = m9 (ld + a)
    split
    · rfl
    · rename_i h8
      refine (k _ (by omega) (fun h7 => h8 ?_) (fun h7 => h8 ?_)).symm
      · unfold trL
        simp only [List.mem_cons, List.not_mem_nil, or_false]
        omega
      · unfold trL
        simp only [List.mem_cons, List.not_mem_nil, or_false]
        omega
  generalize (fun a => if a ∈ trL ld then m9 a else m a : Mm) = m8 at h9 e
  obtain ⟨h0, h1, h2, h3, h4, h5, h6, h7⟩ := h9
  have e0 := e 0 (by decide) (by decide)
  rw [Int.add_zero] at e0
  rw [e0] at h1 h2
  refine ⟨h0, h1, h2, ?_, ?_, ?_, ?_, ?_⟩
  · rw [← e 1 (by decide) (by decide), ← e 2 (by decide) (by decide), ← e 3 (by decide) (by decide)]
    exact h3
  · rw [← e 4 (by decide) (by decide)]
    exact h4
  · rw [← e 5 (by decide) (by decide)]
    exact h5
  · have e7 : ld + 6 + 1 = ld + 7 := by omega
    refine ⟨by rw [← e 6 (by decide) (by decide)]; exact h6.1, h6.2.1, fun i hi => ?_, h6.2.2.2⟩
    have := h6.2.2.1 i hi
    rw [e7] at this ⊢
    rw [← e 7 (by decide) (by decide)]
    exact this
  · have e7 : ld + 9 + 1 = ld + 10 := by omega
    refine ⟨by rw [← e 9 (by decide) (by decide)]; exact h7.1, h7.2.1, fun i hi => ?_, h7.2.2.2⟩
    have := h7.2.2.1 i hi
    rw [e7] at this ⊢
    rw [← e 10 (by decide) (by decide)]
    exact this
theorem MomC.q {m m9 : Mm} {ld : Int} {s : Int → Int} (h : MomC m 39 s) (hld : ld = 3 ∨ ld = 20) (k : qM ld m m9) : MomC m9 39 s := h.sam fun a h1 h2 => k a (by omega) (by omega) (by omega)
theorem sig0_WS_n {Λ : Mm} {s : Int → Int} (h : WS Λ 0 (sig0 s)) {p : Int} (hp : 0 ≤ p ∧ p < Λ 0 1) : 0 ≤ s (1 + p) ∧ s (1 + p) < Λ 0 0 ∧ 0 ≤ s (9 + p) ∧ s (9 + p) ≤ 99 := by
  have := h.2.1 p hp.1 hp.2
  exact ⟨this.1, this.2.1, this.2.2.1, this.2.2.2.1⟩
theorem sig0_WS_c {Λ : Mm} {s : Int → Int} (h : WS Λ 0 (sig0 s)) {c : Int} (hc : 0 ≤ c ∧ c < Λ 0 0) : 0 ≤ s (17 + c) ∧ (0 < Λ 3 c → s (17 + c) < Λ 3 c) ∧ 0 ≤ s (26 + c) ∧ s (26 + c) < 32 := h.2.2.1 c hc.1 hc.2
theorem WS_pur {Λ σ : Mm} {b p k : Int} (hW : WL Λ) (h : WS Λ b σ) (hp : 0 ≤ p ∧ p < Λ 0 1) (hk : 0 ≤ k ∧ k ≤ 99) : WS Λ b (wr σ 0 (9 + p) k) := by
  have hn := hW.1
  have hn8 := hW.2.1
  refine ⟨?_, fun q a d => ?_, fun q a d => ?_, fun j a d => ?_⟩
  · rw [wr_at, if_neg (by omega)]
    exact h.1
  · have := h.2.1 q a d
    rw [wr_at, if_neg (show ¬ 1 + q = 9 + p by omega), wr_at, wr_ne (by decide)]
    split <;> omega
  · rw [wr_at, if_neg (by omega), wr_at, if_neg (by omega)]
    exact h.2.2.1 q a d
  · rw [wr_ne (by decide)]
    exact h.2.2.2 j a d
theorem WS_whr {Λ σ : Mm} {b p k : Int} (hW : WL Λ) (h : WS Λ b σ) (hp : 0 ≤ p ∧ p < Λ 0 1) (hk : 0 ≤ k ∧ k < Λ 0 0) : WS Λ b (wr σ 0 (1 + p) k) := by
  have hn := hW.1
  have hn8 := hW.2.1
  refine ⟨?_, fun q a d => ?_, fun q a d => ?_, fun j a d => ?_⟩
  · rw [wr_at, if_neg (by omega)]
    exact h.1
  · have := h.2.1 q a d
    rw [wr_at, wr_at, if_neg (show ¬ 9 + q = 1 + p by omega), wr_ne (by decide)]
    split <;> omega
  · rw [wr_at, if_neg (by omega), wr_at, if_neg (by omega)]
    exact h.2.2.1 q a d
  · rw [wr_ne (by decide)]
    exact h.2.2.2 j a d
theorem WS_sht {Λ σ : Mm} {b c k : Int} (hW : WL Λ) (h : WS Λ b σ) (hc : 0 ≤ c ∧ c < Λ 0 0) (hk : 0 ≤ k ∧ k < 32) : WS Λ b (wr σ 0 (26 + c) k) := by
  have hn := hW.1
  have hn8 := hW.2.1
  refine ⟨?_, fun q a d => ?_, fun q a d => ?_, fun j a d => ?_⟩
  · rw [wr_at, if_neg (by omega)]
    exact h.1
  · rw [wr_at, if_neg (by omega), wr_at, if_neg (by omega), wr_ne (by decide)]
    exact h.2.1 q a d
  · have := h.2.2.1 q a d
    rw [wr_at, if_neg (show ¬ 17 + q = 26 + c by omega), wr_at]
    split <;> omega
  · rw [wr_ne (by decide)]
    exact h.2.2.2 j a d
theorem WS_stp {Λ σ : Mm} {b : Int} (h : WS Λ b σ) (hb : 0 ≤ b) : WS Λ b (upA σ 1 (fun _ => 0)) := by
  refine ⟨?_, fun q a d => ?_, fun q a d => ?_, fun j a d => ?_⟩
  · rw [upA_ne (by decide)]
    exact h.1
  · have := h.2.1 q a d
    rw [upA_ne (show (0 : Int) ≠ 1 by decide), upA_at]
    omega
  · rw [upA_ne (by decide)]
    exact h.2.2.1 q a d
  · rw [upA_ne (by decide)]
    exact h.2.2.2 j a d
theorem TripC.zst {m σ : Mm} (h : TripC m σ) : TripC (fil m 68 8 0) (upA σ 1 (fun _ => 0)) := by
  refine TripC.mk ?_ (fun q hq => ?_) (fun q hq => ?_) (fun q hq => ?_) (fun q hq => ?_) (fun q hq => ?_) (fun q hq => ?_)
  · rw [fil_ne (by decide), upA_ne (by decide)]; exact h.day
  · rw [fil_ne (by decide), upA_ne (by decide)]; exact h.whr q hq
  · rw [fil_ne (by decide), upA_ne (by decide)]; exact h.pur q hq
  · rw [fil_ne (by decide), upA_ne (by decide)]; exact h.arm q hq
  · rw [fil_ne (by decide), upA_ne (by decide)]; exact h.sht q hq
  · rw [fil_at (by omega), upA_at]
  · rw [fil_ne (by decide), upA_ne (by decide)]; exact h.goi q hq
