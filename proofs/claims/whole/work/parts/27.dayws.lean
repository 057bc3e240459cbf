/-! Days keep what stands within its bounds. -/
theorem trnP_WS {Λ σ : Mm} {b c k : Int} (hW : WL Λ) (h : WS Λ b σ) (hc : 0 ≤ c ∧ c < Λ 0 0) (hk : 0 ≤ k) : WS Λ b (trnP Λ c k σ) := by
  have hn := hW.1
  have hn8 := hW.2.1
  have hc1 := h.2.2.1 c hc.1 hc.2
  unfold trnP
  split
  · exact h
  · rename_i hno
    have hm := Int.emod_nonneg (σ 0 (17 + c) + k) (show Λ 3 c ≠ 0 by omega)
    have hm2 := Int.emod_lt_of_pos (σ 0 (17 + c) + k) (show 0 < Λ 3 c by omega)
    refine ⟨?_, fun q a d => ?_, fun q a d => ?_, fun j a d => ?_⟩
    · have := h.1
      rw [wr_at, if_neg (by omega)]
      exact this
    · have := h.2.1 q a d
      rw [wr_at, if_neg (by omega), wr_at, if_neg (by omega), wr_ne (by decide)]
      exact this
    · have := h.2.2.1 q a d
      rw [wr_at, wr_at, if_neg (show ¬ 26 + q = 17 + c by omega)]
      by_cases e : q = c
      · subst e
        rw [if_pos rfl]
        omega
      · rw [if_neg (by omega)]
        exact this
    · rw [wr_ne (by decide)]
      exact h.2.2.2 j a d
theorem takP_WS {Λ σ : Mm} {b p w : Int} {hl tl : List Int} (hW : WL Λ) (h : WS Λ b σ) (hb : 0 ≤ b) (hp : 0 ≤ p ∧ p < Λ 0 1) (hr : 0 < Λ 3 (σ 0 (1 + p))) : WS Λ (b + 1) (takP Λ hl tl w p σ) := by
  have hp1 := h.2.1 p hp.1 hp.2
  have hc : 0 ≤ σ 0 (1 + p) ∧ σ 0 (1 + p) < Λ 0 0 := ⟨hp1.1, hp1.2.1⟩
  unfold takP
  split
  · exact h.up (by omega)
  · split
    · exact folP_WS hW h hb hp hc hr
    · exact trnP_WS hW (folP_WS hW h hb hp hc hr) hc (tvL_rg _ _).1
theorem perP_WS {Λ σ : Mm} {b p w : Int} {hl tl : List Int} (hW : WL Λ) (h : WS Λ b σ) (hb : 0 ≤ b) (hp : 0 ≤ p ∧ p < Λ 0 1) : WS Λ (b + 1) (perP Λ hl tl w p σ) := by
  unfold perP
  split
  · exact h.up (by omega)
  · rename_i hno
    exact takP_WS hW h hb hp (by omega)
theorem dayN_WS {Λ σ : Mm} {b w : Int} {hl tl : List Int} (hW : WL Λ) (h : WS Λ b σ) (hb : 0 ≤ b) : ∀ n : Nat, n ≤ (Λ 0 1).toNat → WS Λ (b + n) (dayN Λ hl tl w σ n)
  | 0, _ => by
    show WS Λ (b + 0) σ
    rw [Int.add_zero]
    exact h
  | n + 1, hn => by
    have ih := dayN_WS (hl := hl) (tl := tl) (w := w) hW h hb n (by omega)
    have := perP_WS (hl := hl) (tl := tl) (w := w) (p := (n : Int)) hW ih (by omega) (by omega)
    exact this.up (by omega)
theorem dayP_WS {Λ σ : Mm} {b w : Int} {hl tl : List Int} (hW : WL Λ) (h : WS Λ b σ) (hb : 0 ≤ b) : WS Λ (b + 9) (dayP Λ hl tl w σ) := by
  have hn8 := hW.2.1
  have k := dayN_WS (hl := hl) (tl := tl) (w := w) hW h hb (Λ 0 1).toNat (Nat.le_refl _)
  unfold dayP
  generalize dayN Λ hl tl w σ (Λ 0 1).toNat = τ at k ⊢
  refine ⟨?_, fun q a d => ?_, fun q a d => ?_, fun j a d => ?_⟩
  · have := k.1
    rw [wr_same]
    omega
  · have := k.2.1 q a d
    rw [wr_at, if_neg (by omega), wr_at, if_neg (by omega), wr_ne (by decide)]
    omega
  · have := k.2.2.1 q a d
    rw [wr_at, if_neg (by omega), wr_at, if_neg (by omega)]
    exact this
  · have := k.2.2.2 j a d
    rw [wr_ne (by decide)]
    omega
def daysP (Λ : Mm) (hl tl : List Int) (σ : Mm) (n : Nat) : Mm := fd (fun _ s => dayP Λ hl tl 1 s) σ n
theorem daysP_WS {Λ σ : Mm} {b : Int} {hl tl : List Int} (hW : WL Λ) (h : WS Λ b σ) (hb : 0 ≤ b) : ∀ n : Nat, WS Λ (b + 9 * n) (daysP Λ hl tl σ n)
  | 0 => by
    show WS Λ (b + 9 * 0) σ
    rw [Int.mul_zero, Int.add_zero]
    exact h
  | n + 1 => (dayP_WS (w := 1) hW (daysP_WS hW h hb n) (by omega)).up (by omega)
theorem perP_home {Λ σ : Mm} {w p : Int} {hl tl : List Int} (h : σ 0 (1 + p) = Λ 5 p) : perP Λ hl tl w p σ = σ := if_pos (Or.inl h)
theorem perP_none {Λ σ : Mm} {w p : Int} {hl tl : List Int} (h : Λ 3 (σ 0 (1 + p)) ≤ 0) : perP Λ hl tl w p σ = σ := if_pos (Or.inr h)
theorem perP_tak {Λ σ : Mm} {w p : Int} {hl tl : List Int} (h : ¬ σ 0 (1 + p) = Λ 5 p) (h2 : ¬ Λ 3 (σ 0 (1 + p)) ≤ 0) : perP Λ hl tl w p σ = takP Λ hl tl w p σ := if_neg (fun h9 => h9.elim h h2)
theorem ite10 {P : Prop} [Decidable P] (h : (if P then (1 : Int) else 0) ≠ 0) : P := by
  by_cases k : P
  · exact k
  · rw [if_neg k] at h; exact absurd rfl h
theorem ite10n {P : Prop} [Decidable P] (h : (if P then (1 : Int) else 0) = 0) : ¬ P := fun k => by
  rw [if_pos k] at h
  exact absurd h (by decide)
/-- a trip that begins at the row s -/
def sig0 (s : Int → Int) : Mm := fun k => if k = 0 then s else fun _ => 0
theorem sig0_0 {s : Int → Int} : sig0 s 0 = s := rfl
