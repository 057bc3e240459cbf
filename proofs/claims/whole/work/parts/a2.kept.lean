/-! What is true of the value stays true. -/
theorem per_o2 {Λ σ : Mm} {hl tl : List Int} {w p b k : Int} (hW : WL Λ) (hσ : WS Λ b σ) (hp : 0 ≤ p ∧ p < Λ 0 1) (hk : k = 0 ∨ 26 ≤ k) : perP Λ hl tl w p σ 0 k = σ 0 k := by
  have h8 := hW.2.1
  have h7 := hW.1
  have h9 := hσ.2.1 p hp.1 hp.2
  have hf : folP Λ p (σ 0 (1 + p)) σ 0 k = σ 0 k := by
    unfold folP
    split
    · rfl
    · simp only [wr, true_and, and_true, false_and, if_false, if_true, Int.reduceEq]
      rw [if_neg (by omega), if_neg (by omega)]
  unfold perP
  split
  · rfl
  · unfold takP
    split
    · rfl
    · split
      · exact hf
      · unfold trnP
        split
        · exact hf
        · rw [wr_at, if_neg (by omega)]
          exact hf
theorem dayN_o2 {Λ σ : Mm} {hl tl : List Int} {w b k : Int} (hW : WL Λ) (hσ : WS Λ b σ) (hb : 0 ≤ b) (hk : k = 0 ∨ 26 ≤ k) : ∀ n : Nat, n ≤ (Λ 0 1).toNat → dayN Λ hl tl w σ n 0 k = σ 0 k
  | 0, _ => rfl
  | n + 1, h => by
    have ih := dayN_o2 (hl := hl) (tl := tl) (w := w) hW hσ hb hk n (by omega)
    have h1 := dayN_WS (hl := hl) (tl := tl) (w := w) hW hσ hb n (by omega)
    rw [dayN_s, per_o2 hW h1 (by omega) hk]
    exact ih
theorem days_o2 {Λ σ : Mm} {hl tl : List Int} {b k : Int} (hW : WL Λ) (hσ : WS Λ b σ) (hb : 0 ≤ b) (hk : 26 ≤ k) : ∀ n : Nat, daysP Λ hl tl σ n 0 k = σ 0 k
  | 0 => rfl
  | n + 1 => by
    have ih := days_o2 (hl := hl) (tl := tl) hW hσ hb hk n
    have h1 := daysP_WS (hl := hl) (tl := tl) hW hσ hb n
    have h2 := dayN_o2 (hl := hl) (tl := tl) (w := 1) hW h1 (by omega) (Or.inr hk) (Λ 0 1).toNat (Nat.le_refl _)
    show dayP Λ hl tl 1 (daysP Λ hl tl σ n) 0 k = σ 0 k
    unfold dayP
    rw [wr_at, if_neg (by omega), h2]
    exact ih
theorem days_0 {Λ σ : Mm} {hl tl : List Int} {b : Int} (hW : WL Λ) (hσ : WS Λ b σ) (hb : 0 ≤ b) : ∀ n : Nat, daysP Λ hl tl σ n 0 0 = σ 0 0 + n
  | 0 => by show σ 0 0 = σ 0 0 + 0; omega
  | n + 1 => by
    have ih := days_0 (hl := hl) (tl := tl) hW hσ hb n
    have h1 := daysP_WS (hl := hl) (tl := tl) hW hσ hb n
    have h2 := dayN_o2 (hl := hl) (tl := tl) (w := 1) hW h1 (by omega) (Or.inl (rfl : (0 : Int) = 0)) (Λ 0 1).toNat (Nat.le_refl _)
    show dayP Λ hl tl 1 (daysP Λ hl tl σ n) 0 0 = σ 0 0 + ((n + 1 : Nat) : Int)
    unfold dayP
    rw [wr_at, if_pos rfl, h2]
    omega
section
variable {Λ : Mm} {s : Int → Int}
theorem RwO.arm {c r : Int} (hW : WL Λ) (h : RwO Λ s) (hc : 0 ≤ c ∧ c < Λ 0 0) (hr : 0 ≤ r ∧ r < Λ 3 c) : RwO Λ (up s (17 + c) r) := by
  have h7 := hW.1
  exact ⟨by rw [sig_up]; exact WS_arm hW h.1 hc hr, fun d d1 d2 => by rw [up_ne (by omega)]; exact h.2 d d1 d2⟩
theorem RwO.pur {p k : Int} (hW : WL Λ) (h : RwO Λ s) (hp : 0 ≤ p ∧ p < Λ 0 1) (hk : 0 ≤ k ∧ k ≤ 99) : RwO Λ (up s (9 + p) k) := by
  have h7 := hW.2.1
  exact ⟨by rw [sig_up]; exact WS_pur hW h.1 hp hk, fun d d1 d2 => by rw [up_ne (by omega)]; exact h.2 d d1 d2⟩
theorem RwO.whr {p k : Int} (hW : WL Λ) (h : RwO Λ s) (hp : 0 ≤ p ∧ p < Λ 0 1) (hk : 0 ≤ k ∧ k < Λ 0 0) : RwO Λ (up s (1 + p) k) := by
  have h7 := hW.2.1
  exact ⟨by rw [sig_up]; exact WS_whr hW h.1 hp hk, fun d d1 d2 => by rw [up_ne (by omega)]; exact h.2 d d1 d2⟩
theorem xor_in {x r k : Int} (hx : 0 ≤ x ∧ x < ((2 ^ k.toNat : Nat) : Int)) (hr : 0 ≤ r ∧ r < k) (hk : k ≤ 5) : 0 ≤ bXor x (bShl 1 r) ∧ bXor x (bShl 1 r) < ((2 ^ k.toNat : Nat) : Int) ∧ bXor x (bShl 1 r) < 32 := by
  have h5 : 2 ^ k.toNat ≤ 2 ^ 5 := Nat.pow_le_pow_right (by decide) (by omega)
  have e1 := bShl_1 r.toNat (by omega)
  rw [show ((r.toNat : Nat) : Int) = r by omega] at e1
  have hlt : 2 ^ r.toNat < 2 ^ k.toNat := Nat.pow_lt_pow_right (by decide) (by omega)
  have e2 := bXor_nn (a := x.toNat) (b := 2 ^ r.toNat) (by omega) (by omega)
  rw [show ((x.toNat : Nat) : Int) = x by omega, ← e1] at e2
  have h3 := Nat.xor_lt_two_pow (x := x.toNat) (y := 2 ^ r.toNat) (n := k.toNat) (by omega) hlt
  rw [e2]
  omega
theorem RwO.sht {c r : Int} (hW : WL Λ) (h : RwO Λ s) (hc : 0 ≤ c ∧ c < Λ 0 0) (hr : 0 ≤ r ∧ r < Λ 3 c) : RwO Λ (up s (26 + c) (bXor (s (26 + c)) (bShl 1 r))) := by
  have h7 := hW.2.2.1 c hc.1 hc.2
  have h6 := h.1.2.2.1 c hc.1 hc.2
  have hx := xor_in (x := s (26 + c)) (r := r) (k := Λ 3 c) ⟨h6.2.2.1, h.2 c hc.1 hc.2⟩ hr (by omega)
  refine ⟨by rw [sig_up]; exact WS_sht hW h.1 hc ⟨hx.1, hx.2.2⟩, fun d d1 d2 => ?_⟩
  by_cases e : d = c
  · rw [e, up_at]; exact hx.2.1
  · rw [up_ne (by omega)]; exact h.2 d d1 d2
theorem RwO.days {hl tl : List Int} {y : Int} (hW : WL Λ) (h : RwO Λ s) (hy : ¬ (y < 1 ∨ 20 < y ∨ 9999 < s 0 + y)) : RwO Λ (daysP Λ hl tl (sig0 s) y.toNat 0) := by
  have h1 := daysP_WS (hl := hl) (tl := tl) hW h.1 (Int.le_refl _) y.toNat
  have h0 := days_0 (hl := hl) (tl := tl) hW h.1 (Int.le_refl _) y.toNat
  have hz := h.1.1
  have e0 : sig0 s 0 0 = s 0 := rfl
  refine ⟨⟨?_, fun p p1 p2 => ?_, fun c c1 c2 => h1.2.2.1 c c1 c2, fun j j1 j2 => ⟨Int.le_refl 0, by show (0 : Int) ≤ 8 * 0; decide⟩⟩, fun c c1 c2 => ?_⟩
  · show 0 ≤ daysP Λ hl tl (sig0 s) y.toNat 0 0 ∧ daysP Λ hl tl (sig0 s) y.toNat 0 0 ≤ 9999 + 0
    omega
  · have h2 := h1.2.1 p p1 p2
    exact ⟨h2.1, h2.2.1, h2.2.2.1, h2.2.2.2.1, Int.le_refl 0, Int.le_refl 0⟩
  · rw [days_o2 hW h.1 (Int.le_refl _) (by omega)]; exact h.2 c c1 c2
theorem SvO.keep {n : Int} {α κ : Mm} (h : SvO Λ s n α κ) {s9 : Int → Int} (h9 : RwO Λ s9) : SvO Λ s9 (keepN n) (keepA n α s) κ := by
  obtain ⟨h1, h2, h3, h4⟩ := h
  refine ⟨h9, by unfold keepN; split <;> omega, fun k k1 k2 => ?_, h4⟩
  unfold keepN at k2
  by_cases e : n = 40
  · rw [if_pos e] at k2
    by_cases e9 : k = 39
    · rw [show keepA n α s k = s from funext fun j => by unfold keepA; rw [if_pos e, if_pos e9]]; exact h1
    · rw [show keepA n α s k = α (k + 1) from funext fun j => by unfold keepA; rw [if_pos e, if_neg e9]]; exact h3 (k + 1) (by omega) (by omega)
  · rw [if_neg e] at k2
    by_cases e9 : k = n
    · rw [show keepA n α s k = s from funext fun j => by unfold keepA; rw [if_neg e, if_pos e9]]; exact h1
    · rw [show keepA n α s k = α k from funext fun j => by unfold keepA; rw [if_neg e, if_neg e9]]; exact h3 k k1 (by omega)
theorem SvO.back {n : Int} {α κ : Mm} (h : SvO Λ s n α κ) (hn : ¬ n = 0) : SvO Λ (α (n - 1)) (n - 1) α κ := ⟨h.2.2.1 (n - 1) (by have := h.2.1; omega) (by omega), by have := h.2.1; omega, fun k k1 k2 => h.2.2.1 k k1 (by omega), h.2.2.2⟩
theorem SvO.see {n p c y : Int} {α κ : Mm} (h : SvO Λ s n α κ) (hp : 0 ≤ p ∧ p < Λ 0 1) (hc : 0 ≤ c ∧ c < Λ 0 0) (hy : ¬ (8 ≤ κ 0 0 ∨ y < 0 ∨ 20 < y)) : SvO Λ s n α (seeP κ p c y) := by
  obtain ⟨h1, h2, h3, h4, h5⟩ := h
  have e0 : seeP κ p c y 0 0 = κ 0 0 + 1 := by unfold seeP; rw [wr_same]
  refine ⟨h1, h2, h3, by rw [e0]; omega, fun i i1 i2 => ?_⟩
  rw [e0] at i2
  have e1 : seeP κ p c y 1 i = if i = κ 0 0 then p else κ 1 i := by simp [seeP, wr]
  have e2 : seeP κ p c y 2 i = if i = κ 0 0 then c else κ 2 i := by simp [seeP, wr]
  have e3 : seeP κ p c y 3 i = if i = κ 0 0 then y else κ 3 i := by simp [seeP, wr]
  rw [e1, e2, e3]
  by_cases e : i = κ 0 0
  · rw [if_pos e, if_pos e, if_pos e]; exact ⟨hp, hc, by omega, by omega⟩
  · rw [if_neg e, if_neg e, if_neg e]; exact h5 i i1 (by omega)
end
