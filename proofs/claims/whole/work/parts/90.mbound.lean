/-! How dear a way can be. -/
theorem jnS_1 {b a z : Int} {w : Mm} : jnS b a z w 1 = wr w 1 (a * 9 + z) (mn2 (w 1 (a * 9 + z)) (w 1 (a * 9 + b) + w 1 (b * 9 + z))) 1 := by unfold jnS; funext j; rw [wr_at, wr_at, wr_ne (by decide)]
theorem jnZ_v {b a M : Int} {w0 w : Mm} (h : SB b M w0 w) (he : E2 w) (hM : 0 ≤ M ∧ 2 * M ≤ 4608) (hb : 0 ≤ b ∧ b < 9) (ha : 0 ≤ a ∧ a < 9) : ∀ n : Nat, n ≤ 9 → ∀ x z : Int, 0 ≤ z → z < 9 → jnZ b a w n 1 (x * 9 + z) = if x = a ∧ z < n then mn2 (w 1 (a * 9 + z)) (w0 1 (a * 9 + b) + w0 1 (b * 9 + z)) else w 1 (x * 9 + z)
  | 0, _, x, z, h1, h2 => by
    show w 1 (x * 9 + z) = _
    rw [if_neg (by omega)]
  | n + 1, hn, x, z, h1, h2 => by
    have ih := fun x z => jnZ_v h he hM hb ha n (by omega) x z
    have hs := jnZ_i h he hM hb ha n (by omega)
    have e : jnZ b a w (n + 1) = jnS b a (n : Int) (jnZ b a w n) := rfl
    have q1 := (hs.1.2.2.1 a).2
    have q2 := (hs.1.2.2.2 (n : Int) (by omega) (by omega)).2
    rw [e, jnS_1, wr_at]
    by_cases ee : x * 9 + z = a * 9 + (n : Int)
    · have ex : x = a := by omega
      have ez : z = (n : Int) := by omega
      rw [if_pos ee, q1, q2, ih a (n : Int) (by omega) (by omega), if_neg (by omega), if_pos ⟨ex, by omega⟩, ez]
    · rw [if_neg ee, ih x z h1 h2]
      by_cases e2 : x = a ∧ z < (n : Int)
      · rw [if_pos e2, if_pos ⟨e2.1, by omega⟩]
      · rw [if_neg e2, if_neg (by omega)]
theorem jnA_v {N : Nat} {b M : Int} {w : Mm} (hN : N ≤ 9) (h : W2 M w) (he : E2 w) (hM : 0 ≤ M ∧ 2 * M ≤ 4608) (hb : 0 ≤ b ∧ b < 9) : ∀ n : Nat, n ≤ 9 → ∀ x z : Int, 0 ≤ x → 0 ≤ z → z < 9 → jnA N b w n 1 (x * 9 + z) = if x < n ∧ z < N then mn2 (w 1 (x * 9 + z)) (w 1 (x * 9 + b) + w 1 (b * 9 + z)) else w 1 (x * 9 + z)
  | 0, _, x, z, h0, h1, h2 => by
    show w 1 (x * 9 + z) = _
    rw [if_neg (by omega)]
  | n + 1, hn, x, z, h0, h1, h2 => by
    have ih := jnA_v hN h he hM hb n (by omega) x z h0 h1 h2
    have hs := jnA_i hN (SB.rf (b := b) h hM.1) he hM hb n (by omega)
    have k := jnZ_v hs.1 hs.2 hM hb (show 0 ≤ (n : Int) ∧ (n : Int) < 9 by omega) N hN x z h1 h2
    have e : jnA N b w (n + 1) = jnZ b (n : Int) (jnA N b w n) N := rfl
    rw [e, k]
    by_cases ex : x = (n : Int)
    · rw [if_neg (show ¬ (x < (n : Int) ∧ z < (N : Int)) by omega)] at ih
      rw [← ex, ih]
      by_cases ez : z < (N : Int)
      · rw [if_pos ⟨rfl, ez⟩, if_pos ⟨by omega, ez⟩]
      · rw [if_neg (by omega), if_neg (by omega)]
    · rw [if_neg (by omega), ih]
      by_cases ez : x < (n : Int) ∧ z < (N : Int)
      · rw [if_pos ez, if_pos ⟨by omega, ez.2⟩]
      · rw [if_neg ez, if_neg (by omega)]
def C1 (w : Mm) (x z : Int) : Int := w 1 (x * 9 + z)
theorem jnN_v {N : Nat} {w : Mm} (hN : N ≤ 9) (h : W2 9 w) (he : E2 w) {n : Nat} (hn : n < N) {x z : Int} (hx : 0 ≤ x ∧ x < N) (hz : 0 ≤ z ∧ z < N) : C1 (jnN N w (n + 1)) x z = mn2 (C1 (jnN N w n) x z) (C1 (jnN N w n) x (n : Int) + C1 (jnN N w n) (n : Int) z) := by
  have ih := jnN_i hN h he n (by omega)
  have hmb := mB_rg n (by omega)
  have k := jnA_v (b := (n : Int)) hN ih.1 ih.2 hmb (show 0 ≤ (n : Int) ∧ (n : Int) < 9 by omega) N hN x z hx.1 hz.1 (by omega)
  rw [if_pos ⟨hx.2, hz.2⟩] at k
  exact k
theorem mn2_le (x y : Int) : mn2 x y ≤ x ∧ mn2 x y ≤ y ∧ (mn2 x y = x ∨ mn2 x y = y) := by
  unfold mn2
  split <;> omega
theorem jnN_T {N : Nat} {w : Mm} (hN : N ≤ 9) (h : W2 9 w) (he : E2 w) : ∀ n : Nat, n ≤ N → ∀ a b z : Int, (0 ≤ a ∧ a < N) → (0 ≤ b ∧ b < n) → (0 ≤ z ∧ z < N) → C1 (jnN N w n) a z ≤ C1 (jnN N w n) a b + C1 (jnN N w n) b z
  | 0, _, a, b, z, _, h2, _ => absurd h2 (by omega)
  | n + 1, hn, a, b, z, h1, h2, h3 => by
    have t := fun a b z h1 h2 h3 => jnN_T hN h he n (by omega) a b z h1 h2 h3
    have p0 : ∀ x y : Int, 0 ≤ C1 (jnN N w n) x y := fun x y => by
      have := ((jnN_i hN h he n (by omega)).1 (x * 9 + y)).2
      unfold Bd at this
      unfold C1
      omega
    have m1 := mn2_le (C1 (jnN N w n) a z) (C1 (jnN N w n) a (n : Int) + C1 (jnN N w n) (n : Int) z)
    have m2 := mn2_le (C1 (jnN N w n) a b) (C1 (jnN N w n) a (n : Int) + C1 (jnN N w n) (n : Int) b)
    have m3 := mn2_le (C1 (jnN N w n) b z) (C1 (jnN N w n) b (n : Int) + C1 (jnN N w n) (n : Int) z)
    rw [jnN_v hN h he (by omega) h1 h3, jnN_v hN h he (by omega) h1 (by omega), jnN_v hN h he (by omega) (by omega) h3]
    by_cases eb : b = (n : Int)
    · rw [eb] at m2 m3 ⊢
      have q1 := p0 (n : Int) (n : Int)
      omega
    · have t1 := t a b z h1 (by omega) h3
      have t2 := t a b (n : Int) h1 (by omega) (by omega)
      have t3 := t (n : Int) b z (by omega) (by omega) h3
      have q1 := p0 (n : Int) b
      have q2 := p0 b (n : Int)
      omega
theorem jnN_le {N : Nat} {w : Mm} (hN : N ≤ 9) (h : W2 9 w) (he : E2 w) {x z : Int} (hx : 0 ≤ x ∧ x < N) (hz : 0 ≤ z ∧ z < N) : ∀ n : Nat, n ≤ N → C1 (jnN N w n) x z ≤ C1 w x z
  | 0, _ => Int.le_refl _
  | n + 1, hn => by
    rw [jnN_v hN h he (by omega) hx hz]
    exact Int.le_trans (mn2_le _ _).1 (jnN_le hN h he hx hz n (by omega))
theorem jnN_cut {N : Nat} {w : Mm} (hN : N ≤ 9) (h : W2 9 w) (he : E2 w) {S : Int → Prop} (hS : ∀ x z : Int, (0 ≤ x ∧ x < N) → (0 ≤ z ∧ z < N) → S x → ¬ S z → C1 w x z = 10000) : ∀ n : Nat, n ≤ N → ∀ x z : Int, (0 ≤ x ∧ x < N) → (0 ≤ z ∧ z < N) → S x → ¬ S z → C1 (jnN N w n) x z = 10000
  | 0, _, x, z, h1, h2, h3, h4 => hS x z h1 h2 h3 h4
  | n + 1, hn, x, z, h1, h2, h3, h4 => by
    have ih := fun x z => jnN_cut hN h he hS n (by omega) x z
    have p0 : ∀ x y : Int, 0 ≤ C1 (jnN N w n) x y := fun x y => by
      have := ((jnN_i hN h he n (by omega)).1 (x * 9 + y)).2
      unfold Bd at this
      unfold C1
      omega
    have e1 := ih x z h1 h2 h3 h4
    have m1 := mn2_le (C1 (jnN N w n) x z) (C1 (jnN N w n) x (n : Int) + C1 (jnN N w n) (n : Int) z)
    have q1 := p0 x (n : Int)
    have q2 := p0 (n : Int) z
    rw [jnN_v hN h he (by omega) h1 h2]
    by_cases hn2 : S (n : Int)
    · have := ih (n : Int) z (by omega) h2 hn2 h4
      omega
    · have := ih x (n : Int) h1 (by omega) h3 hn2
      omega
noncomputable def cntP (P : Nat → Prop) (n : Nat) : Nat := fd (fun k v => @ite Nat (P k) (Classical.propDecidable _) (v + 1) v) 0 n
theorem cntP_le (P : Nat → Prop) : ∀ n, cntP P n ≤ n
  | 0 => Nat.le_refl _
  | n + 1 => by
    have ih := cntP_le P n
    show @ite Nat (P n) (Classical.propDecidable _) (cntP P n + 1) (cntP P n) ≤ n + 1
    split <;> omega
theorem cntP_mo {P Q : Nat → Prop} (h : ∀ k, P k → Q k) : ∀ n, cntP P n ≤ cntP Q n ∧ ((∃ k, k < n ∧ Q k ∧ ¬ P k) → cntP P n < cntP Q n)
  | 0 => ⟨Nat.le_refl _, fun ⟨k, h1, _⟩ => absurd h1 (Nat.not_lt_zero k)⟩
  | n + 1 => by
    have ih := cntP_mo h n
    have hn := h n
    show @ite Nat (P n) (Classical.propDecidable _) (cntP P n + 1) (cntP P n) ≤ @ite Nat (Q n) (Classical.propDecidable _) (cntP Q n + 1) (cntP Q n) ∧ (_ → @ite Nat (P n) (Classical.propDecidable _) (cntP P n + 1) (cntP P n) < @ite Nat (Q n) (Classical.propDecidable _) (cntP Q n + 1) (cntP Q n))
    constructor
    · split
      · rw [if_pos (hn (by assumption))]
        omega
      · split <;> omega
    · rintro ⟨k, k1, k2, k3⟩
      by_cases ek : k = n
      · rw [ek] at k2 k3
        rw [if_neg k3, if_pos k2]
        omega
      · have := ih.2 ⟨k, by omega, k2, k3⟩
        split
        · rw [if_pos (hn (by assumption))]
          omega
        · split <;> omega
theorem chain {P : Nat → Nat → Prop} (hm : ∀ n k, P n k → P (n + 1) k) (N : Nat) : ∀ n, (∃ j, j < n ∧ ∀ k, k < N → P (j + 1) k → P j k) ∨ n + cntP (P 0) N ≤ cntP (P n) N
  | 0 => Or.inr (by omega)
  | n + 1 => by
    rcases chain hm N n with ⟨j, h1, h2⟩ | h
    · exact Or.inl ⟨j, by omega, h2⟩
    · by_cases hs : ∀ k, k < N → P (n + 1) k → P n k
      · exact Or.inl ⟨n, by omega, hs⟩
      · refine Or.inr ?_
        have : ∃ k, k < N ∧ P (n + 1) k ∧ ¬ P n k := Classical.byContradiction fun h9 => hs fun k k1 k2 => Classical.byContradiction fun k3 => h9 ⟨k, k1, k2, k3⟩
        have := (cntP_mo (fun k => hm n k) N).2 this
        omega
theorem jn_72 {N : Nat} {w : Mm} (hN : N ≤ 9) (h : W2 9 w) (he : E2 w) (hd : ∀ c : Int, 0 ≤ c → c < N → C1 w c c ≠ 10000) {a z : Int} (ha : 0 ≤ a ∧ a < N) (hz : 0 ≤ z ∧ z < N) : C1 (jnN N w N) a z = 10000 ∨ C1 (jnN N w N) a z ≤ 72 := by
  have bd9 : ∀ x y, C1 w x y = 10000 ∨ C1 w x y ≤ 9 := fun x y => by
    have := (h (x * 9 + y)).2
    unfold Bd at this
    unfold C1
    omega
  let P : Nat → Nat → Prop := fun n k => (k : Int) = a ∨ C1 (jnN N w N) a (k : Int) ≤ 9 * n
  have hm : ∀ n k, P n k → P (n + 1) k := fun n k hk => hk.imp_right fun h9 => by omega
  have c1 := cntP_le (P 9) N
  have c0 : 1 ≤ cntP (P 0) N := by
    have h1 := (cntP_mo (P := fun _ => False) (Q := P 0) (fun k hk => hk.elim) N).2 ⟨a.toNat, by omega, Or.inl (by omega), id⟩
    omega
  have st : ∃ j, j < 9 ∧ ∀ k, k < N → P (j + 1) k → P j k := by
    rcases chain hm N 9 with h1 | h1
    · exact h1
    · omega
  obtain ⟨j, hj, hs⟩ := st
  have le := fun {x z : Int} (hx : 0 ≤ x ∧ x < N) (hz : 0 ≤ z ∧ z < N) => jnN_le hN h he hx hz N (Nat.le_refl _)
  have cut := jnN_cut (S := fun x => P j x.toNat) hN h he (fun x y hx hy s1 s2 => by
    rcases bd9 x y with e | e
    · exact e
    · refine absurd (hs y.toNat (by omega) ?_) s2
      have lx := le hx hy
      rcases s1 with s1 | s1
      · have : x = a := by omega
        rw [this] at lx e
        right
        rw [show ((y.toNat : Nat) : Int) = y by omega]
        omega
      · right
        rw [show ((x.toNat : Nat) : Int) = x by omega] at s1
        rw [show ((y.toNat : Nat) : Int) = y by omega]
        have t := jnN_T hN h he N (Nat.le_refl _) a x y ha hx hy
        omega) N (Nat.le_refl _) a z ha hz (Or.inl (by omega))
  by_cases hp : P j z.toNat
  · right
    rcases hp with hp | hp
    · have : z = a := by omega
      have l9 := le ha hz
      have b9 := bd9 a z
      have d9 := hd a ha.1 ha.2
      rw [this] at l9 b9 ⊢
      omega
    · rw [show ((z.toNat : Nat) : Int) = z by omega] at hp
      omega
  · exact Or.inl (cut hp)
theorem wy_72 {Λ : Mm} {s : Int → Int} (hW : WL Λ) {a z : Int} (ha : 0 ≤ a ∧ a < Λ 0 0) (hz : 0 ≤ z ∧ z < Λ 0 0) : wyW Λ s 1 (a * 9 + z) = 10000 ∨ (0 ≤ wyW Λ s 1 (a * 9 + z) ∧ wyW Λ s 1 (a * 9 + z) ≤ 72) := by
  have h0 := hW.1
  have h1 := lrN_i (s := s) hW (Λ 0 0).toNat (by omega)
  have k := jn_72 (N := (Λ 0 0).toNat) (by omega) h1.1 h1.2 (fun c g1 g2 => fun h9 => lrN_G (Λ := Λ) (s := s) (Λ 0 0).toNat c g1 g2 ((h1.2 (c * 9 + c)).mpr h9)) (a := a) (z := z) (by omega) (by omega)
  have b := ((wyW_i (s := s) hW).1 (a * 9 + z)).2
  unfold Bd at b
  have k' : wyW Λ s 1 (a * 9 + z) = 10000 ∨ wyW Λ s 1 (a * 9 + z) ≤ 72 := k
  omega
