/-! The reference: the circuit. -/
def G0 (w : Mm) (x z : Int) : Prop := w 0 (x * 9 + z) ≠ 10000
theorem jnS_0 {b a z : Int} {w : Mm} : jnS b a z w 0 = wr w 0 (a * 9 + z) (mn2 (w 0 (a * 9 + z)) (w 0 (a * 9 + b) + w 0 (b * 9 + z))) 0 := by unfold jnS; rw [wr_ne (by decide)]
theorem jnZ_G {b a M : Int} {w0 w : Mm} (h : SB b M w0 w) (he : E2 w) (hM : 0 ≤ M ∧ 2 * M ≤ 4608) (hb : 0 ≤ b ∧ b < 9) (ha : 0 ≤ a ∧ a < 9) : ∀ n : Nat, n ≤ 9 → ∀ x z : Int, 0 ≤ z → z < 9 → (G0 (jnZ b a w n) x z ↔ G0 w x z ∨ (x = a ∧ z < n ∧ G0 w0 a b ∧ G0 w0 b z))
  | 0, _, x, z, h1, h2 => by
    show G0 w x z ↔ _
    constructor
    · exact Or.inl
    · rintro (h9 | h9)
      · exact h9
      · omega
  | n + 1, hn, x, z, h1, h2 => by
    have ih := jnZ_G h he hM hb ha n (by omega) x z h1 h2
    have hs := jnZ_i h he hM hb ha n (by omega)
    have e : jnZ b a w (n + 1) = jnS b a (n : Int) (jnZ b a w n) := rfl
    have bd := fun j => (hs.1.2.1 j).1.up hM.2
    have q1 := (hs.1.2.2.1 a).1
    have q2 := (hs.1.2.2.2 (n : Int) (by omega) (by omega)).1
    unfold G0 at ih ⊢
    rw [e, jnS_0, wr_at]
    by_cases ee : x * 9 + z = a * 9 + (n : Int)
    · have ex : x = a := by omega
      have ez : z = (n : Int) := by omega
      have k := mn_10 (bd (a * 9 + (n : Int))) (bd (a * 9 + b)) (bd (b * 9 + (n : Int)))
      rw [q1, q2] at k
      rw [if_pos ee, q1, q2, ne_eq, k]
      rw [ex, ez] at ih ⊢
      omega
    · rw [if_neg ee, ih]
      omega
theorem jnA_G {N : Nat} {b M : Int} {w : Mm} (hN : N ≤ 9) (h : W2 M w) (he : E2 w) (hM : 0 ≤ M ∧ 2 * M ≤ 4608) (hb : 0 ≤ b ∧ b < 9) : ∀ n : Nat, n ≤ 9 → ∀ x z : Int, 0 ≤ x → 0 ≤ z → z < 9 → (G0 (jnA N b w n) x z ↔ G0 w x z ∨ (x < n ∧ z < N ∧ G0 w x b ∧ G0 w b z))
  | 0, _, x, z, h0, h1, h2 => by
    show G0 w x z ↔ _
    constructor
    · exact Or.inl
    · rintro (h9 | h9)
      · exact h9
      · omega
  | n + 1, hn, x, z, h0, h1, h2 => by
    have ih := jnA_G hN h he hM hb n (by omega) x z h0 h1 h2
    have hs := jnA_i hN (SB.rf (b := b) h hM.1) he hM hb n (by omega)
    have k := jnZ_G hs.1 hs.2 hM hb (show 0 ≤ (n : Int) ∧ (n : Int) < 9 by omega) N hN x z h1 h2
    have e : jnA N b w (n + 1) = jnZ b (n : Int) (jnA N b w n) N := rfl
    rw [e, k, ih]
    by_cases ex : x = (n : Int)
    · rw [ex]
      constructor
      · rintro ((h9 | h9) | h9)
        · exact Or.inl h9
        · omega
        · exact Or.inr ⟨by omega, h9.2⟩
      · rintro (h9 | h9)
        · exact Or.inl (Or.inl h9)
        · exact Or.inr ⟨rfl, h9.2⟩
    · constructor
      · rintro ((h9 | h9) | h9)
        · exact Or.inl h9
        · exact Or.inr ⟨by omega, h9.2⟩
        · exact absurd h9.1 ex
      · rintro (h9 | h9)
        · exact Or.inl (Or.inl h9)
        · exact Or.inl (Or.inr ⟨by omega, h9.2⟩)
theorem jnN_G {N : Nat} {w : Mm} (hN : N ≤ 9) (h : W2 9 w) (he : E2 w) (hr : ∀ c : Int, 0 ≤ c → c < N → G0 w c c) : ∀ n : Nat, n ≤ N → (∀ c : Int, 0 ≤ c → c < N → G0 (jnN N w n) c c) ∧ ∀ a b z : Int, 0 ≤ a → a < N → 0 ≤ b → b < n → 0 ≤ z → z < N → G0 (jnN N w n) a b → G0 (jnN N w n) b z → G0 (jnN N w n) a z
  | 0, _ => ⟨hr, fun a b z _ _ h1 h2 => absurd h2 (by omega)⟩
  | n + 1, hn => by
    obtain ⟨r, t⟩ := jnN_G hN h he hr n (by omega)
    have ih := jnN_i hN h he n (by omega)
    have hmb := mB_rg n (by omega)
    have k := fun x z h0 h1 h2 => jnA_G (b := (n : Int)) hN ih.1 ih.2 hmb (show 0 ≤ (n : Int) ∧ (n : Int) < 9 by omega) N hN x z h0 h1 h2
    have e : jnN N w (n + 1) = jnA N (n : Int) (jnN N w n) N := rfl
    rw [e]
    refine ⟨fun c h1 h2 => (k c c h1 h1 (by omega)).mpr (Or.inl (r c h1 h2)), fun a b z a1 a2 b1 b2 z1 z2 g1 g2 => ?_⟩
    have g1 := (k a b a1 b1 (by omega)).mp g1
    have g2 := (k b z b1 z1 (by omega)).mp g2
    refine (k a z a1 z1 (by omega)).mpr ?_
    by_cases eb : b = (n : Int)
    · rw [eb] at g1 g2
      have f1 : G0 (jnN N w n) a (n : Int) := g1.elim id fun h9 => h9.2.2.1
      have f2 : G0 (jnN N w n) (n : Int) z := g2.elim id fun h9 => h9.2.2.2
      exact Or.inr ⟨a2, z2, f1, f2⟩
    · have bn : b < (n : Int) := by omega
      rcases g1 with g1 | ⟨_, _, g1, g1'⟩
      · rcases g2 with g2 | ⟨_, _, g2, g2'⟩
        · exact Or.inl (t a b z a1 a2 b1 bn z1 z2 g1 g2)
        · exact Or.inr ⟨a2, z2, t a b (n : Int) a1 a2 b1 bn (by omega) (by omega) g1 g2, g2'⟩
      · rcases g2 with g2 | ⟨_, _, g2, g2'⟩
        · exact Or.inr ⟨a2, z2, g1, t (n : Int) b z (by omega) (by omega) b1 bn z1 z2 g1' g2⟩
        · exact Or.inr ⟨a2, z2, g1, g2'⟩
theorem lrR_G {Λ : Mm} {s : Int → Int} {a : Int} {x z : Int} {ω : Mm} (h : G0 ω x z) : ∀ n : Nat, G0 (lrR Λ s a ω n) x z
  | 0 => h
  | n + 1 => by
    have ih := lrR_G (Λ := Λ) (s := s) (a := a) h n
    have e : lrR Λ s a ω (n + 1) = if shutB (s (26 + a)) (n : Int) = 0 then lrP Λ a (Λ 4 (a * 5 + (n : Int))) (lrR Λ s a ω n) else lrR Λ s a ω n := rfl
    rw [e]
    split
    · unfold G0 at ih ⊢
      rw [lrP_01.1, wr_at]
      split
      · decide
      · exact ih
    · exact ih
theorem lrN_G {Λ : Mm} {s : Int → Int} : ∀ n : Nat, ∀ c : Int, 0 ≤ c → c < n → G0 (lrN Λ s n) c c
  | 0, c, h1, h2 => absurd h2 (by omega)
  | n + 1, c, h1, h2 => by
    have e : lrN Λ s (n + 1) = lrR Λ s (n : Int) (wr (wr (lrN Λ s n) 0 ((n : Int) * 9 + (n : Int)) 0) 1 ((n : Int) * 9 + (n : Int)) 0) (Λ 3 (n : Int)).toNat := rfl
    rw [e]
    refine lrR_G ?_ _
    unfold G0
    rw [wr_ne (show (0 : Int) ≠ 1 by decide), wr_at]
    split
    · decide
    · exact lrN_G n c h1 (by omega)
/-- each comes to the other -/
abbrev MU (Λ : Mm) (s : Int → Int) (a z : Int) : Prop := wyW Λ s 0 (a * 9 + z) < 10000 ∧ wyW Λ s 0 (z * 9 + a) < 10000
theorem wy_lt {Λ : Mm} {s : Int → Int} (hW : WL Λ) (a z : Int) : wyW Λ s 0 (a * 9 + z) < 10000 ↔ G0 (wyW Λ s) a z := by
  have h := ((wyW_i (s := s) hW).1 (a * 9 + z)).1
  unfold Bd at h
  unfold G0
  omega
theorem wy_G {Λ : Mm} {s : Int → Int} (hW : WL Λ) : (∀ c : Int, 0 ≤ c → c < Λ 0 0 → G0 (wyW Λ s) c c) ∧ ∀ a b z : Int, 0 ≤ a → a < Λ 0 0 → 0 ≤ b → b < Λ 0 0 → 0 ≤ z → z < Λ 0 0 → G0 (wyW Λ s) a b → G0 (wyW Λ s) b z → G0 (wyW Λ s) a z := by
  have h0 := hW.1
  have h1 := lrN_i (s := s) hW (Λ 0 0).toNat (by omega)
  have h2 := jnN_G (N := (Λ 0 0).toNat) (by omega) h1.1 h1.2 (fun c g1 g2 => lrN_G _ c g1 g2) (Λ 0 0).toNat (Nat.le_refl _)
  exact ⟨fun c g1 g2 => h2.1 c g1 (by omega), fun a b z a1 a2 b1 b2 z1 z2 => h2.2 a b z a1 (by omega) b1 (by omega) z1 (by omega)⟩
theorem MU.rf {Λ : Mm} {s : Int → Int} {c : Int} (hW : WL Λ) (hc : 0 ≤ c ∧ c < Λ 0 0) : MU Λ s c c := by
  have h := (wy_lt (s := s) hW c c).mpr ((wy_G hW).1 c hc.1 hc.2)
  exact ⟨h, h⟩
theorem MU.sy {Λ : Mm} {s : Int → Int} {a c : Int} (h : MU Λ s a c) : MU Λ s c a := ⟨h.2, h.1⟩
theorem MU.tr {Λ : Mm} {s : Int → Int} {a b z : Int} (hW : WL Λ) (ha : 0 ≤ a ∧ a < Λ 0 0) (hb : 0 ≤ b ∧ b < Λ 0 0) (hz : 0 ≤ z ∧ z < Λ 0 0) (h : MU Λ s a b) (k : MU Λ s b z) : MU Λ s a z := by
  have g := (wy_G (s := s) hW).2
  exact ⟨(wy_lt hW a z).mpr (g a b z ha.1 ha.2 hb.1 hb.2 hz.1 hz.2 ((wy_lt hW a b).mp h.1) ((wy_lt hW b z).mp k.1)), (wy_lt hW z a).mpr (g z b a hz.1 hz.2 hb.1 hb.2 ha.1 ha.2 ((wy_lt hW z b).mp k.2) ((wy_lt hW b a).mp h.2))⟩
theorem pt_bit {Λ : Mm} {s : Int → Int} {a z : Int} (hW : WL Λ) (hz : 0 ≤ z ∧ z < Λ 0 0) : bAnd (bShr (ptP Λ s a (Λ 0 0).toNat) z) 1 = if MU Λ s a z then 1 else 0 := by
  have h0 := hW.1
  have h := bmI_bit (fun z : Nat => wyW Λ s 0 (a * 9 + (z : Int)) < 10000 ∧ wyW Λ s 0 ((z : Int) * 9 + a) < 10000) (n := (Λ 0 0).toNat) (k := z.toNat) (by omega) (by omega)
  rw [show ((z.toNat : Nat) : Int) = z by omega] at h
  exact h
theorem pt_eq {Λ : Mm} {s : Int → Int} {a c : Int} (hW : WL Λ) (ha : 0 ≤ a ∧ a < Λ 0 0) (hc : 0 ≤ c ∧ c < Λ 0 0) (h : MU Λ s a c) : ptP Λ s a (Λ 0 0).toNat = ptP Λ s c (Λ 0 0).toNat :=
  bmI_congr fun z hz => ⟨fun (k : MU Λ s a (z : Int)) => MU.tr hW hc ha (by omega) h.sy k, fun (k : MU Λ s c (z : Int)) => MU.tr hW ha hc (by omega) h k⟩
theorem pt_ne {Λ : Mm} {s : Int → Int} {c : Int} (hW : WL Λ) (hc : 0 ≤ c ∧ c < Λ 0 0) : ptP Λ s c (Λ 0 0).toNat ≠ 0 := fun h9 => by
  have h0 := hW.1
  have h := pt_bit (s := s) (a := c) hW hc
  rw [if_pos (MU.rf hW hc), h9] at h
  have k := bBit (a := 0) (k := c.toNat) (by decide) (by omega)
  rw [show ((c.toNat : Nat) : Int) = c by omega, Nat.zero_testBit] at k
  exact absurd (h.symm.trans k) (by decide)
def smR (s : Int → Int) (c v : Int) (n : Nat) : Int := fd (fun r u => if shutB (s (26 + c)) (r : Int) = 0 then (if u = -1 then c else u) else u) v n
def smN (Λ : Mm) (s : Int → Int) (n : Nat) : Int := fd (fun c v => smR s (c : Int) v (Λ 3 (c : Int)).toNat) (-1) n
def opR (s : Int → Int) (c : Int) (n : Nat) : Prop := ∃ r : Nat, r < n ∧ shutB (s (26 + c)) (r : Int) = 0
theorem opR.s {s : Int → Int} {c : Int} {n : Nat} (h : opR s c (n + 1)) (k : ¬ shutB (s (26 + c)) (n : Int) = 0) : opR s c n := by
  obtain ⟨r, h1, h2⟩ := h
  by_cases e : r = n
  · rw [e] at h2; exact absurd h2 k
  · exact ⟨r, by omega, h2⟩
theorem smR_e {s : Int → Int} {c v : Int} (hc : 0 ≤ c) : ∀ n : Nat, (v = -1 ∧ opR s c n ∧ smR s c v n = c) ∨ (¬ (v = -1 ∧ opR s c n) ∧ smR s c v n = v)
  | 0 => Or.inr ⟨fun h => absurd h.2 (fun ⟨r, h1, _⟩ => absurd h1 (Nat.not_lt_zero r)), rfl⟩
  | n + 1 => by
    have e : smR s c v (n + 1) = if shutB (s (26 + c)) (n : Int) = 0 then (if smR s c v n = -1 then c else smR s c v n) else smR s c v n := rfl
    rw [e]
    by_cases hs : shutB (s (26 + c)) (n : Int) = 0
    · rw [if_pos hs]
      have o : opR s c (n + 1) := ⟨n, by omega, hs⟩
      rcases smR_e (s := s) (v := v) hc n with ⟨h1, _, h3⟩ | ⟨_, h3⟩
      · rw [h3, if_neg (by omega)]
        exact Or.inl ⟨h1, o, rfl⟩
      · rw [h3]
        by_cases hv : v = -1
        · rw [if_pos hv]
          exact Or.inl ⟨hv, o, rfl⟩
        · rw [if_neg hv]
          exact Or.inr ⟨fun h9 => hv h9.1, rfl⟩
    · rw [if_neg hs]
      rcases smR_e (s := s) (v := v) hc n with ⟨h1, ⟨r, h4, h5⟩, h3⟩ | ⟨h1, h3⟩
      · exact Or.inl ⟨h1, ⟨r, by omega, h5⟩, h3⟩
      · exact Or.inr ⟨fun h9 => h1 ⟨h9.1, h9.2.s hs⟩, h3⟩
theorem nx_0 {Λ : Mm} {s : Int → Int} {c : Int} : ∀ n : Nat, ¬ opR s c n → nxF Λ s c n = 0
  | 0, _ => rfl
  | n + 1, h => by
    have e2 : nxF Λ s c (n + 1) = if shutB (s (26 + c)) (n : Int) = 0 then bOr (nxF Λ s c n) (bShl 1 (Λ 4 (c * 5 + (n : Int)))) else nxF Λ s c n := rfl
    rw [e2, if_neg (fun h9 => h ⟨n, by omega, h9⟩)]
    exact nx_0 n fun ⟨r, h1, h2⟩ => h ⟨r, by omega, h2⟩
theorem nx_open {Λ : Mm} {s : Int → Int} {c : Int} (hW : WL Λ) (hc : 0 ≤ c ∧ c < Λ 0 0) : wyW Λ s 2 c = 0 ↔ ¬ opR s c (Λ 3 c).toNat := by
  have hcw := hW.2.2.1 c hc.1 hc.2
  have h0 := hW.1
  rw [wyW_2 hc]
  refine ⟨fun h ⟨r, h1, h2⟩ => ?_, nx_0 _⟩
  obtain ⟨v, hv, e, hb⟩ := nx_bit (s := s) hW hc (Λ 3 c).toNat (by omega)
  have he := hW.2.2.2.1 c (r : Int) hc.1 hc.2 (by omega) (by omega)
  have hv0 : v = 0 := by omega
  have k := (hb (Λ 4 (c * 5 + (r : Int))).toNat).mpr ⟨r, h1, h2, by omega⟩
  rw [hv0, Nat.zero_testBit] at k
  exact absurd k (by decide)
/-- the reference's first crossing with an open road goes with the class's part -/
def RC (Λ : Mm) (s : Int → Int) (i : Nat) : Prop := (crN Λ s i).1 = 1 ∧ ((smN Λ s i = -1 ∧ (crN Λ s i).2 = 0) ∨ ((0 ≤ smN Λ s i ∧ smN Λ s i < Λ 0 0) ∧ (crN Λ s i).2 = ptP Λ s (smN Λ s i) (Λ 0 0).toNat))
theorem RC.s {Λ : Mm} {s : Int → Int} {i : Nat} (hW : WL Λ) (hi : (i : Int) < Λ 0 0) (h : RC Λ s i) (h3 : wyW Λ s 3 (i : Int) = 0) (hb : opR s (i : Int) (Λ 3 (i : Int)).toNat → bAnd (bShr (ptP Λ s (smN Λ s (i + 1)) (Λ 0 0).toNat) (i : Int)) 1 = 1) : RC Λ s (i + 1) := by
  have e : crN Λ s (i + 1) = crS Λ s (i : Int) (crN Λ s i) := rfl
  have em : smN Λ s (i + 1) = smR s (i : Int) (smN Λ s i) (Λ 3 (i : Int)).toNat := rfl
  have hc : 0 ≤ (i : Int) ∧ (i : Int) < Λ 0 0 := by omega
  have hr := smR_e (s := s) (c := (i : Int)) (v := smN Λ s i) hc.1 (Λ 3 (i : Int)).toNat
  rw [← em] at hr
  have no := nx_open (s := s) hW hc
  by_cases ho : opR s (i : Int) (Λ 3 (i : Int)).toNat
  · have hb := hb ho
    have h2 : ¬ wyW Λ s 2 (i : Int) = 0 := fun h9 => no.mp h9 ho
    rcases h.2 with ⟨k1, k2⟩ | ⟨k1, k2⟩
    · rcases hr with hr | hr
      · have e9 := e.trans (crS_d h.1 h3 h2 (fun h9 => h9.1 k2))
        refine ⟨by rw [e9], Or.inr ⟨by rw [hr.2.2]; exact hc, by rw [e9, hr.2.2]⟩⟩
      · exact absurd ⟨k1, ho⟩ hr.1
    · have es : smN Λ s (i + 1) = smN Λ s i := by
        rcases hr with hr | hr
        · omega
        · exact hr.2
      rw [es, pt_bit hW hc] at hb
      have hm := pt_eq hW k1 hc (ite1 hb)
      have e9 := e.trans (crS_d h.1 h3 h2 (fun h9 => h9.2 (by rw [k2, hm])))
      exact ⟨by rw [e9], Or.inr ⟨by rw [es]; exact k1, by rw [e9, es, hm]⟩⟩
  · have e9 := e.trans (crS_b h.1 h3 (no.mpr ho))
    have es : smN Λ s (i + 1) = smN Λ s i := by
      rcases hr with hr | hr
      · exact absurd hr.2.1 ho
      · exact hr.2
    unfold RC
    rw [e9, es]
    exact h
theorem RC.no {Λ : Mm} {s : Int → Int} {i j : Nat} {v : Int} (hW : WL Λ) (hi : (i : Int) < Λ 0 0) (hj : j < (Λ 3 (i : Int)).toNat) (h : RC Λ s i) (h3 : wyW Λ s 3 (i : Int) = 0) (hs : shutB (s (26 + (i : Int))) (j : Int) = 0) (hv : smR s (i : Int) (smN Λ s i) (j + 1) = v) (hb : bAnd (bShr (ptP Λ s v (Λ 0 0).toNat) (i : Int)) 1 = 0) : (crN Λ s (Λ 0 0).toNat).1 = 0 := by
  have hc : 0 ≤ (i : Int) ∧ (i : Int) < Λ 0 0 := by omega
  have hr := smR_e (s := s) (c := (i : Int)) (v := smN Λ s i) hc.1 (j + 1)
  have o : opR s (i : Int) (j + 1) := ⟨j, by omega, hs⟩
  have h2 : ¬ wyW Λ s 2 (i : Int) = 0 := fun h9 => (nx_open (s := s) hW hc).mp h9 ⟨j, hj, hs⟩
  rw [pt_bit hW hc] at hb
  have nm : ¬ MU Λ s v (i : Int) := fun h9 => by rw [if_pos h9] at hb; exact absurd hb (by decide)
  rw [hv] at hr
  rcases hr with hr | hr
  · rw [hr.2.2] at nm
    exact absurd (MU.rf hW hc) nm
  · rcases h.2 with ⟨k1, k2⟩ | ⟨k1, k2⟩
    · exact absurd ⟨k1, o⟩ hr.1
    · rw [← hr.2] at k1 k2
      have n0 : ¬ (crN Λ s i).2 = 0 := by rw [k2]; exact pt_ne hW k1
      have np : ¬ ptP Λ s (i : Int) (Λ 0 0).toNat = (crN Λ s i).2 := fun h9 => by
        rw [k2] at h9
        have b := pt_bit (s := s) (a := (i : Int)) hW hc
        rw [if_pos (MU.rf hW hc), h9, pt_bit hW hc] at b
        exact nm (ite1 b)
      exact crN_stay (k := i + 1) (by rw [show crN Λ s (i + 1) = crS Λ s (i : Int) (crN Λ s i) from rfl, crS_c h.1 h3 h2 n0 np]) (Λ 0 0).toNat (by omega)
theorem mp_circuit {l : Launch} {γ : Gh} {ρ m : Mm} {s : Int → Int} {Λ : Mm} {hl tl : List Int} (hL : LY ρ) (hR : MR m) (hW : WL Λ) (hM : MLand m Λ hl tl) (hs : MRow m s) (hσ : WS Λ 0 (sig0 s)) (hz : m 84 51 = 0) : gE l γ μX11_circuit 2 0 0 (rI KK fun x ρ9 m9 => ρ = ρ9 ∧ MR m9 ∧ mK m m9 ∧ m9 84 0 = 0 ∧ (crN Λ s (Λ 0 0).toNat).1 = x) xN KK ρ m [vR 84] := by
  refine gE.ofw cl_X11.2 ?_ rfl rfl (Nat.le_of_ble_eq_true rfl)
  show gT l γ μX11_circuit 2 0 0 _ _ KK ρ m 0 [some (vR 84), none, none, none] []
  have hn1 := hW.1
  have hn8 := hW.2.1
  refine tz_aload0 (n := 1) (g_at ck_X11_circuit 0 rfl) rfl (g_ne kd_84) ?_
  refine tz_iconst (n := 2) (g_at ck_X11_circuit 1 rfl) rfl ?_
  refine tz_putIr (n := 5) (kz := 0) fk_X11_132 kd_84 (g_at ck_X11_circuit 2 rfl) rfl hR ⟨(by decide), (by decide)⟩ rfl (fun hR1 => ?_)
  obtain ⟨m0, e0⟩ : ∃ m0, m0 = wr m 84 0 0 := ⟨_, rfl⟩
  rw [← e0] at hR1 ⊢
  have hk0 : mK m m0 := by rw [e0]; exact mK.w0
  have hM0 := hk0.land hM
  have hs0 := hk0.row hs
  have hz0 : m0 84 51 = 0 := hk0.w51.trans hz
  have h00 : m0 84 0 = 0 := by rw [e0, wr_same]
  have hw0 := hw_0 hz0
  refine tz_aload0 (n := 6) (g_at ck_X11_circuit 3 rfl) rfl (g_ne kd_84) ?_
  refine tz_cvV0 (n := 9) (μ' := μX11_laysWays) (cb' := 0) (sb' := 0) ml_X11_365 mo_X11_laysWays mv_X11_laysWays np_X11_laysWays kd_84 (g_at ck_X11_circuit 4 rfl) (mp_laysWays hL hR1 hW hM0 hs0 hσ hz0) rfl rfl rfl ⟨by decide, by decide⟩ (Nat.le_of_ble_eq_true rfl) (by decide) (by decide) (fun ρ9 m6 hq => ?_)
  obtain ⟨rfl, hR2, hF6, hr6, hw6⟩ := hq
  have hM9 := hM0.fr hF6 (by decide)
  have hs9 : MRow m6 s := (mK.l hF6 (by decide)).row hs0
  have hN := hM9.1
  refine tz_iconst (n := 10) (g_at ck_X11_circuit 5 rfl) rfl ?_
  refine tz_istore1 (n := 11) (g_at ck_X11_circuit 6 rfl) rfl (by decide) g_hpR ?_
  refine tz_iconst (n := 12) (g_at ck_X11_circuit 7 rfl) rfl ?_
  refine tz_istore2 (n := 13) (g_at ck_X11_circuit 8 rfl) rfl (by decide) g_hpI ?_
  refine g_for (fun i : Nat => (RC Λ s i) → gT l γ μX11_circuit 2 0 0 _ _ KK ρ m6 13 [some (vR 84), some (vI (smN Λ s i)), some (vI (i : Int)), none] []) (Λ 0 0).toNat ?_ (fun i hi ihi => ?_) 0 (Nat.zero_le _) ⟨rfl, Or.inl ⟨rfl, rfl⟩⟩
  · intro hinv
    have hrc := hinv
    refine tz_iload2 (n := 14) (g_at ck_X11_circuit 9 rfl) rfl ?_
    refine tz_aload0 (n := 15) (g_at ck_X11_circuit 10 rfl) rfl (g_ne kd_84) ?_
    refine tz_getIw (n := 18) (kz := 1) fk_X11_302 kd_84 (g_at ck_X11_circuit 11 rfl) rfl rfl ?_
    rw [hN]
    refine tz_icmp_ge (n := 21) (tgt := 89) (g_at ck_X11_circuit 12 rfl) rfl rfl (by omega) (fun h18 => ?_) (fun h18 => absurd h18 (by omega))
    refine tz_iconst (n := 90) (g_at ck_X11_circuit 53 rfl) rfl ?_
    exact tz_bret (g_at ck_X11_circuit 54 rfl) rfl (by decide) (rI_mk ⟨rfl, hR2, hk0.tr (mK.l hF6 (by decide)), by rw [hF6 84 (by decide), h00], hrc.1⟩)
  · intro hinv
    have hrc := hinv
    have hcw := hW.2.2.1 (i : Int) (by omega) (by omega)
    have r87 := (hM9.2.2.1 (i : Int) (by omega) (by omega)).2.2
    refine tz_iload2 (n := 14) (g_at ck_X11_circuit 9 rfl) rfl ?_
    refine tz_aload0 (n := 15) (g_at ck_X11_circuit 10 rfl) rfl (g_ne kd_84) ?_
    refine tz_getIw (n := 18) (kz := 1) fk_X11_302 kd_84 (g_at ck_X11_circuit 11 rfl) rfl rfl ?_
    rw [hN]
    refine tz_icmp_ge (n := 21) (tgt := 89) (g_at ck_X11_circuit 12 rfl) rfl rfl (by omega) (fun h18 => absurd h18 (by omega)) (fun h18 => ?_)
    refine tz_aload0 (n := 22) (g_at ck_X11_circuit 13 rfl) rfl (g_ne kd_84) ?_
    refine tz_iload2 (n := 23) (g_at ck_X11_circuit 14 rfl) rfl ?_
    refine tz_cvI1 (n := 26) (μ' := μX11_balance) (cb' := 0) (sb' := 0) ml_X11_456 mo_X11_balance mv_X11_balance np_X11_balance kd_84 (g_at ck_X11_circuit 15 rfl) (mp_balance hL hR2 hW hM9 hs9 hσ (by omega)) rfl rfl rfl ⟨by decide, by decide⟩ (Nat.le_of_ble_eq_true rfl) (by decide) (by decide) (fun x23 ρ9 m23 hq => ?_)
    obtain ⟨rfl, hR3, rfl, rfl⟩ := hq
    refine tz_if_eq (n := 29) (tgt := 31) (g_at ck_X11_circuit 16 rfl) rfl rfl (by have h9 := (wyW_B hW s).2 (i : Int); omega) (fun h26 => ?_) (fun h26 => ?_)
    · skip
      refine tz_iconst (n := 32) (g_at ck_X11_circuit 19 rfl) rfl ?_
      refine tz_istore3 (n := 33) (g_at ck_X11_circuit 20 rfl) rfl (by decide) g_hpI ?_
      refine g_for (fun j : Nat => (opR s (i : Int) j → bAnd (bShr (ptP Λ s (smR s (i : Int) (smN Λ s i) j) (Λ 0 0).toNat) (i : Int)) 1 = 1) → gT l γ μX11_circuit 2 0 0 _ _ KK ρ m6 33 [some (vR 84), some (vI (smR s (i : Int) (smN Λ s i) j)), some (vI (i : Int)), some (vI (j : Int))] []) (Λ 3 (i : Int)).toNat ?_ (fun j hj ihj => ?_) 0 (Nat.zero_le _) (fun ⟨r, h9, _⟩ => absurd h9 (Nat.not_lt_zero r))
      · intro hinv
        have hnj := hinv
        refine tz_iload3 (n := 34) (g_at ck_X11_circuit 21 rfl) rfl ?_
        refine tz_aload0 (n := 35) (g_at ck_X11_circuit 22 rfl) rfl (g_ne kd_84) ?_
        refine tz_getAv (n := 38) (a := 87) fk_X11_23 kd_84 (ly_84_7 hL) (g_at ck_X11_circuit 23 rfl) rfl ?_
        refine tz_iload2 (n := 39) (g_at ck_X11_circuit 24 rfl) rfl ?_
        refine tz_iald (n := 40) kd_87 (by omega) (g_at ck_X11_circuit 25 rfl) rfl ?_
        rw [r87]
        refine tz_icmp_ge (n := 43) (tgt := 83) (g_at ck_X11_circuit 26 rfl) rfl rfl (by omega) (fun h40 => ?_) (fun h40 => absurd h40 (by omega))
        refine tz_iinc2 (n := 86) (g_at ck_X11_circuit 51 rfl) rfl (by decide) g_hpI ?_
        refine tz_goto (tgt := 13) (g_at ck_X11_circuit 52 rfl) rfl ?_
        refine tz_drop3 ?_
        exact ihi (hrc.s hW (by omega) h26 hnj)
      · intro hinv
        have hnj := hinv
        have hsj : (smR s (i : Int) (smN Λ s i) j) = -1 ∨ (0 ≤ (smR s (i : Int) (smN Λ s i) j) ∧ (smR s (i : Int) (smN Λ s i) j) < Λ 0 0) := by rcases smR_e (s := s) (c := (i : Int)) (v := (smN Λ s i)) (by omega) j with h9 | h9 <;> rcases hrc.2 with h8 | h8 <;> omega
        refine tz_iload3 (n := 34) (g_at ck_X11_circuit 21 rfl) rfl ?_
        refine tz_aload0 (n := 35) (g_at ck_X11_circuit 22 rfl) rfl (g_ne kd_84) ?_
        refine tz_getAv (n := 38) (a := 87) fk_X11_23 kd_84 (ly_84_7 hL) (g_at ck_X11_circuit 23 rfl) rfl ?_
        refine tz_iload2 (n := 39) (g_at ck_X11_circuit 24 rfl) rfl ?_
        refine tz_iald (n := 40) kd_87 (by omega) (g_at ck_X11_circuit 25 rfl) rfl ?_
        rw [r87]
        refine tz_icmp_ge (n := 43) (tgt := 83) (g_at ck_X11_circuit 26 rfl) rfl rfl (by omega) (fun h40 => absurd h40 (by omega)) (fun h40 => ?_)
        refine tz_aload0 (n := 44) (g_at ck_X11_circuit 27 rfl) rfl (g_ne kd_84) ?_
        refine tz_iconst (n := 45) (g_at ck_X11_circuit 28 rfl) rfl ?_
        refine tz_iload2 (n := 46) (g_at ck_X11_circuit 29 rfl) rfl ?_
        refine tz_iload3 (n := 47) (g_at ck_X11_circuit 30 rfl) rfl ?_
        refine tz_cvI3 (n := 50) (μ' := μX11_isShut) (cb' := 0) (sb' := 0) ml_X11_338 mo_X11_isShut mv_X11_isShut np_X11_isShut kd_84 (g_at ck_X11_circuit 31 rfl) (mp_isShut hL hR3 (Or.inl rfl) (by omega)) rfl rfl rfl ⟨by decide, by decide⟩ (Nat.le_of_ble_eq_true rfl) (by decide) (by decide) (fun x47 ρ9 m47 hq => ?_)
        obtain ⟨rfl, hR4, rfl, rfl⟩ := hq
        rw [show (0 : Int) + 26 + (i : Int) = 26 + (i : Int) by omega, hs9 (26 + (i : Int)) (by omega) (by omega)]
        have h01 := shutB_01 (s (26 + (i : Int))) (j : Int)
        refine tz_if_eq (n := 53) (tgt := 56) (g_at ck_X11_circuit 32 rfl) rfl rfl (by omega) (fun h50 => ?_) (fun h50 => ?_)
        · skip
          refine tz_iload1 (n := 57) (g_at ck_X11_circuit 34 rfl) rfl ?_
          refine tz_iconst (n := 58) (g_at ck_X11_circuit 35 rfl) rfl ?_
          refine tz_icmp_ne (n := 61) (tgt := 63) (g_at ck_X11_circuit 36 rfl) rfl rfl (by omega) (fun h58 => ?_) (fun h58 => ?_)
          · skip
            refine tz_aload0 (n := 64) (g_at ck_X11_circuit 39 rfl) rfl (g_ne kd_84) ?_
            refine tz_iload1 (n := 65) (g_at ck_X11_circuit 40 rfl) rfl ?_
            refine tz_cvI1 (n := 68) (μ' := μX11_partOf) (cb' := 0) (sb' := 0) ml_X11_368 mo_X11_partOf mv_X11_partOf np_X11_partOf kd_84 (g_at ck_X11_circuit 41 rfl) (mp_partOf hL hR4 hW hM9 hr6 hw6 (by omega)) rfl rfl rfl ⟨by decide, by decide⟩ (Nat.le_of_ble_eq_true rfl) (by decide) (by decide) (fun x65 ρ9 m65 hq => ?_)
            obtain ⟨rfl, hR5, rfl, rfl⟩ := hq
            refine tz_iload2 (n := 69) (g_at ck_X11_circuit 42 rfl) rfl ?_
            refine tz_ishr (n := 70) (g_at ck_X11_circuit 43 rfl) rfl ?_
            refine tz_iconst (n := 71) (g_at ck_X11_circuit 44 rfl) rfl ?_
            refine tz_iand (n := 72) (g_at ck_X11_circuit 45 rfl) rfl ?_
            refine tz_if_ne (n := 75) (tgt := 77) (g_at ck_X11_circuit 46 rfl) rfl rfl (bAnd_rg _ _) (fun h72 => ?_) (fun h72 => ?_)
            · skip
              refine tz_iinc3 (n := 80) (g_at ck_X11_circuit 49 rfl) rfl (by decide) g_hpI ?_
              refine tz_goto (tgt := 33) (g_at ck_X11_circuit 50 rfl) rfl ?_
              have e9 : smR s (i : Int) (smN Λ s i) (j + 1) = (smR s (i : Int) (smN Λ s i) j) := (if_pos h50).trans (if_neg h58)
              rw [e9] at ihj
              exact ihj (fun _ => by have h9 := pt_bit (s := s) (a := (smR s (i : Int) (smN Λ s i) j)) (z := (i : Int)) hW (by omega); rw [h9] at h72 ⊢; split at h72; exact if_pos (by assumption); exact absurd rfl h72)
            · skip
              refine tz_iconst (n := 76) (g_at ck_X11_circuit 47 rfl) rfl ?_
              exact tz_bret (g_at ck_X11_circuit 48 rfl) rfl (by decide) (rI_mk ⟨rfl, hR5, hk0.tr (mK.l hF6 (by decide)), by rw [hF6 84 (by decide), h00], hrc.no hW (by omega) (by omega) h26 h50 ((if_pos h50).trans (if_neg h58)) h72⟩)
          · skip
            refine tz_iload2 (n := 62) (g_at ck_X11_circuit 37 rfl) rfl ?_
            refine tz_istore1 (n := 63) (g_at ck_X11_circuit 38 rfl) rfl (by decide) g_hpR ?_
            refine tz_aload0 (n := 64) (g_at ck_X11_circuit 39 rfl) rfl (g_ne kd_84) ?_
            refine tz_iload1 (n := 65) (g_at ck_X11_circuit 40 rfl) rfl ?_
            refine tz_cvI1 (n := 68) (μ' := μX11_partOf) (cb' := 0) (sb' := 0) ml_X11_368 mo_X11_partOf mv_X11_partOf np_X11_partOf kd_84 (g_at ck_X11_circuit 41 rfl) (mp_partOf hL hR4 hW hM9 hr6 hw6 (by omega)) rfl rfl rfl ⟨by decide, by decide⟩ (Nat.le_of_ble_eq_true rfl) (by decide) (by decide) (fun x65 ρ9 m65 hq => ?_)
            obtain ⟨rfl, hR6, rfl, rfl⟩ := hq
            refine tz_iload2 (n := 69) (g_at ck_X11_circuit 42 rfl) rfl ?_
            refine tz_ishr (n := 70) (g_at ck_X11_circuit 43 rfl) rfl ?_
            refine tz_iconst (n := 71) (g_at ck_X11_circuit 44 rfl) rfl ?_
            refine tz_iand (n := 72) (g_at ck_X11_circuit 45 rfl) rfl ?_
            refine tz_if_ne (n := 75) (tgt := 77) (g_at ck_X11_circuit 46 rfl) rfl rfl (bAnd_rg _ _) (fun h72 => ?_) (fun h72 => ?_)
            · skip
              refine tz_iinc3 (n := 80) (g_at ck_X11_circuit 49 rfl) rfl (by decide) g_hpI ?_
              refine tz_goto (tgt := 33) (g_at ck_X11_circuit 50 rfl) rfl ?_
              have e9 : smR s (i : Int) (smN Λ s i) (j + 1) = (i : Int) := (if_pos h50).trans (if_pos h58)
              rw [e9] at ihj
              exact ihj (fun _ => by have h9 := pt_bit (s := s) (a := (i : Int)) (z := (i : Int)) hW (by omega); rw [h9] at h72 ⊢; split at h72; exact if_pos (by assumption); exact absurd rfl h72)
            · skip
              refine tz_iconst (n := 76) (g_at ck_X11_circuit 47 rfl) rfl ?_
              exact tz_bret (g_at ck_X11_circuit 48 rfl) rfl (by decide) (rI_mk ⟨rfl, hR6, hk0.tr (mK.l hF6 (by decide)), by rw [hF6 84 (by decide), h00], hrc.no hW (by omega) (by omega) h26 h50 ((if_pos h50).trans (if_pos h58)) h72⟩)
        · skip
          refine tz_goto (tgt := 77) (g_at ck_X11_circuit 33 rfl) rfl ?_
          refine tz_iinc3 (n := 80) (g_at ck_X11_circuit 49 rfl) rfl (by decide) g_hpI ?_
          refine tz_goto (tgt := 33) (g_at ck_X11_circuit 50 rfl) rfl ?_
          have e9 : smR s (i : Int) (smN Λ s i) (j + 1) = (smR s (i : Int) (smN Λ s i) j) := if_neg h50
          rw [e9] at ihj
          exact ihj (fun h9 => hnj (h9.s h50))
    · skip
      refine tz_iconst (n := 30) (g_at ck_X11_circuit 17 rfl) rfl ?_
      exact tz_bret (g_at ck_X11_circuit 18 rfl) rfl (by decide) (rI_mk ⟨rfl, hR3, hk0.tr (mK.l hF6 (by decide)), by rw [hF6 84 (by decide), h00], crN_stay (k := i + 1) (by rw [show crN Λ s (i + 1) = crS Λ s (i : Int) (crN Λ s i) from rfl, crS_a hrc.1 h26]) (Λ 0 0).toNat (by omega)⟩)
