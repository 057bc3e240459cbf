/-! Seeing and feeding on both sides. -/
theorem and255 (x : Int) : 0 ≤ bAnd x 255 ∧ bAnd x 255 < 256 := by
  have h : (Int32.ofInt x &&& Int32.ofInt 255).toBitVec.toNat ≤ 255 := by
    rw [Int32.toBitVec_and, BitVec.toNat_and]
    exact Nat.le_trans Nat.and_le_right (by decide)
  have e : (Int32.ofInt x &&& Int32.ofInt 255).toBitVec.toInt = ((Int32.ofInt x &&& Int32.ofInt 255).toBitVec.toNat : Int) := BitVec.toInt_eq_toNat_of_lt (by omega)
  have e2 : bAnd x 255 = (Int32.ofInt x &&& Int32.ofInt 255).toBitVec.toInt := rfl
  omega
def FdC (m m9 : Mm) (t : Int → Int) (n : Int) : Prop := m9 1 1 = n ∧ (∀ j, j ≠ 1 → m9 1 j = m 1 j) ∧ (∀ a, a ≠ 1 → a ≠ 2 → m9 a = m a) ∧ TpC m9 t n ∧ BY t
theorem FdC.tr {m m1 m9 : Mm} {t t9 : Int → Int} {n n9 : Int} (h : FdC m m1 t n) (k : FdC m1 m9 t9 n9) : FdC m m9 t9 n9 := ⟨k.1, fun j hj => (k.2.1 j hj).trans (h.2.1 j hj), fun a h1 h2 => (k.2.2.1 a h1 h2).trans (h.2.2.1 a h1 h2), k.2.2.2⟩
theorem FdC.s {m m1 : Mm} {t : Int → Int} {n v k : Int} (h : FdC m m1 t n) : FdC m (fe1 m1 v k) (up t n (bAnd (bUsh v k) 255)) (n + 1) := by
  obtain ⟨h1, h2, h3, h4, h5⟩ := h
  have hb := and255 (bUsh v k)
  refine ⟨by unfold fe1; rw [wr_same, h1], fun j hj => by unfold fe1; rw [wr_at, if_neg hj, wr_ne (by decide)]; exact h2 j hj, fun a a1 a2 => by unfold fe1; rw [wr_ne a1, wr_ne a2]; exact h3 a a1 a2, fun j j1 j2 => ?_, fun j => ?_⟩
  · unfold fe1
    rw [wr_ne (by decide), wr_at, h1]
    by_cases e : j = n
    · rw [if_pos e, e, up_at]
    · rw [if_neg e, up_ne e]; exact h4 j j1 (by omega)
  · by_cases e : j = n
    · rw [e, up_at]; exact hb
    · rw [up_ne e]; exact h5 j
theorem feI_C {m m1 : Mm} {t : Int → Int} {n v : Int} (h : FdC m m1 t n) : ∀ k : Nat, FdC m (feI m1 v k) (lyI t n v k) (n + (k : Int))
  | 0 => by show FdC m m1 t (n + 0); rw [Int.add_zero]; exact h
  | k + 1 => by
    have ih := (feI_C (v := v) h k).s (v := v) (k := 24 - 8 * (k : Int))
    rw [show n + (k : Int) + 1 = n + ((k + 1 : Nat) : Int) by omega] at ih
    exact ih
section
variable {ρ ρ9 m m9 : Mm} {Λ : Mm} {hl tl : List Int} {s : Int → Int} {n : Int} {α κ : Mm} {h : Int} {s2 : Int → Int} {n2 : Int} {α2 κ2 : Mm} {t : Int → Int} {tn pl : Int} {f : Int → Int}
theorem CW.fed (w : CW ρ m Λ hl tl s n α κ h s2 n2 α2 κ2 t tn pl f) {t9 : Int → Int} {n9 : Int} (k : FdC m m9 t9 n9) : CW ρ m9 Λ hl tl s n α κ h s2 n2 α2 κ2 t9 n9 pl f := by
  obtain ⟨⟨w0, w1⟩, w2, w3, w4, w5, ⟨w6, w7⟩, w8, w9, wa⟩ := w
  obtain ⟨k1, k2, k3, k4, k5⟩ := k
  have hld : ρ 1 3 = 3 ∨ ρ 1 3 = 20 := by omega
  have e : ∀ a, 3 ≤ a → m9 a = m a := fun a ha => k3 a (by omega) (by omega)
  exact ⟨⟨w0, w1⟩, w2.gen fun a h1 h2 h3 h4 => e a (by omega), w3.gen fun a h1 h2 => e a (by omega), w4.c ⟨e _ (by omega), e _ (by omega)⟩, w5.c ⟨e _ (by omega), e _ (by omega), e _ (by omega), e _ (by omega)⟩, ⟨by rw [k2 9 (by decide)]; exact w6, fun h9 => ⟨(w7 h9).1.gen fun a h1 h2 => e a (by omega), (w7 h9).2.1.c ⟨e _ (by omega), e _ (by omega)⟩, (w7 h9).2.2.c ⟨e _ (by omega), e _ (by omega), e _ (by omega), e _ (by omega)⟩⟩⟩, k4, ⟨k1, by rw [k2 2 (by decide)]; exact w9.2⟩, fun j j1 j2 => by rw [e 61 (by omega)]; exact wa j j1 j2⟩
theorem fe_5 {a b c d e : Int} (w : CW ρ m Λ hl tl s n α κ h s2 n2 α2 κ2 t tn pl f) (hB : BY t) : FdC m (feI (feI (feI (feI (feI m a 4) b 4) c 4) d 4) e 4) (fedT t tn a b c d e) (tn + 20) := by
  have h0 : FdC m m t tn := ⟨w.2.2.2.2.2.2.2.1.1, fun _ _ => rfl, fun _ _ _ => rfl, w.2.2.2.2.2.2.1, hB⟩
  have h1 := feI_C (v := a) h0 4
  rw [show tn + ((4 : Nat) : Int) = tn + 4 by omega] at h1
  have h2 := feI_C (v := b) h1 4
  rw [show tn + 4 + ((4 : Nat) : Int) = tn + 8 by omega] at h2
  have h3 := feI_C (v := c) h2 4
  rw [show tn + 8 + ((4 : Nat) : Int) = tn + 12 by omega] at h3
  have h4 := feI_C (v := d) h3 4
  rw [show tn + 12 + ((4 : Nat) : Int) = tn + 16 by omega] at h4
  have h5 := feI_C (v := e) h4 4
  rw [show tn + 16 + ((4 : Nat) : Int) = tn + 20 by omega] at h5
  exact h5
theorem CW.see {p c y : Int} (w : CW ρ m Λ hl tl s n α κ h s2 n2 α2 κ2 t tn pl f) (hk : 0 ≤ κ 0 0) : CW ρ (wr (wr (wr (wr m 47 (m 46 3) p) 48 (m 46 3) c) 49 (m 46 3) y) 46 3 (m 46 3 + 1)) Λ hl tl s n α (seeP κ p c y) h s2 n2 α2 κ2 t tn pl f := by
  obtain ⟨M, eM⟩ : ∃ M, M = (wr (wr (wr (wr m 47 (m 46 3) p) 48 (m 46 3) c) 49 (m 46 3) y) 46 3 (m 46 3 + 1)) := ⟨_, rfl⟩
  have hs := w.2.2.2.2.1
  rw [← eM]
  have e : ∀ a, (a < 46 ∨ 49 < a) → M a = m a := fun a h1 => by rw [eM, wr_ne (by omega), wr_ne (by omega), wr_ne (by omega), wr_ne (by omega)]
  have c3 : SeenC M 46 (seeP κ p c y) := by
    have e0 : seeP κ p c y 0 0 = κ 0 0 + 1 := by unfold seeP; rw [wr_same]
    refine ⟨by rw [eM, wr_same, e0, hs.1], fun i i1 i2 => ?_⟩
    rw [e0] at i2
    have e1 : seeP κ p c y 1 i = if i = κ 0 0 then p else κ 1 i := by simp [seeP, wr]
    have e2 : seeP κ p c y 2 i = if i = κ 0 0 then c else κ 2 i := by simp [seeP, wr]
    have e3 : seeP κ p c y 3 i = if i = κ 0 0 then y else κ 3 i := by simp [seeP, wr]
    have f1 : M (46 + 1) i = if i = m 46 3 then p else m 47 i := by rw [eM]; simp [wr]
    have f2 : M (46 + 2) i = if i = m 46 3 then c else m 48 i := by rw [eM]; simp [wr]
    have f3 : M (46 + 3) i = if i = m 46 3 then y else m 49 i := by rw [eM]; simp [wr]
    rw [e1, e2, e3, f1, f2, f3, hs.1]
    by_cases h9 : i = κ 0 0
    · rw [if_pos h9, if_pos h9, if_pos h9, if_pos h9, if_pos h9, if_pos h9]; exact ⟨rfl, rfl, rfl⟩
    · rw [if_neg h9, if_neg h9, if_neg h9, if_neg h9, if_neg h9, if_neg h9]; exact hs.2 i i1 (by omega)
  exact w.parts (fun a h1 h2 => e a (by omega)) (e 61 (by omega)) (by rw [e 1 (by omega)]; exact ⟨rfl, rfl⟩) (w.2.2.1.gen fun a h1 h2 => e a (by omega)) (w.2.2.2.1.c ⟨e _ (by omega), e _ (by omega)⟩) c3 ⟨by rw [e 1 (by omega)]; exact w.img.1, fun h9 => ⟨(w.img.2 h9).1.gen fun a h1 h2 => e a (by omega), (w.img.2 h9).2.1.c ⟨e _ (by omega), e _ (by omega)⟩, (w.img.2 h9).2.2.c ⟨e _ (by omega), e _ (by omega), e _ (by omega), e _ (by omega)⟩⟩⟩
theorem fd_C {x a b c d e : Int} (w : CW ρ m Λ hl tl s n α κ h s2 n2 α2 κ2 t tn pl f) (v : MW m Λ hl tl s n α κ h s2 n2 α2 κ2 t tn pl f) (hL : LY ρ) (hB : BY t) (hq : ρ = ρ9 ∧ MR m9 ∧ (680 < m 1 1 → x = -1 ∧ m = m9) ∧ (m 1 1 ≤ 680 → m 1 1 + 20 = x ∧ (feI (feI (feI (feI (feI m a 4) b 4) c 4) d 4) e 4) = m9)) : LY ρ9 ∧ MR m9 ∧ MW m9 Λ hl tl s n α κ h s2 n2 α2 κ2 t tn pl f ∧ (680 < tn → x = -1 ∧ CW ρ9 m9 Λ hl tl s n α κ h s2 n2 α2 κ2 t tn pl f) ∧ (tn ≤ 680 → x = tn + 20 ∧ CW ρ9 m9 Λ hl tl s n α κ h s2 n2 α2 κ2 (fedT t tn a b c d e) (tn + 20) pl f ∧ BY (fedT t tn a b c d e)) := by
  obtain ⟨rfl, q1, q2, q3⟩ := hq
  rw [show m 1 1 = tn from w.2.2.2.2.2.2.2.1.1] at q2 q3
  by_cases h0 : tn ≤ 680
  · have hf := fe_5 (a := a) (b := b) (c := c) (d := d) (e := e) w hB
    obtain ⟨hx, rfl⟩ := q3 h0
    exact ⟨hL, q1, v.high fun a h1 h2 => hf.2.2.1 a (by omega) (by omega), fun h9 => absurd h0 (by omega), fun _ => ⟨hx.symm, w.fed hf, hf.2.2.2.2⟩⟩
  · obtain ⟨rfl, rfl⟩ := q2 (by omega)
    exact ⟨hL, q1, v, fun _ => ⟨rfl, w⟩, fun h9 => absurd h9 h0⟩
theorem fd_M {N x y a b c d e : Int} (p : PW N Λ hl tl s n α κ h s2 n2 α2 κ2 t tn pl f) (v : MW m Λ hl tl s n α κ h s2 n2 α2 κ2 t tn pl f) (hL : LY ρ) (c1 : 680 < tn → x = -1 ∧ CW ρ m Λ hl tl s n α κ h s2 n2 α2 κ2 t tn pl f) (c2 : tn ≤ 680 → x = tn + 20 ∧ CW ρ m Λ hl tl s n α κ h s2 n2 α2 κ2 (fedT t tn a b c d e) (tn + 20) pl f ∧ BY (fedT t tn a b c d e)) (hq : ρ = ρ9 ∧ MR m9 ∧ m9 84 0 = 0 ∧ (680 < tn → y = -1 ∧ FX [84] [0] m m9) ∧ (tn ≤ 680 → tn + 20 = y ∧ MTp m9 (fedT t tn a b c d e) (tn + 20) ∧ FX [84, 91] [0, 12] m m9)) : x = y ∧ IW (N + 1) ρ9 m9 := by
  obtain ⟨rfl, q1, q2, q3, q4⟩ := hq
  by_cases h0 : tn ≤ 680
  · obtain ⟨hy, hT, hx⟩ := q4 h0
    have hf := FX.low hx (by decide)
    have hc := c2 h0
    refine ⟨by rw [hc.1, hy], IW.mk hL q1 (hc.2.1.low hf.1) ?_ ⟨p.1, p.2.1, p.2.2.1, hc.2.2, by have := p.2.2.2.2.1; omega, p.inc.2.2.2.2.2⟩⟩
    obtain ⟨v0, v1, v2, v3, v4, v5, v6, v7, v8⟩ := v
    exact ⟨v0.x hx (by decide) (by decide), v1.x hx (by decide), v2.x hx (by decide) (by decide), v3.x hx (by decide) (by decide), v4.x hx (by decide) (by decide) (by decide) (by decide) (by decide) (by decide), hT, by rw [hx.2 14 (by decide), hx.2 51 (by decide)]; exact v6, by rw [hx.1 92 (by decide)]; exact v7, by rw [hx.1 101 (by decide)]; exact v8⟩
  · have hc := c1 (by omega)
    have hq3 := q3 (by omega)
    have hf := FX.low hq3.2 (by decide)
    exact ⟨by rw [hc.1, hq3.1], IW.mk hL q1 (hc.2.low hf.1) (v.w0 hq3.2) p.inc⟩
end
