/-! What a call of either side leaves of the world. -/
theorem MomC.w1 {m : Mm} {r p v : Int} {s : Int → Int} (h : MomC m r s) (hp : 0 ≤ p ∧ p < 8) : MomC (wr m (r + 1) p v) r (up s (1 + p) v) := by
  refine ⟨?_, fun q q1 q2 => ⟨?_, ?_⟩, fun q q1 q2 => ⟨?_, ?_⟩⟩
  · rw [wr_ne (by omega), up_ne (by omega)]; exact h.1
  · rw [wr_at]
    by_cases e : q = p
    · rw [if_pos e, e, up_at]
    · rw [if_neg e, up_ne (by omega)]; exact (h.2.1 q q1 q2).1
  · rw [wr_ne (by omega), up_ne (by omega)]; exact (h.2.1 q q1 q2).2
  · rw [wr_ne (by omega), up_ne (by omega)]; exact (h.2.2 q q1 q2).1
  · rw [wr_ne (by omega), up_ne (by omega)]; exact (h.2.2 q q1 q2).2
theorem MomC.w2 {m : Mm} {r p v : Int} {s : Int → Int} (h : MomC m r s) (hp : 0 ≤ p ∧ p < 8) : MomC (wr m (r + 2) p v) r (up s (9 + p) v) := by
  refine ⟨?_, fun q q1 q2 => ⟨?_, ?_⟩, fun q q1 q2 => ⟨?_, ?_⟩⟩
  · rw [wr_ne (by omega), up_ne (by omega)]; exact h.1
  · rw [wr_ne (by omega), up_ne (by omega)]; exact (h.2.1 q q1 q2).1
  · rw [wr_at]
    by_cases e : q = p
    · rw [if_pos e, e, up_at]
    · rw [if_neg e, up_ne (by omega)]; exact (h.2.1 q q1 q2).2
  · rw [wr_ne (by omega), up_ne (by omega)]; exact (h.2.2 q q1 q2).1
  · rw [wr_ne (by omega), up_ne (by omega)]; exact (h.2.2 q q1 q2).2
theorem MomC.w3 {m : Mm} {r p v : Int} {s : Int → Int} (h : MomC m r s) (hp : 0 ≤ p ∧ p < 9) : MomC (wr m (r + 3) p v) r (up s (17 + p) v) := by
  refine ⟨?_, fun q q1 q2 => ⟨?_, ?_⟩, fun q q1 q2 => ⟨?_, ?_⟩⟩
  · rw [wr_ne (by omega), up_ne (by omega)]; exact h.1
  · rw [wr_ne (by omega), up_ne (by omega)]; exact (h.2.1 q q1 q2).1
  · rw [wr_ne (by omega), up_ne (by omega)]; exact (h.2.1 q q1 q2).2
  · rw [wr_at]
    by_cases e : q = p
    · rw [if_pos e, e, up_at]
    · rw [if_neg e, up_ne (by omega)]; exact (h.2.2 q q1 q2).1
  · rw [wr_ne (by omega), up_ne (by omega)]; exact (h.2.2 q q1 q2).2
theorem MomC.w4 {m : Mm} {r p v : Int} {s : Int → Int} (h : MomC m r s) (hp : 0 ≤ p ∧ p < 9) : MomC (wr m (r + 4) p v) r (up s (26 + p) v) := by
  refine ⟨?_, fun q q1 q2 => ⟨?_, ?_⟩, fun q q1 q2 => ⟨?_, ?_⟩⟩
  · rw [wr_ne (by omega), up_ne (by omega)]; exact h.1
  · rw [wr_ne (by omega), up_ne (by omega)]; exact (h.2.1 q q1 q2).1
  · rw [wr_ne (by omega), up_ne (by omega)]; exact (h.2.1 q q1 q2).2
  · rw [wr_ne (by omega), up_ne (by omega)]; exact (h.2.2 q q1 q2).1
  · rw [wr_at]
    by_cases e : q = p
    · rw [if_pos e, e, up_at]
    · rw [if_neg e, up_ne (by omega)]; exact (h.2.2 q q1 q2).2
theorem sig_up {s : Int → Int} {k v : Int} : sig0 (up s k v) = wr (sig0 s) 0 k v := funext fun a => funext fun j => by
  show (if a = 0 then up s k v else fun _ => 0) j = if a = 0 ∧ j = k then v else (if a = 0 then s else fun _ => 0) j
  by_cases h : a = 0
  · rw [if_pos h, if_pos h]
    by_cases e : j = k
    · rw [if_pos ⟨h, e⟩, e, up_at]
    · rw [if_neg (fun h9 => e h9.2), up_ne e]
  · rw [if_neg h, if_neg h, if_neg (fun h9 => h h9.1)]
section
variable {ρ ρ9 m m9 : Mm} {Λ : Mm} {hl tl : List Int} {s : Int → Int} {n : Int} {α κ : Mm} {h : Int} {s2 : Int → Int} {n2 : Int} {α2 κ2 : Mm} {t : Int → Int} {tn pl : Int} {f : Int → Int}
/-- a call of the law's wrapper that only looks -/
theorem rd_C {cd k : Int} {Q : Int → Mm → Mm → Prop} {A : Int → Prop} (w : CW ρ m Λ hl tl s n α κ h s2 n2 α2 κ2 t tn pl f) (v : MW m Λ hl tl s n α κ h s2 n2 α2 κ2 t tn pl f) (hL : LY ρ) (hR : MR m) (hq : wQ cd ρ m Q k ρ9 m9) (hQ : ∀ x ρ9 m9, Q x ρ9 m9 → qR ρ ρ9 ∧ MR m9 ∧ qM (ρ 1 3) m m9 ∧ cd = 0 ∧ A x) : LY ρ9 ∧ MR m9 ∧ CW ρ9 m9 Λ hl tl s n α κ h s2 n2 α2 κ2 t tn pl f ∧ MW m9 Λ hl tl s n α κ h s2 n2 α2 κ2 t tn pl f ∧ k = cd ∧ (cd = 0 → ∃ x, A x ∧ m9 122 0 = w32 x) := by
  rcases hq with ⟨h1, h2, rfl, rfl⟩ | ⟨h1, x, m1, h2, rfl⟩
  · exact ⟨hL, hR, w, v, h1, fun h9 => by omega⟩
  · obtain ⟨q1, q2, q3, q4, q5⟩ := hQ x _ m1 h2
    have hld := w.ld
    exact ⟨hL.q q1, q2.wr (w32_rg _), (w.q q1 q3).low fun a ha => wr_ne (by omega), v.high fun a h3 h4 => by rw [wr_ne (by omega)]; exact q3 a (by omega) (by omega) (by omega), by omega, fun _ => ⟨x, q5, wr_same⟩⟩
/-- a call of the class itself that only looks -/
theorem rd_D {x : Int} {A : Int → Prop} (w : CW ρ m Λ hl tl s n α κ h s2 n2 α2 κ2 t tn pl f) (v : MW m Λ hl tl s n α κ h s2 n2 α2 κ2 t tn pl f) (hL : LY ρ) (hq : qR ρ ρ9 ∧ MR m9 ∧ qM (ρ 1 3) m m9 ∧ A x) : LY ρ9 ∧ MR m9 ∧ CW ρ9 m9 Λ hl tl s n α κ h s2 n2 α2 κ2 t tn pl f ∧ MW m9 Λ hl tl s n α κ h s2 n2 α2 κ2 t tn pl f ∧ A x := by
  obtain ⟨q1, q2, q3, q5⟩ := hq
  have hld := w.ld
  exact ⟨hL.q q1, q2, w.q q1 q3, v.high fun a h3 h4 => q3 a (by omega) (by omega) (by omega), q5⟩
/-- a call of the reference that only looks -/
theorem rd_M {cd x : Int} {A : Int → Prop} (w : CW ρ m Λ hl tl s n α κ h s2 n2 α2 κ2 t tn pl f) (v : MW m Λ hl tl s n α κ h s2 n2 α2 κ2 t tn pl f) (hL : LY ρ) (hq : ρ = ρ9 ∧ MR m9 ∧ mK m m9 ∧ m9 84 0 = cd ∧ (cd = 0 → A x)) : LY ρ9 ∧ MR m9 ∧ CW ρ9 m9 Λ hl tl s n α κ h s2 n2 α2 κ2 t tn pl f ∧ MW m9 Λ hl tl s n α κ h s2 n2 α2 κ2 t tn pl f ∧ m9 84 0 = cd ∧ m9 122 0 = m 122 0 ∧ (cd = 0 → A x) := by
  obtain ⟨rfl, q2, q3, q4, q5⟩ := hq
  exact ⟨hL, q2, w.low fun a ha => q3.low ha, v.k q3, q4, by rw [q3.1 122 (by decide)], q5⟩
theorem CW.rf (w : CW ρ m Λ hl tl s n α κ h s2 n2 α2 κ2 t tn pl f) {k : Int} (hk : 0 ≤ k ∧ k < 3) : CW ρ (rfM m k) Λ hl tl s n α κ h s2 n2 α2 κ2 t tn pl (up f k (f k + 1)) := by
  obtain ⟨⟨w0, w1⟩, w2, w3, w4, w5, ⟨w6, w7⟩, w8, w9, wa⟩ := w
  have e : ∀ a, a ≠ 61 → rfM m k a = m a := fun a ha => wr_ne ha
  have w' : CW ρ (rfM m k) Λ hl tl s n α κ h s2 n2 α2 κ2 t tn pl (fun j => rfM m k 61 j) := by
    have hld : ρ 1 3 = 3 ∨ ρ 1 3 = 20 := by omega
    exact ⟨⟨w0, w1⟩, w2.gen fun a h1 h2 h3 h4 => e a (by omega), w3.gen fun a h1 h2 => e a (by omega), w4.c ⟨e _ (by omega), e _ (by omega)⟩, w5.c ⟨e _ (by omega), e _ (by omega), e _ (by omega), e _ (by omega)⟩, ⟨by rw [e 1 (by omega)]; exact w6, fun h9 => ⟨(w7 h9).1.gen fun a h1 h2 => e a (by omega), (w7 h9).2.1.c ⟨e _ (by omega), e _ (by omega)⟩, (w7 h9).2.2.c ⟨e _ (by omega), e _ (by omega), e _ (by omega), e _ (by omega)⟩⟩⟩, fun j j1 j2 => by rw [e 2 (by omega)]; exact w8 j j1 j2, by rw [e 1 (by omega)]; exact w9, fun j _ _ => rfl⟩
  obtain ⟨v0, v1, v2, v3, v4, v5, v6, v7, _⟩ := w'
  refine ⟨v0, v1, v2, v3, v4, v5, v6, v7, fun j j1 j2 => ?_⟩
  show wr m 61 k (m 61 k + 1) 61 j = up f k (f k + 1) j
  rw [wr_at, wa k hk.1 hk.2]
  by_cases ej : j = k
  · rw [if_pos ej, ej, up_at]
  · rw [if_neg ej, up_ne ej, wa j j1 j2]
theorem CW.keep (w : CW ρ m Λ hl tl s n α κ h s2 n2 α2 κ2 t tn pl f) (hn : 0 ≤ n ∧ n ≤ 40) : CW ρ (actKeep m 44 39) Λ hl tl s (keepN n) (keepA n α s) κ h s2 n2 α2 κ2 t tn pl f := by
  obtain ⟨⟨w0, w1⟩, w2, w3, w4, w5, ⟨w6, w7⟩, w8, w9, wa⟩ := w
  have e : ∀ a, a ≠ 44 → a ≠ 45 → actKeep m 44 39 a = m a := fun a h1 h2 => keep_fr a (by simp; omega)
  have hld : ρ 1 3 = 3 ∨ ρ 1 3 = 20 := by omega
  exact ⟨⟨w0, w1⟩, w2.gen fun a h1 h2 h3 h4 => e a (by omega) (by omega), w3.gen fun a h1 h2 => e a (by omega) (by omega), keep_act w4 hn w3, w5.c ⟨e _ (by omega) (by omega), e _ (by omega) (by omega), e _ (by omega) (by omega), e _ (by omega) (by omega)⟩, ⟨by rw [e 1 (by omega) (by omega)]; exact w6, fun h9 => ⟨(w7 h9).1.gen fun a h1 h2 => e a (by omega) (by omega), (w7 h9).2.1.c ⟨e _ (by omega) (by omega), e _ (by omega) (by omega)⟩, (w7 h9).2.2.c ⟨e _ (by omega) (by omega), e _ (by omega) (by omega), e _ (by omega) (by omega), e _ (by omega) (by omega)⟩⟩⟩, fun j j1 j2 => by rw [e 2 (by omega) (by omega)]; exact w8 j j1 j2, by rw [e 1 (by omega) (by omega)]; exact w9, fun j j1 j2 => by rw [e 61 (by omega) (by omega)]; exact wa j j1 j2⟩
theorem CW.mom (w : CW ρ m Λ hl tl s n α κ h s2 n2 α2 κ2 t tn pl f) {s9 : Int → Int} (k : Fr [39, 40, 41, 42, 43] m m9) (h9 : MomC m9 39 s9) : CW ρ m9 Λ hl tl s9 n α κ h s2 n2 α2 κ2 t tn pl f := by
  obtain ⟨⟨w0, w1⟩, w2, w3, w4, w5, ⟨w6, w7⟩, w8, w9, wa⟩ := w
  have e : ∀ a, (a < 39 ∨ 43 < a) → m9 a = m a := fun a h1 => k a (by simp; omega)
  have hld : ρ 1 3 = 3 ∨ ρ 1 3 = 20 := by omega
  exact ⟨⟨w0, w1⟩, w2.gen fun a h1 h2 h3 h4 => e a (by omega), h9, w4.c ⟨e _ (by omega), e _ (by omega)⟩, w5.c ⟨e _ (by omega), e _ (by omega), e _ (by omega), e _ (by omega)⟩, ⟨by rw [e 1 (by omega)]; exact w6, fun h9 => ⟨(w7 h9).1.gen fun a h1 h2 => e a (by omega), (w7 h9).2.1.c ⟨e _ (by omega), e _ (by omega)⟩, (w7 h9).2.2.c ⟨e _ (by omega), e _ (by omega), e _ (by omega), e _ (by omega)⟩⟩⟩, fun j j1 j2 => by rw [e 2 (by omega)]; exact w8 j j1 j2, by rw [e 1 (by omega)]; exact w9, fun j j1 j2 => by rw [e 61 (by omega)]; exact wa j j1 j2⟩
theorem MW.rf (v : MW m Λ hl tl s n α κ h s2 n2 α2 κ2 t tn pl f) {k : Int} (hk : 0 ≤ k ∧ k < 3) (hx : RfX m m9 k) : MW m9 Λ hl tl s n α κ h s2 n2 α2 κ2 t tn pl (up f k (f k + 1)) := by
  obtain ⟨v0, v1, v2, v3, v4, v5, v6, v7, v8⟩ := v
  obtain ⟨x1, x2⟩ := hx
  refine ⟨v0.x x1 (by decide) (by decide), v1.x x1 (by decide), v2.x x1 (by decide) (by decide), v3.x x1 (by decide) (by decide), ?_, v5.x x1 (by decide) (by decide), by rw [x1.2 14 (by decide), x1.2 51 (by decide)]; exact v6, fun j j1 j2 => ?_, by rw [x1.1 101 (by decide)]; exact v8⟩
  · unfold MIm at *
    rw [x1.2 63 (by decide), x1.2 64 (by decide), x1.2 65 (by decide), x1.1 119 (by decide), x1.1 120 (by decide), x1.1 121 (by decide)]; exact v4
  · rw [x2, v7 k hk.1 hk.2]
    by_cases ej : j = k
    · rw [ej, up_at, up_at]
    · rw [up_ne ej, up_ne ej, v7 j j1 j2]
/-- an act that is kept: the acts, the row, and nothing else of the world -/
theorem MW.act (v : MW m Λ hl tl s n α κ h s2 n2 α2 κ2 t tn pl f) {n9 : Int} {α9 : Mm} {s9 : Int → Int} {L : List Int} (hL : L = [84, 103] ∨ L = [84, 103, 104] ∨ L = [84, 103, 104, 105, 106, 107, 108, 109]) (x1 : FX L [0, 45] m m9) (ha : AcM m9 n9 α9) (hs : MRow m9 s9) : MW m9 Λ hl tl s9 n9 α9 κ h s2 n2 α2 κ2 t tn pl f := by
  obtain ⟨v0, v1, v2, v3, v4, v5, v6, v7, v8⟩ := v
  have hl : ∀ a, a ∉ [(84 : Int), 103, 104, 105, 106, 107, 108, 109] → a ∉ L := by
    rcases hL with rfl | rfl | rfl
    · intro a h; simp at h ⊢; omega
    · intro a h; simp at h ⊢; omega
    · exact fun a h => h
  have hl2 : ∀ x ∈ L, x = 84 ∨ 91 ≤ x := by rcases hL with rfl | rfl | rfl <;> decide
  refine ⟨v0.x x1 hl2 (by decide), hs, ha, v3.x x1 (by decide) (hl _ (by decide)), ?_, v5.x x1 (by decide) (hl _ (by decide)), by rw [x1.2 14 (by decide), x1.2 51 (by decide)]; exact v6, by rw [x1.1 92 (hl _ (by decide))]; exact v7, by rw [x1.1 101 (hl _ (by decide))]; exact v8⟩
  unfold MIm at *
  rw [x1.2 63 (by decide), x1.2 64 (by decide), x1.2 65 (by decide), x1.1 119 (hl _ (by decide)), x1.1 120 (hl _ (by decide)), x1.1 121 (hl _ (by decide))]; exact v4
end
