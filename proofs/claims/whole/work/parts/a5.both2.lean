/-! Undo, days, forget, image, restore, fault: on both sides. -/
section
variable {ρ ρ9 m m9 : Mm} {Λ : Mm} {hl tl : List Int} {s : Int → Int} {n : Int} {α κ : Mm} {h : Int} {s2 : Int → Int} {n2 : Int} {α2 κ2 : Mm} {t : Int → Int} {tn pl : Int} {f : Int → Int}
theorem un_C {x : Int} (w : CW ρ m Λ hl tl s n α κ h s2 n2 α2 κ2 t tn pl f) (v : MW m Λ hl tl s n α κ h s2 n2 α2 κ2 t tn pl f) (hL : LY ρ) (hn : 0 ≤ n) (hq : ρ = ρ9 ∧ MR m9 ∧ (m 44 2 = 0 → x = -1 ∧ m = m9) ∧ (¬ (m 44 2 = 0) → actBack m 44 39 44 2 = x ∧ actBack m 44 39 = m9)) : LY ρ9 ∧ MR m9 ∧ MW m9 Λ hl tl s n α κ h s2 n2 α2 κ2 t tn pl f ∧ (n = 0 → x = -1 ∧ CW ρ9 m9 Λ hl tl s n α κ h s2 n2 α2 κ2 t tn pl f) ∧ (¬ n = 0 → x = n - 1 ∧ CW ρ9 m9 Λ hl tl (α (n - 1)) (n - 1) α κ h s2 n2 α2 κ2 t tn pl f) := by
  obtain ⟨rfl, q1, q2, q3⟩ := hq
  rw [show m 44 2 = n from w.2.2.2.1.1] at q2 q3
  by_cases h0 : n = 0
  · obtain ⟨rfl, rfl⟩ := q2 h0
    exact ⟨hL, q1, v, fun _ => ⟨rfl, w⟩, fun h9 => absurd h0 h9⟩
  · have hb := back_act w.2.2.2.1 (by omega)
    obtain ⟨hx, rfl⟩ := q3 h0
    exact ⟨hL, q1, v.high fun a h1 h2 => hb.2.2 a (by simp; omega), fun h9 => absurd h9 h0, fun _ => ⟨by rw [← hx]; exact hb.1.1, w.back (by omega)⟩⟩
theorem un_M {N x y : Int} (p : PW N Λ hl tl s n α κ h s2 n2 α2 κ2 t tn pl f) (v : MW m Λ hl tl s n α κ h s2 n2 α2 κ2 t tn pl f) (hL : LY ρ) (c1 : n = 0 → x = -1 ∧ CW ρ m Λ hl tl s n α κ h s2 n2 α2 κ2 t tn pl f) (c2 : ¬ n = 0 → x = n - 1 ∧ CW ρ m Λ hl tl (α (n - 1)) (n - 1) α κ h s2 n2 α2 κ2 t tn pl f) (hq : ρ = ρ9 ∧ MR m9 ∧ m9 84 0 = 0 ∧ (n = 0 → y = -1 ∧ FX [84] [0] m m9) ∧ (¬ n = 0 → n - 1 = y ∧ AcM m9 (n - 1) α ∧ MRow m9 (α (n - 1)) ∧ FX [84, 103] [0, 45] m m9)) : x = y ∧ IW (N + 1) ρ9 m9 := by
  obtain ⟨rfl, q1, q2, q3, q4⟩ := hq
  by_cases h0 : n = 0
  · have hf := FX.low (q3 h0).2 (by decide)
    exact ⟨by rw [(c1 h0).1, (q3 h0).1], IW.mk hL q1 ((c1 h0).2.low hf.1) (v.w0 (q3 h0).2) p.inc⟩
  · obtain ⟨hy, ha, hr, hx⟩ := q4 h0
    have hf := FX.low hx (by decide)
    exact ⟨by rw [(c2 h0).1, hy], IW.mk hL q1 ((c2 h0).2.low hf.1) (v.act (Or.inl rfl) hx ha hr) (p.sv (p.2.1.back h0))⟩
theorem da_C {x : Int} {P : Prop} {D : Mm} (w : CW ρ m Λ hl tl s n α κ h s2 n2 α2 κ2 t tn pl f) (v : MW m Λ hl tl s n α κ h s2 n2 α2 κ2 t tn pl f) (hL : LY ρ) (hn : 0 ≤ n ∧ n ≤ 40) (hq : qR ρ ρ9 ∧ MR m9 ∧ (P → x = -1 ∧ rfM m 1 = m9) ∧ (¬ P → D 0 0 = x ∧ ∃ m1, TripC m1 D ∧ Fr (trL (ρ 1 3)) (actKeep m 44 39) m1 ∧ momcp m1 63 39 = m9)) : LY ρ9 ∧ MR m9 ∧ MW m9 Λ hl tl s n α κ h s2 n2 α2 κ2 t tn pl f ∧ (P → x = -1 ∧ CW ρ9 m9 Λ hl tl s n α κ h s2 n2 α2 κ2 t tn pl (up f 1 (f 1 + 1))) ∧ (¬ P → x = D 0 0 ∧ CW ρ9 m9 Λ hl tl (D 0) (keepN n) (keepA n α s) κ h s2 n2 α2 κ2 t tn pl f) := by
  obtain ⟨q0, q1, q2, q3⟩ := hq
  have hld := w.ld
  have g1 : ρ9 1 3 = ρ 1 3 := q0 1 3 (by decide) (by decide)
  have g2 : ρ9 1 4 = ρ 1 4 := q0 1 4 (by decide) (by decide)
  have g3 : ρ9 37 2 = ρ 37 2 := q0 37 2 (by decide) (by decide)
  by_cases hp : P
  · obtain ⟨rfl, rfl⟩ := q2 hp
    exact ⟨hL.q q0, q1, v.high fun a h1 h2 => wr_ne (by omega), fun _ => ⟨rfl, (w.rf (k := 1) (by decide)).gen g1 g2 g3 fun a _ _ _ _ => rfl⟩, fun h9 => absurd hp h9⟩
  · obtain ⟨hx, m1, hT, hF, rfl⟩ := q3 hp
    refine ⟨hL.q q0, q1, v.high fun a h1 h2 => ?_, fun h9 => absurd h9 hp, fun _ => ⟨hx.symm, ?_⟩⟩
    · rw [momcp_ne (by omega), hF a (by unfold trL; simp only [List.mem_cons, List.not_mem_nil, or_false]; omega), keep_fr a (by simp; omega)]
    · have w1 := (w.keep hn).gen (m9 := m1) g1 g2 g3 fun a h1 h2 h3 h4 => hF a (by unfold trL; simp only [List.mem_cons, List.not_mem_nil, or_false]; omega)
      exact w1.mom (fun a ha => momcp_ne (by simp at ha; omega)) (momcp_mom hT.1 (by omega))
theorem da_M {N x y e : Int} {P : Prop} {s9 : Int → Int} (p : PW N Λ hl tl s n α κ h s2 n2 α2 κ2 t tn pl f) (v : MW m Λ hl tl s n α κ h s2 n2 α2 κ2 t tn pl f) (hL : LY ρ) (c1 : P → x = -1 ∧ CW ρ m Λ hl tl s n α κ h s2 n2 α2 κ2 t tn pl (up f 1 (f 1 + 1))) (c2 : ¬ P → x = e ∧ CW ρ m Λ hl tl s9 (keepN n) (keepA n α s) κ h s2 n2 α2 κ2 t tn pl f) (h9 : ¬ P → RwO Λ s9) (hq : ρ = ρ9 ∧ MR m9 ∧ m9 84 0 = 0 ∧ (P → y = -1 ∧ RfX m m9 1) ∧ (¬ P → e = y ∧ AcM m9 (keepN n) (keepA n α s) ∧ MRow m9 s9 ∧ FX [84, 103, 104, 105, 106, 107, 108, 109] [0, 45] m m9)) : x = y ∧ IW (N + 1) ρ9 m9 := by
  obtain ⟨rfl, q1, q2, q3, q4⟩ := hq
  by_cases hp : P
  · obtain ⟨hy, hr⟩ := q3 hp
    have hf := FX.low hr.1 (by decide)
    exact ⟨by rw [(c1 hp).1, hy], IW.mk hL q1 ((c1 hp).2.low hf.1) (v.rf (by decide) hr) p.rf⟩
  · obtain ⟨hy, ha, hr, hx⟩ := q4 hp
    have hf := FX.low hx (by decide)
    exact ⟨by rw [(c2 hp).1, hy], IW.mk hL q1 ((c2 hp).2.low hf.1) (v.act (Or.inr (Or.inr rfl)) hx ha hr) (p.sv (p.2.1.keep (h9 hp)))⟩
theorem SvO.forget (h0 : SvO Λ s n α κ) : SvO Λ s n α (wr κ 0 0 0) := ⟨h0.1, h0.2.1, h0.2.2.1, by rw [wr_same]; decide, fun i i1 i2 => absurd i2 (by rw [wr_same]; omega)⟩
theorem fo_2 {N : Int} {m1 : Mm} (p : PW N Λ hl tl s n α κ h s2 n2 α2 κ2 t tn pl f) (w : CW ρ m Λ hl tl s n α κ h s2 n2 α2 κ2 t tn pl f) (v : MW m1 Λ hl tl s n α κ h s2 n2 α2 κ2 t tn pl f) (hL : LY ρ) (h1 : wr m 46 3 0 = m1) (hq : ρ = ρ9 ∧ MR m9 ∧ m9 84 0 = 0 ∧ MSeen m9 (wr κ 0 0 0) ∧ FX [84] [0, 58] m1 m9) : IW (N + 1) ρ9 m9 := by
  obtain ⟨rfl, q1, q2, q3, q4⟩ := hq
  have hf := FX.low q4 (by decide)
  subst h1
  exact IW.mk hL q1 (w.forget.low hf.1) (v.parts q4 (by decide) (by decide) (v.2.1.x q4 (by decide)) (v.2.2.1.x q4 (by decide) (by decide)) q3 (v.2.2.2.2.1.x q4 (by decide) (by decide) (by decide) (by decide) (by decide) (by decide))) (p.sv p.2.1.forget)
theorem im_2 {N : Int} {m1 : Mm} (p : PW N Λ hl tl s n α κ h s2 n2 α2 κ2 t tn pl f) (w : CW ρ m Λ hl tl s n α κ h s2 n2 α2 κ2 t tn pl f) (v : MW m1 Λ hl tl s n α κ h s2 n2 α2 κ2 t tn pl f) (hL : LY ρ) (h1 : wr (sencp (actcp (momcp m 39 50) 44 55) 46 57) 1 9 1 = m1) (hq : ρ = ρ9 ∧ MR m9 ∧ m9 84 0 = 0 ∧ MIm m9 1 s n α κ ∧ FX [84, 119, 120, 121] [0, 63, 64, 65] m1 m9) : IW (N + 1) ρ9 m9 := by
  obtain ⟨rfl, q1, q2, q3, q4⟩ := hq
  have hf := FX.low q4 (by decide)
  subst h1
  have hs := p.2.1
  exact IW.mk hL q1 ((w.image hs.2.1.2 hs.2.2.2.1.2).low hf.1) (v.parts q4 (by decide) (by decide) (v.2.1.x q4 (by decide)) (v.2.2.1.x q4 (by decide) (by decide)) (v.2.2.2.1.x q4 (by decide) (by decide)) q3) ⟨p.1, hs, ⟨Or.inr rfl, fun _ => hs⟩, p.2.2.2.1, p.2.2.2.2.1, p.inc.2.2.2.2.2⟩
theorem re_2 {N x y : Int} {m1 : Mm} (p : PW N Λ hl tl s n α κ h s2 n2 α2 κ2 t tn pl f) (w : CW ρ m Λ hl tl s n α κ h s2 n2 α2 κ2 t tn pl f) (v : MW m1 Λ hl tl s n α κ h s2 n2 α2 κ2 t tn pl f) (hL : LY ρ) (h1 : (m 1 9 = 0 → x = 0 ∧ m = m1) ∧ (¬ (m 1 9 = 0) → x = 1 ∧ (sencp (actcp (momcp m 50 39) 55 44) 57 46) = m1)) (hq : ρ = ρ9 ∧ MR m9 ∧ m9 84 0 = 0 ∧ (h = 0 → y = 0 ∧ FX [84] [0] m1 m9) ∧ (¬ h = 0 → y = 1 ∧ MRow m9 s2 ∧ AcM m9 n2 α2 ∧ MSeen m9 κ2 ∧ FX [84, 103, 104, 116] [0, 45, 58] m1 m9)) : x = y ∧ IW (N + 1) ρ9 m9 := by
  obtain ⟨rfl, q1, q2, q3, q4⟩ := hq
  rw [w.img.1] at h1
  by_cases h0 : h = 0
  · obtain ⟨hx, rfl⟩ := h1.1 h0
    have hf := FX.low (q3 h0).2 (by decide)
    exact ⟨by rw [hx, (q3 h0).1], IW.mk hL q1 (w.low hf.1) (v.w0 (q3 h0).2) p.inc⟩
  · obtain ⟨hx, rfl⟩ := h1.2 h0
    obtain ⟨hy, a1, a2, a3, a4⟩ := q4 h0
    have hf := FX.low a4 (by decide)
    have hs := p.2.2.1.2 h0
    exact ⟨by rw [hx, hy], IW.mk hL q1 ((w.restore h0 hs.2.1.2 hs.2.2.2.1.2).low hf.1) (v.parts a4 (by decide) (by decide) a1 a2 a3 (v.2.2.2.2.1.x a4 (by decide) (by decide) (by decide) (by decide) (by decide) (by decide))) (p.sv hs)⟩
theorem fa_2 {N x y : Int} (p : PW N Λ hl tl s n α κ h s2 n2 α2 κ2 t tn pl f) (w : CW ρ m Λ hl tl s n α κ h s2 n2 α2 κ2 t tn pl f) (v : MW m Λ hl tl s n α κ h s2 n2 α2 κ2 t tn pl f) (hL : LY ρ) (h1 : m 1 2 = x) (hq : ρ = ρ9 ∧ MR m9 ∧ m9 84 0 = 0 ∧ m 84 14 = y ∧ FX [84] [0] m m9) : x = y ∧ IW (N + 1) ρ9 m9 := by
  obtain ⟨rfl, q1, q2, q3, q4⟩ := hq
  have hf := FX.low q4 (by decide)
  exact ⟨by rw [← h1, ← q3, w.2.2.2.2.2.2.2.1.2, v.2.2.2.2.2.2.1.1], IW.mk hL q1 (w.low hf.1) (v.w0 q4) p.inc⟩
end
