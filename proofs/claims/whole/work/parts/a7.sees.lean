/-! Seeing on both sides. -/
section
variable {ρ ρ9 m m9 : Mm} {Λ : Mm} {hl tl : List Int} {s : Int → Int} {n : Int} {α κ : Mm} {h : Int} {s2 : Int → Int} {n2 : Int} {α2 κ2 : Mm} {t : Int → Int} {tn pl : Int} {f : Int → Int}
theorem se_C {cd k p c y : Int} {Q : Int → Mm → Mm → Prop} (w : CW ρ m Λ hl tl s n α κ h s2 n2 α2 κ2 t tn pl f) (v : MW m Λ hl tl s n α κ h s2 n2 α2 κ2 t tn pl f) (hL : LY ρ) (hR : MR m) (hk : 0 ≤ κ 0 0) (hq : wQ cd ρ m Q k ρ9 m9) (hQ : ∀ x ρ9 m9, Q x ρ9 m9 → ρ = ρ9 ∧ MR m9 ∧ cd = 0 ∧ ((8 ≤ m 46 3 ∨ y < 0 ∨ 20 < y) → x = -1 ∧ rfM m 2 = m9) ∧ (¬ ((8 ≤ m 46 3 ∨ y < 0 ∨ 20 < y)) → m 46 3 + 1 = x ∧ (wr (wr (wr (wr m 47 (m 46 3) p) 48 (m 46 3) c) 49 (m 46 3) y) 46 3 (m 46 3 + 1)) = m9)) : LY ρ9 ∧ MR m9 ∧ k = cd ∧ MW m9 Λ hl tl s n α κ h s2 n2 α2 κ2 t tn pl f ∧ (cd ≠ 0 → CW ρ9 m9 Λ hl tl s n α κ h s2 n2 α2 κ2 t tn pl f) ∧ (cd = 0 → (8 ≤ κ 0 0 ∨ y < 0 ∨ 20 < y) → CW ρ9 m9 Λ hl tl s n α κ h s2 n2 α2 κ2 t tn pl (up f 2 (f 2 + 1)) ∧ m9 122 0 = w32 (-1)) ∧ (cd = 0 → ¬ (8 ≤ κ 0 0 ∨ y < 0 ∨ 20 < y) → CW ρ9 m9 Λ hl tl s n α (seeP κ p c y) h s2 n2 α2 κ2 t tn pl f ∧ m9 122 0 = w32 (κ 0 0 + 1)) := by
  rcases hq with ⟨h1, h2, rfl, rfl⟩ | ⟨h1, x, m1, h2, rfl⟩
  · exact ⟨hL, hR, h1, v, fun _ => w, fun h9 => absurd h9 (by omega), fun h9 => absurd h9 (by omega)⟩
  · obtain ⟨rfl, q2, q3, q4, q5⟩ := hQ x _ m1 h2
    have hs := w.see (p := p) (c := c) (y := y) hk
    have e3 : m 46 3 = κ 0 0 := w.2.2.2.2.1.1
    rw [e3] at q4 q5 hs
    refine ⟨hL, q2.wr (w32_rg _), by omega, v.high fun a h3 h4 => ?_, fun h9 => absurd q3 h9, fun _ hp => ?_, fun _ hp => ?_⟩
    · rw [wr_ne (by omega)]
      by_cases hp : (8 ≤ κ 0 0 ∨ y < 0 ∨ 20 < y)
      · rw [← (q4 hp).2]; exact wr_ne (by omega)
      · rw [← (q5 hp).2, wr_ne (by omega), wr_ne (by omega), wr_ne (by omega), wr_ne (by omega)]
    · obtain ⟨rfl, rfl⟩ := q4 hp
      exact ⟨(w.rf (by decide)).low fun a ha => wr_ne (by omega), wr_same⟩
    · obtain ⟨rfl, rfl⟩ := q5 hp
      exact ⟨hs.low fun a ha => wr_ne (by omega), wr_same⟩
theorem se_M {N cd x p c y : Int} (pw : PW N Λ hl tl s n α κ h s2 n2 α2 κ2 t tn pl f) (v : MW m Λ hl tl s n α κ h s2 n2 α2 κ2 t tn pl f) (hL : LY ρ) (c1 : cd ≠ 0 → CW ρ m Λ hl tl s n α κ h s2 n2 α2 κ2 t tn pl f) (c2 : cd = 0 → (8 ≤ κ 0 0 ∨ y < 0 ∨ 20 < y) → CW ρ m Λ hl tl s n α κ h s2 n2 α2 κ2 t tn pl (up f 2 (f 2 + 1)) ∧ m 122 0 = w32 (-1)) (c3 : cd = 0 → ¬ (8 ≤ κ 0 0 ∨ y < 0 ∨ 20 < y) → CW ρ m Λ hl tl s n α (seeP κ p c y) h s2 n2 α2 κ2 t tn pl f ∧ m 122 0 = w32 (κ 0 0 + 1)) (hin : cd = 0 → (0 ≤ p ∧ p < Λ 0 1) ∧ 0 ≤ c ∧ c < Λ 0 0)
    (hq : ρ = ρ9 ∧ MR m9 ∧ m9 84 0 = cd ∧ (cd ≠ 0 → FX [84] [0] m m9) ∧ (cd = 0 → ((8 ≤ κ 0 0 ∨ y < 0 ∨ 20 < y) → x = -1 ∧ RfX m m9 2) ∧ (¬ (8 ≤ κ 0 0 ∨ y < 0 ∨ 20 < y) → κ 0 0 + 1 = x ∧ MSeen m9 (seeP κ p c y) ∧ FX [84, 116] [0, 58] m m9))) : m9 84 0 = cd ∧ m9 122 0 = m 122 0 ∧ (cd = 0 → m 122 0 = w32 x) ∧ IW (N + 1) ρ9 m9 := by
  obtain ⟨rfl, q1, q2, q3, q4⟩ := hq
  by_cases hc : cd = 0
  · by_cases hp : (8 ≤ κ 0 0 ∨ y < 0 ∨ 20 < y)
    · obtain ⟨rfl, hr⟩ := (q4 hc).1 hp
      have hf := FX.low hr.1 (by decide)
      exact ⟨q2, by rw [hf.2], fun _ => (c2 hc hp).2, IW.mk hL q1 ((c2 hc hp).1.low hf.1) (v.rf (by decide) hr) pw.rf⟩
    · obtain ⟨rfl, hg, hx⟩ := (q4 hc).2 hp
      have hf := FX.low hx (by decide)
      exact ⟨q2, by rw [hf.2], fun _ => (c3 hc hp).2, IW.mk hL q1 ((c3 hc hp).1.low hf.1) (v.parts hx (by decide) (by decide) (v.2.1.x hx (by decide)) (v.2.2.1.x hx (by decide) (by decide)) hg (v.2.2.2.2.1.x hx (by decide) (by decide) (by decide) (by decide) (by decide) (by decide))) (pw.sv (pw.2.1.see (hin hc).1 (hin hc).2 hp))⟩
  · have hf := FX.low (q3 hc) (by decide)
    exact ⟨q2, by rw [hf.2], fun h => absurd h hc, IW.mk hL q1 ((c1 hc).low hf.1) (v.w0 (q3 hc)) pw.inc⟩
end
