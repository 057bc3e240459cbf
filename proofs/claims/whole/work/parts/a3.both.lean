/-! An act on both sides. -/
def IW (N : Int) (ρ m : Mm) : Prop := LY ρ ∧ MR m ∧ ∃ (Λ : Mm) (hl tl : List Int) (s : Int → Int) (n : Int) (α κ : Mm) (h : Int) (s2 : Int → Int) (n2 : Int) (α2 κ2 : Mm) (t : Int → Int) (tn pl : Int) (f : Int → Int), CW ρ m Λ hl tl s n α κ h s2 n2 α2 κ2 t tn pl f ∧ MW m Λ hl tl s n α κ h s2 n2 α2 κ2 t tn pl f ∧ PW N Λ hl tl s n α κ h s2 n2 α2 κ2 t tn pl f
section
variable {ρ ρ9 m m9 : Mm} {Λ : Mm} {hl tl : List Int} {s : Int → Int} {n : Int} {α κ : Mm} {h : Int} {s2 : Int → Int} {n2 : Int} {α2 κ2 : Mm} {t : Int → Int} {tn pl : Int} {f : Int → Int}
theorem IW.mk {N : Int} (hL : LY ρ) (hR : MR m) (w : CW ρ m Λ hl tl s n α κ h s2 n2 α2 κ2 t tn pl f) (v : MW m Λ hl tl s n α κ h s2 n2 α2 κ2 t tn pl f) (p : PW N Λ hl tl s n α κ h s2 n2 α2 κ2 t tn pl f) : IW N ρ m := ⟨hL, hR, Λ, hl, tl, s, n, α, κ, h, s2, n2, α2, κ2, t, tn, pl, f, w, v, p⟩
theorem PW.inc {N : Int} (p : PW N Λ hl tl s n α κ h s2 n2 α2 κ2 t tn pl f) : PW (N + 1) Λ hl tl s n α κ h s2 n2 α2 κ2 t tn pl f := ⟨p.1, p.2.1, p.2.2.1, p.2.2.2.1, p.2.2.2.2.1, fun k k1 k2 => by have := p.2.2.2.2.2 k k1 k2; omega⟩
theorem PW.rf {N kk : Int} (p : PW N Λ hl tl s n α κ h s2 n2 α2 κ2 t tn pl f) : PW (N + 1) Λ hl tl s n α κ h s2 n2 α2 κ2 t tn pl (up f kk (f kk + 1)) := ⟨p.1, p.2.1, p.2.2.1, p.2.2.2.1, p.2.2.2.2.1, fun k k1 k2 => by
  have h0 := p.2.2.2.2.2 k k1 k2
  by_cases e : k = kk
  · rw [e, up_at]; rw [e] at h0; omega
  · rw [up_ne e]; omega⟩
theorem PW.sv {N n9 : Int} {s9 : Int → Int} {α9 κ9 : Mm} (p : PW N Λ hl tl s n α κ h s2 n2 α2 κ2 t tn pl f) (h9 : SvO Λ s9 n9 α9 κ9) : PW (N + 1) Λ hl tl s9 n9 α9 κ9 h s2 n2 α2 κ2 t tn pl f := ⟨p.1, h9, p.2.2.1, p.2.2.2.1, p.2.2.2.2.1, fun k k1 k2 => by have := p.2.2.2.2.2 k k1 k2; omega⟩
theorem ac_C {cd k e e0 kk : Int} {P : Prop} {Q : Int → Mm → Mm → Prop} {Mk : Mm} {s9 : Int → Int} (w : CW ρ m Λ hl tl s n α κ h s2 n2 α2 κ2 t tn pl f) (v : MW m Λ hl tl s n α κ h s2 n2 α2 κ2 t tn pl f) (hL : LY ρ) (hR : MR m) (hkk : 0 ≤ kk ∧ kk < 3) (hq : wQ cd ρ m Q k ρ9 m9) (hQ : ∀ x ρ9 m9, Q x ρ9 m9 → ρ = ρ9 ∧ MR m9 ∧ cd = 0 ∧ (P → x = e0 ∧ rfM m kk = m9) ∧ (¬ P → x = e ∧ Mk = m9)) (hM : cd = 0 → ¬ P → CW ρ Mk Λ hl tl s9 (keepN n) (keepA n α s) κ h s2 n2 α2 κ2 t tn pl f) (hH : ∀ a, 84 ≤ a → Mk a = m a) : LY ρ9 ∧ MR m9 ∧ k = cd ∧ MW m9 Λ hl tl s n α κ h s2 n2 α2 κ2 t tn pl f ∧ (cd ≠ 0 → CW ρ9 m9 Λ hl tl s n α κ h s2 n2 α2 κ2 t tn pl f) ∧ (cd = 0 → P → CW ρ9 m9 Λ hl tl s n α κ h s2 n2 α2 κ2 t tn pl (up f kk (f kk + 1)) ∧ m9 122 0 = w32 e0) ∧ (cd = 0 → ¬ P → CW ρ9 m9 Λ hl tl s9 (keepN n) (keepA n α s) κ h s2 n2 α2 κ2 t tn pl f ∧ m9 122 0 = w32 e) := by
  rcases hq with ⟨h1, h2, rfl, rfl⟩ | ⟨h1, x, m1, h2, rfl⟩
  · exact ⟨hL, hR, h1, v, fun _ => w, fun h9 => absurd h9 (by omega), fun h9 => absurd h9 (by omega)⟩
  · obtain ⟨rfl, q2, q3, q4, q5⟩ := hQ x _ m1 h2
    refine ⟨hL, q2.wr (w32_rg _), by omega, v.high fun a h3 h4 => ?_, fun h9 => absurd q3 h9, fun _ hp => ?_, fun _ hp => ?_⟩
    · rw [wr_ne (by omega)]
      by_cases hp : P
      · rw [← (q4 hp).2]; exact wr_ne (by omega)
      · rw [← (q5 hp).2]; exact hH a h3
    · obtain ⟨rfl, rfl⟩ := q4 hp
      exact ⟨(w.rf hkk).low fun a ha => wr_ne (by omega), wr_same⟩
    · obtain ⟨rfl, rfl⟩ := q5 hp
      exact ⟨(hM q3 hp).low fun a ha => wr_ne (by omega), wr_same⟩
theorem FX.low {L ks : List Int} (k : FX L ks m m9) (hL : ∀ x ∈ L, 84 ≤ x ∧ x ≤ 121) : (∀ a, a < 84 → m9 a = m a) ∧ m9 122 = m 122 := ⟨fun a ha => k.1 a fun h9 => by have := hL a h9; omega, k.1 122 fun h9 => by have := hL 122 h9; omega⟩
theorem MW.w0 (v : MW m Λ hl tl s n α κ h s2 n2 α2 κ2 t tn pl f) (k : FX [84] [0] m m9) : MW m9 Λ hl tl s n α κ h s2 n2 α2 κ2 t tn pl f := v.gen (fun a h1 h2 _ => k.1 a (by simp; omega)) (fun j h1 _ => k.2 j (by simp; omega)) (fun j _ _ => by rw [k.1 103 (by decide)])
theorem ac_M {N cd x e e0 kk : Int} {P : Prop} {s9 : Int → Int} (p : PW N Λ hl tl s n α κ h s2 n2 α2 κ2 t tn pl f) (v : MW m Λ hl tl s n α κ h s2 n2 α2 κ2 t tn pl f) (hL : LY ρ) (hkk : 0 ≤ kk ∧ kk < 3) (c1 : cd ≠ 0 → CW ρ m Λ hl tl s n α κ h s2 n2 α2 κ2 t tn pl f) (c2 : cd = 0 → P → CW ρ m Λ hl tl s n α κ h s2 n2 α2 κ2 t tn pl (up f kk (f kk + 1)) ∧ m 122 0 = w32 e0) (c3 : cd = 0 → ¬ P → CW ρ m Λ hl tl s9 (keepN n) (keepA n α s) κ h s2 n2 α2 κ2 t tn pl f ∧ m 122 0 = w32 e) (h9 : cd = 0 → ¬ P → RwO Λ s9) {L : List Int} (hl : L = [84, 103] ∨ L = [84, 103, 104] ∨ L = [84, 103, 104, 105, 106, 107, 108, 109])
    (hq : ρ = ρ9 ∧ MR m9 ∧ m9 84 0 = cd ∧ (cd ≠ 0 → FX [84] [0] m m9) ∧ (cd = 0 → (P → x = e0 ∧ RfX m m9 kk) ∧ (¬ P → x = e ∧ AcM m9 (keepN n) (keepA n α s) ∧ MRow m9 s9 ∧ FX L [0, 45] m m9))) : m9 84 0 = cd ∧ m9 122 0 = m 122 0 ∧ (cd = 0 → m 122 0 = w32 x) ∧ IW (N + 1) ρ9 m9 := by
  obtain ⟨rfl, q1, q2, q3, q4⟩ := hq
  by_cases hc : cd = 0
  · by_cases hp : P
    · obtain ⟨rfl, hr⟩ := (q4 hc).1 hp
      have hf := FX.low hr.1 (by decide)
      exact ⟨q2, by rw [hf.2], fun _ => (c2 hc hp).2, IW.mk hL q1 ((c2 hc hp).1.low hf.1) (v.rf hkk hr) p.rf⟩
    · obtain ⟨rfl, ha, hr, hx⟩ := (q4 hc).2 hp
      have hf := FX.low hx (by rcases hl with rfl | rfl | rfl <;> decide)
      exact ⟨q2, by rw [hf.2], fun _ => (c3 hc hp).2, IW.mk hL q1 ((c3 hc hp).1.low hf.1) (v.act hl hx ha hr) (p.sv (p.2.1.keep (h9 hc hp)))⟩
  · have hf := FX.low (q3 hc) (by decide)
    exact ⟨q2, by rw [hf.2], fun h => absurd h hc, IW.mk hL q1 ((c1 hc).low hf.1) (v.w0 (q3 hc)) p.inc⟩
/-- reading on both sides -/
theorem rd_2 {N cd x y : Int} {A : Int → Prop} (hA : ∀ x y, A x → A y → x = y) (p : PW N Λ hl tl s n α κ h s2 n2 α2 κ2 t tn pl f) (w : CW ρ m Λ hl tl s n α κ h s2 n2 α2 κ2 t tn pl f) (v : MW m Λ hl tl s n α κ h s2 n2 α2 κ2 t tn pl f) (hL : LY ρ) (h1 : cd = 0 → ∃ x, A x ∧ m 122 0 = w32 x) (hq : ρ = ρ9 ∧ MR m9 ∧ mK m m9 ∧ m9 84 0 = cd ∧ (cd = 0 → A x)) : m9 84 0 = cd ∧ m9 122 0 = m 122 0 ∧ (cd = 0 → m 122 0 = w32 x) ∧ IW (N + 1) ρ9 m9 := by
  obtain ⟨a1, a2, a3, a4, a5, a6, a7⟩ := rd_M w v hL hq
  refine ⟨a5, a6, fun hc => ?_, IW.mk a1 a2 a3 a4 p.inc⟩
  obtain ⟨z, z1, z2⟩ := h1 hc
  rw [z2, hA z x z1 (a7 hc)]
end
