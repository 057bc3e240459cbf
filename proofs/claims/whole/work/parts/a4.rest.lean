/-! Undoing, days, image, seeing: on both sides. -/
section
variable {ρ ρ9 m m9 : Mm} {Λ : Mm} {hl tl : List Int} {s : Int → Int} {n : Int} {α κ : Mm} {h : Int} {s2 : Int → Int} {n2 : Int} {α2 κ2 : Mm} {t : Int → Int} {tn pl : Int} {f : Int → Int}
theorem CW.parts (w : CW ρ m Λ hl tl s n α κ h s2 n2 α2 κ2 t tn pl f) {s9 : Int → Int} {n9 : Int} {α9 κ9 : Mm} {h9 : Int} {s8 : Int → Int} {n8 : Int} {α8 κ8 : Mm} (e : ∀ a, 2 ≤ a → a ≤ 38 → m9 a = m a) (e6 : m9 61 = m 61) (e1 : m9 1 1 = m 1 1 ∧ m9 1 2 = m 1 2) (hs : MomC m9 39 s9) (ha : ActC m9 44 n9 α9) (hk : SeenC m9 46 κ9) (hi : m9 1 9 = h9 ∧ (h9 ≠ 0 → MomC m9 50 s8 ∧ ActC m9 55 n8 α8 ∧ SeenC m9 57 κ8)) : CW ρ m9 Λ hl tl s9 n9 α9 κ9 h9 s8 n8 α8 κ8 t tn pl f := by
  obtain ⟨⟨w0, w1⟩, w2, w3, w4, w5, ⟨w6, w7⟩, w8, w9, wa⟩ := w
  have hld : ρ 1 3 = 3 ∨ ρ 1 3 = 20 := by omega
  exact ⟨⟨w0, w1⟩, w2.gen fun a h1 h2 h3 h4 => e a (by omega) (by omega), hs, ha, hk, hi, fun j j1 j2 => by rw [e 2 (by omega) (by omega)]; exact w8 j j1 j2, by rw [e1.1, e1.2]; exact w9, fun j j1 j2 => by rw [e6]; exact wa j j1 j2⟩
theorem MW.parts (v : MW m Λ hl tl s n α κ h s2 n2 α2 κ2 t tn pl f) {s9 : Int → Int} {n9 : Int} {α9 κ9 : Mm} {h9 : Int} {s8 : Int → Int} {n8 : Int} {α8 κ8 : Mm} {L ks : List Int} (x1 : FX L ks m m9) (hll : ∀ x ∈ L, x ∈ [(84 : Int), 103, 104, 105, 106, 107, 108, 109, 116, 119, 120, 121]) (hk : ∀ x ∈ ks, x ∈ [(0 : Int), 45, 58, 63, 64, 65]) (hs : MRow m9 s9) (ha : AcM m9 n9 α9) (hg : MSeen m9 κ9) (hi : MIm m9 h9 s8 n8 α8 κ8) : MW m9 Λ hl tl s9 n9 α9 κ9 h9 s8 n8 α8 κ8 t tn pl f := by
  obtain ⟨v0, v1, v2, v3, v4, v5, v6, v7, v8⟩ := v
  have nl : ∀ a, a ∉ [(84 : Int), 103, 104, 105, 106, 107, 108, 109, 116, 119, 120, 121] → a ∉ L := fun a h1 h2 => h1 (hll a h2)
  have nk : ∀ a, a ∉ [(0 : Int), 45, 58, 63, 64, 65] → a ∉ ks := fun a h1 h2 => h1 (hk a h2)
  exact ⟨v0.x x1 (fun x hx => by have := hll x hx; simp at this; omega) (fun x hx => by have := hk x hx; simp at this; omega), hs, ha, hg, hi, v5.x x1 (nk _ (by decide)) (nl _ (by decide)), by rw [x1.2 14 (nk _ (by decide)), x1.2 51 (nk _ (by decide))]; exact v6, by rw [x1.1 92 (nl _ (by decide))]; exact v7, by rw [x1.1 101 (nl _ (by decide))]; exact v8⟩
theorem MIm.x {L ks : List Int} (v4 : MIm m h s2 n2 α2 κ2) (x1 : FX L ks m m9) (k1 : (63 : Int) ∉ ks) (k2 : (64 : Int) ∉ ks) (k3 : (65 : Int) ∉ ks) (l1 : (119 : Int) ∉ L) (l2 : (120 : Int) ∉ L) (l3 : (121 : Int) ∉ L) : MIm m9 h s2 n2 α2 κ2 := by
  unfold MIm at *
  rw [x1.2 63 k1, x1.2 64 k2, x1.2 65 k3, x1.1 119 l1, x1.1 120 l2, x1.1 121 l3]; exact v4
theorem CW.img (w : CW ρ m Λ hl tl s n α κ h s2 n2 α2 κ2 t tn pl f) : m 1 9 = h ∧ (h ≠ 0 → MomC m 50 s2 ∧ ActC m 55 n2 α2 ∧ SeenC m 57 κ2) := w.2.2.2.2.2.1
theorem CW.back (w : CW ρ m Λ hl tl s n α κ h s2 n2 α2 κ2 t tn pl f) (hn : 0 < n) : CW ρ (actBack m 44 39) Λ hl tl (α (n - 1)) (n - 1) α κ h s2 n2 α2 κ2 t tn pl f := by
  have hb := back_act w.2.2.2.1 hn
  have e : ∀ a, (a < 39 ∨ 44 < a) → actBack m 44 39 a = m a := fun a h1 => hb.2.2 a (by simp; omega)
  refine w.parts (fun a h1 h2 => e a (by omega)) (e 61 (by omega)) (by rw [e 1 (by omega)]; exact ⟨rfl, rfl⟩) hb.2.1 hb.1 (w.2.2.2.2.1.c ⟨e _ (by omega), e _ (by omega), e _ (by omega), e _ (by omega)⟩) ⟨by rw [e 1 (by omega)]; exact w.img.1, fun h9 => ⟨(w.img.2 h9).1.gen fun a h1 h2 => e a (by omega), (w.img.2 h9).2.1.c ⟨e _ (by omega), e _ (by omega)⟩, (w.img.2 h9).2.2.c ⟨e _ (by omega), e _ (by omega), e _ (by omega), e _ (by omega)⟩⟩⟩
theorem CW.forget (w : CW ρ m Λ hl tl s n α κ h s2 n2 α2 κ2 t tn pl f) : CW ρ (wr m 46 3 0) Λ hl tl s n α (wr κ 0 0 0) h s2 n2 α2 κ2 t tn pl f := by
  have e : ∀ a, a ≠ 46 → wr m 46 3 0 a = m a := fun a h1 => wr_ne h1
  refine w.parts (fun a h1 h2 => e a (by omega)) (e 61 (by omega)) (by rw [e 1 (by omega)]; exact ⟨rfl, rfl⟩) (w.2.2.1.gen fun a h1 h2 => e a (by omega)) (w.2.2.2.1.c ⟨e _ (by omega), e _ (by omega)⟩) ⟨by rw [wr_same, wr_same], fun i i1 i2 => absurd i2 (by rw [wr_same]; omega)⟩ ⟨by rw [e 1 (by omega)]; exact w.img.1, fun h9 => ⟨(w.img.2 h9).1.gen fun a h1 h2 => e a (by omega), (w.img.2 h9).2.1.c ⟨e _ (by omega), e _ (by omega)⟩, (w.img.2 h9).2.2.c ⟨e _ (by omega), e _ (by omega), e _ (by omega), e _ (by omega)⟩⟩⟩
theorem CW.image (w : CW ρ m Λ hl tl s n α κ h s2 n2 α2 κ2 t tn pl f) (hn : n ≤ 40) (hk : κ 0 0 ≤ 8) : CW ρ (wr (sencp (actcp (momcp m 39 50) 44 55) 46 57) 1 9 1) Λ hl tl s n α κ 1 s n α κ t tn pl f := by
  obtain ⟨M, eM⟩ : ∃ M, M = sencp (actcp (momcp m 39 50) 44 55) 46 57 := ⟨_, rfl⟩
  rw [← eM]
  have e : ∀ a, (a < 50 ∨ 60 < a) → M a = m a := fun a h1 => by rw [eM, sencp_ne (by omega), actcp_ne (by omega), momcp_ne (by omega)]
  have f : ∀ a, a ≠ 1 → wr M 1 9 1 a = M a := fun a h1 => wr_ne h1
  have g : ∀ a, a ≠ 1 → (a < 50 ∨ 60 < a) → wr M 1 9 1 a = m a := fun a h1 h2 => (f a h1).trans (e a h2)
  have c1 : MomC M 50 s := by
    rw [eM]
    exact (momcp_mom (r := 50) w.2.2.1 (by omega)).gen fun a h1 h2 => by rw [sencp_ne (by omega), actcp_ne (by omega)]
  have c2 : ActC M 55 n α := by
    rw [eM]
    exact (actcp_act (q := 55) (w.2.2.2.1.c (m9 := momcp m 39 50) ⟨momcp_ne (by omega), momcp_ne (by omega)⟩) hn).c ⟨sencp_ne (by omega), sencp_ne (by omega)⟩
  have c3 : SeenC M 57 κ := by
    rw [eM]
    exact sencp_seen (w.2.2.2.2.1.c ⟨by rw [actcp_ne (by omega), momcp_ne (by omega)], by rw [actcp_ne (by omega), momcp_ne (by omega)], by rw [actcp_ne (by omega), momcp_ne (by omega)], by rw [actcp_ne (by omega), momcp_ne (by omega)]⟩) hk (by omega)
  exact w.parts (fun a h1 h2 => g a (by omega) (by omega)) (g 61 (by omega) (by omega)) ⟨by rw [wr_at, if_neg (by decide), e 1 (by omega)], by rw [wr_at, if_neg (by decide), e 1 (by omega)]⟩ (w.2.2.1.gen fun a h1 h2 => g a (by omega) (by omega)) (w.2.2.2.1.c ⟨g _ (by omega) (by omega), g _ (by omega) (by omega)⟩) (w.2.2.2.2.1.c ⟨g _ (by omega) (by omega), g _ (by omega) (by omega), g _ (by omega) (by omega), g _ (by omega) (by omega)⟩) ⟨wr_same, fun _ => ⟨c1.gen fun a h1 h2 => f a (by omega), c2.c ⟨f _ (by omega), f _ (by omega)⟩, c3.c ⟨f _ (by omega), f _ (by omega), f _ (by omega), f _ (by omega)⟩⟩⟩
theorem CW.restore (w : CW ρ m Λ hl tl s n α κ h s2 n2 α2 κ2 t tn pl f) (h1 : h ≠ 0) (hn : n2 ≤ 40) (hk : κ2 0 0 ≤ 8) : CW ρ (sencp (actcp (momcp m 50 39) 55 44) 57 46) Λ hl tl s2 n2 α2 κ2 h s2 n2 α2 κ2 t tn pl f := by
  obtain ⟨M, eM⟩ : ∃ M, M = sencp (actcp (momcp m 50 39) 55 44) 57 46 := ⟨_, rfl⟩
  rw [← eM]
  have hi := w.img.2 h1
  have e : ∀ a, (a < 39 ∨ 49 < a) → M a = m a := fun a h1 => by rw [eM, sencp_ne (by omega), actcp_ne (by omega), momcp_ne (by omega)]
  have c1 : MomC M 39 s2 := by
    rw [eM]
    exact (momcp_mom (r := 39) hi.1 (by omega)).gen fun a h1 h2 => by rw [sencp_ne (by omega), actcp_ne (by omega)]
  have c2 : ActC M 44 n2 α2 := by
    rw [eM]
    exact (actcp_act (q := 44) (hi.2.1.c (m9 := momcp m 50 39) ⟨momcp_ne (by omega), momcp_ne (by omega)⟩) hn).c ⟨sencp_ne (by omega), sencp_ne (by omega)⟩
  have c3 : SeenC M 46 κ2 := by
    rw [eM]
    exact sencp_seen (hi.2.2.c ⟨by rw [actcp_ne (by omega), momcp_ne (by omega)], by rw [actcp_ne (by omega), momcp_ne (by omega)], by rw [actcp_ne (by omega), momcp_ne (by omega)], by rw [actcp_ne (by omega), momcp_ne (by omega)]⟩) hk (by omega)
  exact w.parts (fun a h1 h2 => e a (by omega)) (e 61 (by omega)) (by rw [e 1 (by omega)]; exact ⟨rfl, rfl⟩) c1 c2 c3 ⟨by rw [e 1 (by omega)]; exact w.img.1, fun h9 => ⟨hi.1.gen fun a h1 h2 => e a (by omega), hi.2.1.c ⟨e _ (by omega), e _ (by omega)⟩, hi.2.2.c ⟨e _ (by omega), e _ (by omega), e _ (by omega), e _ (by omega)⟩⟩⟩
end
