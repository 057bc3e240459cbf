/-! One world for both: CW the class's cells, MW the reference's, PW what is true of the value. -/
def RwO (Λ : Mm) (s : Int → Int) : Prop := WS Λ 0 (sig0 s) ∧ ∀ c, 0 ≤ c → c < Λ 0 0 → s (26 + c) < ((2 ^ (Λ 3 c).toNat : Nat) : Int)
def SvO (Λ : Mm) (s : Int → Int) (n : Int) (α κ : Mm) : Prop := RwO Λ s ∧ (0 ≤ n ∧ n ≤ 40) ∧ (∀ k, 0 ≤ k → k < n → RwO Λ (α k)) ∧ WK Λ κ
def CW (ρ m : Mm) (Λ : Mm) (hl tl : List Int) (s : Int → Int) (n : Int) (α κ : Mm) (h : Int) (s2 : Int → Int) (n2 : Int) (α2 κ2 : Mm) (t : Int → Int) (tn pl : Int) (f : Int → Int) : Prop := ((ρ 1 3 = 3 ∧ ρ 1 4 = 20 ∨ ρ 1 3 = 20 ∧ ρ 1 4 = 3) ∧ isR4 (ρ 37 2)) ∧ LandC m (ρ 1 3) Λ hl tl ∧ MomC m 39 s ∧ ActC m 44 n α ∧ SeenC m 46 κ ∧ (m 1 9 = h ∧ (h ≠ 0 → MomC m 50 s2 ∧ ActC m 55 n2 α2 ∧ SeenC m 57 κ2)) ∧ TpC m t tn ∧ (m 1 1 = tn ∧ m 1 2 = pl) ∧ ∀ k, 0 ≤ k → k < 3 → m 61 k = f k
def MW (m : Mm) (Λ : Mm) (hl tl : List Int) (s : Int → Int) (n : Int) (α κ : Mm) (h : Int) (s2 : Int → Int) (n2 : Int) (α2 κ2 : Mm) (t : Int → Int) (tn pl : Int) (f : Int → Int) : Prop := MLand m Λ hl tl ∧ MRow m s ∧ AcM m n α ∧ MSeen m κ ∧ MIm m h s2 n2 α2 κ2 ∧ MTp m t tn ∧ (m 84 14 = pl ∧ m 84 51 = 0) ∧ (∀ k, 0 ≤ k → k < 3 → m 92 k = f k) ∧ ∀ i, 0 ≤ i → i < 9 → m 101 i = 0 ∨ m 101 i = 1
def PW (N : Int) (Λ : Mm) (hl tl : List Int) (s : Int → Int) (n : Int) (α κ : Mm) (h : Int) (s2 : Int → Int) (n2 : Int) (α2 κ2 : Mm) (t : Int → Int) (tn pl : Int) (f : Int → Int) : Prop := WL Λ ∧ SvO Λ s n α κ ∧ ((h = 0 ∨ h = 1) ∧ (h ≠ 0 → SvO Λ s2 n2 α2 κ2)) ∧ BY t ∧ (0 ≤ tn ∧ tn ≤ 700) ∧ ∀ k, 0 ≤ k → k < 3 → 0 ≤ f k ∧ f k ≤ N
theorem LandC.gen {m m9 Λ : Mm} {ld : Int} {hl tl : List Int} (h : LandC m ld Λ hl tl) (k : ∀ a, 3 ≤ a → a ≤ 30 → a ≠ ld + 8 → a ≠ ld + 11 → m9 a = m a) : LandC m9 ld Λ hl tl := by
  have hld := h.ld9
  unfold LandC RuleC at *
  rw [k ld (by omega) (by omega) (by omega) (by omega), k (ld + 1) (by omega) (by omega) (by omega) (by omega), k (ld + 2) (by omega) (by omega) (by omega) (by omega), k (ld + 3) (by omega) (by omega) (by omega) (by omega), k (ld + 4) (by omega) (by omega) (by omega) (by omega), k (ld + 5) (by omega) (by omega) (by omega) (by omega), k (ld + 6) (by omega) (by omega) (by omega) (by omega), k (ld + 6 + 1) (by omega) (by omega) (by omega) (by omega), k (ld + 9) (by omega) (by omega) (by omega) (by omega), k (ld + 9 + 1) (by omega) (by omega) (by omega) (by omega)]
  exact h
section
variable {ρ ρ9 m m9 : Mm} {Λ : Mm} {hl tl : List Int} {s : Int → Int} {n : Int} {α κ : Mm} {h : Int} {s2 : Int → Int} {n2 : Int} {α2 κ2 : Mm} {t : Int → Int} {tn pl : Int} {f : Int → Int}
theorem CW.gen (w : CW ρ m Λ hl tl s n α κ h s2 n2 α2 κ2 t tn pl f) (e1 : ρ9 1 3 = ρ 1 3) (e2 : ρ9 1 4 = ρ 1 4) (e3 : ρ9 37 2 = ρ 37 2) (k : ∀ a, 1 ≤ a → a ≤ 61 → a ≠ ρ 1 3 + 8 → a ≠ ρ 1 3 + 11 → m9 a = m a) : CW ρ9 m9 Λ hl tl s n α κ h s2 n2 α2 κ2 t tn pl f := by
  obtain ⟨⟨w0, w1⟩, w2, w3, w4, w5, ⟨w6, w7⟩, w8, w9, wa⟩ := w
  have k' : ∀ a, (1 ≤ a ∧ a ≤ 2) ∨ (37 ≤ a ∧ a ≤ 61) → m9 a = m a := fun a ha => k a (by omega) (by omega) (by omega) (by omega)
  refine ⟨⟨by rw [e1, e2]; exact w0, by rw [e3]; exact w1⟩, by rw [e1]; exact w2.gen fun a h1 h2 h3 h4 => k a (by omega) (by omega) h3 h4, w3.gen fun a h1 h2 => k' a (by omega), w4.c ⟨k' _ (by omega), k' _ (by omega)⟩, w5.c ⟨k' _ (by omega), k' _ (by omega), k' _ (by omega), k' _ (by omega)⟩, ⟨by rw [k' 1 (by omega)]; exact w6, fun h9 => ⟨(w7 h9).1.gen fun a h1 h2 => k' a (by omega), (w7 h9).2.1.c ⟨k' _ (by omega), k' _ (by omega)⟩, (w7 h9).2.2.c ⟨k' _ (by omega), k' _ (by omega), k' _ (by omega), k' _ (by omega)⟩⟩⟩, fun j j1 j2 => by rw [k' 2 (by omega)]; exact w8 j j1 j2, by rw [k' 1 (by omega)]; exact w9, fun j j1 j2 => by rw [k' 61 (by omega)]; exact wa j j1 j2⟩
theorem CW.low (w : CW ρ m Λ hl tl s n α κ h s2 n2 α2 κ2 t tn pl f) (k : ∀ a, a < 84 → m9 a = m a) : CW ρ m9 Λ hl tl s n α κ h s2 n2 α2 κ2 t tn pl f := w.gen rfl rfl rfl fun a _ h2 _ _ => k a (by omega)
theorem CW.q (w : CW ρ m Λ hl tl s n α κ h s2 n2 α2 κ2 t tn pl f) (kr : qR ρ ρ9) (k : qM (ρ 1 3) m m9) : CW ρ9 m9 Λ hl tl s n α κ h s2 n2 α2 κ2 t tn pl f := w.gen (kr 1 3 (by decide) (by decide)) (kr 1 4 (by decide) (by decide)) (kr 37 2 (by decide) (by decide)) fun a _ h2 h3 h4 => k a (by omega) h3 h4
theorem CW.ld (w : CW ρ m Λ hl tl s n α κ h s2 n2 α2 κ2 t tn pl f) : ρ 1 3 = 3 ∨ ρ 1 3 = 20 := by have := w.1.1; omega
theorem MW.gen (w : MW m Λ hl tl s n α κ h s2 n2 α2 κ2 t tn pl f) (k : ∀ a, 85 ≤ a → a ≤ 121 → a ∉ mC → m9 a = m a) (k4 : ∀ j, j ≠ 0 → j ≠ 62 → m9 84 j = m 84 j) (k3 : ∀ j, 0 ≤ j → j < 35 → m9 103 j = m 103 j) : MW m9 Λ hl tl s n α κ h s2 n2 α2 κ2 t tn pl f := by
  obtain ⟨w0, w1, w2, w3, w4, w5, w6, w7, w8⟩ := w
  refine ⟨w0.eq (fun j h1 h2 => k4 j (by omega) (by omega)) (fun a h1 h2 => k a h1 (by omega) (by simp [mC]; omega)), fun j j1 j2 => (k3 j j1 j2).trans (w1 j j1 j2), ?_, ?_, ?_, ?_, ?_, ?_, ?_⟩
  · unfold AcM at *
    rw [k4 45 (by decide) (by decide), k 104 (by decide) (by decide) (by decide)]; exact w2
  · unfold MSeen at *
    rw [k4 58 (by decide) (by decide), k 116 (by decide) (by decide) (by decide)]; exact w3
  · unfold MIm at *
    rw [k4 63 (by decide) (by decide), k4 64 (by decide) (by decide), k4 65 (by decide) (by decide), k 119 (by decide) (by decide) (by decide), k 120 (by decide) (by decide) (by decide), k 121 (by decide) (by decide) (by decide)]; exact w4
  · unfold MTp at *
    rw [k4 12 (by decide) (by decide), k 91 (by decide) (by decide) (by decide)]; exact w5
  · rw [k4 14 (by decide) (by decide), k4 51 (by decide) (by decide)]; exact w6
  · rw [k 92 (by decide) (by decide) (by decide)]; exact w7
  · rw [k 101 (by decide) (by decide) (by decide)]; exact w8
theorem MW.high (w : MW m Λ hl tl s n α κ h s2 n2 α2 κ2 t tn pl f) (k : ∀ a, 84 ≤ a → a ≤ 121 → m9 a = m a) : MW m9 Λ hl tl s n α κ h s2 n2 α2 κ2 t tn pl f := w.gen (fun a h1 h2 _ => k a (by omega) h2) (fun j _ _ => by rw [k 84 (by decide) (by decide)]) (fun j _ _ => by rw [k 103 (by decide) (by decide)])
theorem MW.k (w : MW m Λ hl tl s n α κ h s2 n2 α2 κ2 t tn pl f) (k : mK m m9) : MW m9 Λ hl tl s n α κ h s2 n2 α2 κ2 t tn pl f := w.gen (fun a _ _ h3 => k.1 a h3) k.2.1 k.2.2
theorem mK.low (k : mK m m9) {a : Int} (ha : a < 84) : m9 a = m a := k.1 a (by simp [mC]; omega)
end
