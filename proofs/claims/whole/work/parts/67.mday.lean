/-! The reference: its land, its state, a person's turn. -/
def MRule (m : Mm) (a : Int) (L : List Int) : Prop := RW L ∧ ((L = [] ∧ a = -1) ∨ (L ≠ [] ∧ CodeC m a L))
def MLand (m Λ : Mm) (hl tl : List Int) : Prop := m 84 1 = Λ 0 0 ∧ m 84 2 = Λ 0 1 ∧ (∀ c, 0 ≤ c → c < Λ 0 0 → m 85 c = Λ 1 c ∧ m 86 c = Λ 2 c ∧ m 87 c = Λ 3 c) ∧ (∀ c r, 0 ≤ c → c < Λ 0 0 → 0 ≤ r → r < Λ 3 c → m 88 (5 * c + r) = Λ 4 (c * 5 + r)) ∧ (∀ p, 0 ≤ p → p < Λ 0 1 → m 89 p = Λ 5 p) ∧ MRule m (m 84 3) hl ∧ MRule m (m 84 4) tl
def MT (m : Mm) (b : Int) (Λ e σ : Mm) : Prop := (∀ k, 0 ≤ k → k < 35 → m 103 (b + k) = σ 0 k) ∧ (∀ p, 0 ≤ p → p < 8 → m 107 p = w32 (σ 1 p + e 1 p)) ∧ (∀ j, 0 ≤ j → j < 45 → m 105 j = w32 (σ 2 j + e 2 j)) ∧ ∀ c, 0 ≤ c → c < 9 → m 106 c = w32 (tkN Λ σ c (Λ 0 0).toNat * Λ 1 c + e 3 c)
theorem CodeC.eq {m m9 : Mm} {a : Int} {L : List Int} (h : CodeC m a L) (e : m9 90 = m 90) : CodeC m9 a L := by
  unfold CodeC at h ⊢
  rw [e]
  exact h
theorem MLand.eq {m m9 Λ : Mm} {hl tl : List Int} (h : MLand m Λ hl tl) (e : ∀ k, 1 ≤ k → k ≤ 4 → m9 84 k = m 84 k) (e2 : ∀ a, 85 ≤ a → a ≤ 90 → m9 a = m a) : MLand m9 Λ hl tl := by
  have e85 := e2 85 (by decide) (by decide)
  have e86 := e2 86 (by decide) (by decide)
  have e87 := e2 87 (by decide) (by decide)
  have e88 := e2 88 (by decide) (by decide)
  have e89 := e2 89 (by decide) (by decide)
  have e90 := e2 90 (by decide) (by decide)
  obtain ⟨h1, h2, h3, h4, h5, h6, h7⟩ := h
  unfold MLand
  rw [e 1 (by decide) (by decide), e 2 (by decide) (by decide), e 3 (by decide) (by decide), e 4 (by decide) (by decide), e85, e86, e87, e88, e89]
  exact ⟨h1, h2, h3, h4, h5, ⟨h6.1, h6.2.imp_right fun h => ⟨h.1, h.2.eq e90⟩⟩, ⟨h7.1, h7.2.imp_right fun h => ⟨h.1, h.2.eq e90⟩⟩⟩
theorem MLand.fr {m m9 Λ : Mm} {hl tl : List Int} {L : List Int} (h : MLand m Λ hl tl) (k : Fr L m m9) (hL : ∀ x ∈ L, 91 ≤ x) : MLand m9 Λ hl tl := h.eq (fun k1 _ _ => by rw [k 84 fun h9 => by have := hL _ h9; omega]) fun a _ h2 => k a fun h9 => by
  have := hL _ h9
  omega
theorem w32_w (x y : Int) : w32 (w32 x + y) = w32 (x + y) := by
  show (Int32.ofInt ((Int32.ofInt x).toInt + y)).toInt = (Int32.ofInt (x + y)).toInt
  rw [Int32.ofInt_add, Int32.ofInt_add, Int32.ofInt_toInt]
theorem tkR_v {Λ σ : Mm} {c a v k : Int} : ∀ n : Nat, tkR Λ σ c a (v + k) n = tkR Λ σ c a v n + k
  | 0 => rfl
  | n + 1 => by
    have ih := tkR_v (Λ := Λ) (σ := σ) (c := c) (a := a) (v := v) (k := k) n
    show (if Λ 4 (a * 5 + (n : Int)) = c then tkR Λ σ c a (v + k) n + σ 2 (a * 5 + (n : Int)) else tkR Λ σ c a (v + k) n) = (if Λ 4 (a * 5 + (n : Int)) = c then tkR Λ σ c a v n + σ 2 (a * 5 + (n : Int)) else tkR Λ σ c a v n) + k
    rw [ih]
    split <;> omega
def dlt (P : Prop) [Decidable P] : Int := if P then 1 else 0
theorem tkR_w {Λ σ : Mm} {d a v c r : Int} (hr : 0 ≤ r ∧ r < 5) (ha : 0 ≤ a) (hc : 0 ≤ c) : ∀ n : Nat, n ≤ 5 → tkR Λ (wr σ 2 (c * 5 + r) (σ 2 (c * 5 + r) + 1)) d a v n = tkR Λ σ d a v n + (if a = c ∧ r < n ∧ Λ 4 (c * 5 + r) = d then 1 else 0)
  | 0, _ => by
    rw [if_neg (by omega)]
    exact (Int.add_zero _).symm
  | n + 1, h => by
    have ih := tkR_w (Λ := Λ) (σ := σ) (d := d) (a := a) (v := v) hr ha hc n (by omega)
    show (if Λ 4 (a * 5 + (n : Int)) = d then tkR Λ (wr σ 2 (c * 5 + r) (σ 2 (c * 5 + r) + 1)) d a v n + wr σ 2 (c * 5 + r) (σ 2 (c * 5 + r) + 1) 2 (a * 5 + (n : Int)) else tkR Λ (wr σ 2 (c * 5 + r) (σ 2 (c * 5 + r) + 1)) d a v n) = (if Λ 4 (a * 5 + (n : Int)) = d then tkR Λ σ d a v n + σ 2 (a * 5 + (n : Int)) else tkR Λ σ d a v n) + _
    rw [ih, wr_at]
    by_cases e : a * 5 + (n : Int) = c * 5 + r
    · have e1 : a = c := by omega
      have e2 : r = (n : Int) := by omega
      rw [if_pos e, e]
      by_cases e3 : Λ 4 (c * 5 + r) = d
      · rw [if_pos e3, if_pos e3, if_neg (by omega), if_pos ⟨e1, by omega, e3⟩]
        omega
      · rw [if_neg e3, if_neg e3, if_neg fun h9 => e3 h9.2.2, if_neg fun h9 => e3 h9.2.2]
    · rw [if_neg e]
      have e9 : (a = c ∧ r < ((n + 1 : Nat) : Int) ∧ Λ 4 (c * 5 + r) = d) ↔ (a = c ∧ r < (n : Int) ∧ Λ 4 (c * 5 + r) = d) := by
        constructor
        · intro h9; exact ⟨h9.1, by have := h9.1; have := h9.2.1; omega, h9.2.2⟩
        · intro h9; exact ⟨h9.1, by have := h9.2.1; omega, h9.2.2⟩
      by_cases e8 : a = c ∧ r < (n : Int) ∧ Λ 4 (c * 5 + r) = d
      · rw [if_pos e8, if_pos (e9.mpr e8)]
        split <;> omega
      · rw [if_neg e8, if_neg fun h9 => e8 (e9.mp h9)]
        split <;> omega
theorem tkN_w {Λ σ : Mm} {d c r : Int} (hW : WL Λ) (hc : 0 ≤ c ∧ c < Λ 0 0) (hr : 0 ≤ r ∧ r < Λ 3 c) : ∀ n : Nat, n ≤ (Λ 0 0).toNat → tkN Λ (wr σ 2 (c * 5 + r) (σ 2 (c * 5 + r) + 1)) d n = tkN Λ σ d n + (if c < n ∧ Λ 4 (c * 5 + r) = d then 1 else 0)
  | 0, _ => by
    rw [if_neg (by omega)]
    rfl
  | n + 1, h => by
    have ih := tkN_w (d := d) (σ := σ) hW hc hr n (by omega)
    have hn := hW.2.2.1 (n : Int) (by omega) (by omega)
    have hcc := hW.2.2.1 c hc.1 hc.2
    show tkR Λ (wr σ 2 (c * 5 + r) (σ 2 (c * 5 + r) + 1)) d (n : Int) (tkN Λ (wr σ 2 (c * 5 + r) (σ 2 (c * 5 + r) + 1)) d n) (Λ 3 (n : Int)).toNat = tkR Λ σ d (n : Int) (tkN Λ σ d n) (Λ 3 (n : Int)).toNat + _
    rw [tkR_w (by omega) (by omega) hc.1 _ (by omega), ih, tkR_v]
    by_cases e3 : Λ 4 (c * 5 + r) = d
    · by_cases e : (n : Int) = c
      · rw [if_neg (by omega), if_pos ⟨e, by rw [e]; omega, e3⟩, if_pos ⟨by omega, e3⟩]
        omega
      · rw [if_neg (fun h9 : (n : Int) = c ∧ _ => e h9.1)]
        by_cases e5 : c < (n : Int)
        · rw [if_pos ⟨e5, e3⟩, if_pos ⟨by omega, e3⟩]
          omega
        · rw [if_neg (by omega), if_neg (by omega)]
          omega
    · rw [if_neg fun h9 => e3 h9.2, if_neg fun h9 => e3 h9.2.2, if_neg fun h9 => e3 h9.2]
      omega
theorem tkR_s {Λ σ σ' : Mm} {d a v : Int} (h : σ 2 = σ' 2) : ∀ n : Nat, tkR Λ σ d a v n = tkR Λ σ' d a v n := fun n => by
  unfold tkR
  rw [h]
theorem tkN_s {Λ σ σ' : Mm} {d : Int} (h : σ 2 = σ' 2) (n : Nat) : tkN Λ σ d n = tkN Λ σ' d n := by
  unfold tkN tkR
  rw [h]
theorem MT_fol {m Λ e σ : Mm} {b p c to : Int} (hW : WL Λ) (h : MT m b Λ e σ) (hp : 0 ≤ p ∧ p < Λ 0 1) (hc : 0 ≤ c ∧ c < Λ 0 0) (hr : 0 ≤ σ 0 (17 + c) ∧ σ 0 (17 + c) < Λ 3 c) (hto : Λ 4 (c * 5 + σ 0 (17 + c)) = to) (hsh : shutB (σ 0 (26 + c)) (σ 0 (17 + c)) = 0) (hpu : ¬ σ 0 (9 + p) < Λ 1 to) : MT (wr (wr (wr (wr (wr m 103 (b + 1 + p) to) 103 (b + 9 + p) (σ 0 (9 + p) - Λ 1 to)) 105 (c * 5 + σ 0 (17 + c)) (w32 (σ 2 (c * 5 + σ 0 (17 + c)) + e 2 (c * 5 + σ 0 (17 + c)) + 1))) 106 to (w32 (tkN Λ σ to (Λ 0 0).toNat * Λ 1 to + e 3 to + Λ 1 to))) 107 p (w32 (σ 1 p + e 1 p + 1))) b Λ e (folP Λ p c σ) := by
  have hn := hW.1
  have hn8 := hW.2.1
  rw [folP_yes hsh (by rw [hto]; exact hpu), hto]
  refine ⟨fun k h1 h2 => ?_, fun q h1 h2 => ?_, fun j h1 h2 => ?_, fun d h1 h2 => ?_⟩
  · have := h.1 k h1 h2
    simp only [wr, true_and, and_true, false_and, if_false, if_true, Int.reduceEq]
    (repeat' split) <;> omega
  · have := h.2.1 q h1 h2
    simp only [wr, true_and, and_true, false_and, if_false, if_true, Int.reduceEq]
    by_cases e9 : q = p
    · rw [if_pos e9, if_pos e9, e9, show σ 1 p + 1 + e 1 p = σ 1 p + e 1 p + 1 by omega]
    · rw [if_neg e9, if_neg e9]
      exact this
  · have := h.2.2.1 j h1 h2
    simp only [wr, true_and, and_true, false_and, if_false, if_true, Int.reduceEq]
    by_cases e9 : j = c * 5 + σ 0 (17 + c)
    · rw [if_pos e9, if_pos e9, e9]
      exact congrArg w32 (by omega)
    · rw [if_neg e9, if_neg e9]
      exact this
  · have := h.2.2.2 d h1 h2
    have k := tkN_w (σ := σ) (d := d) hW hc hr (Λ 0 0).toNat (Nat.le_refl _)
    have k9 : ∀ x y z : Mm, x 2 = σ 2 → wr x 2 (c * 5 + σ 0 (17 + c)) (σ 2 (c * 5 + σ 0 (17 + c)) + 1) 2 = wr σ 2 (c * 5 + σ 0 (17 + c)) (σ 2 (c * 5 + σ 0 (17 + c)) + 1) 2 := fun x _ _ hx => funext fun j => by rw [wr_at, wr_at, hx]
    rw [tkN_s (k9 _ m m (by rw [wr_ne (by decide), wr_ne (by decide), wr_ne (by decide)])), k, hto]
    simp only [wr, true_and, and_true, false_and, if_false, if_true, Int.reduceEq]
    by_cases e9 : d = to
    · rw [if_pos e9, if_pos ⟨by omega, e9.symm⟩, e9, Int.add_mul, Int.one_mul]
      exact congrArg w32 (by omega)
    · rw [if_neg e9, if_neg fun h9 => e9 h9.2.symm, Int.add_zero]
      exact this
theorem MT_row {m Λ e σ : Mm} {b j x : Int} (h : MT m b Λ e σ) (hj : 0 ≤ j ∧ j < 35) : MT (wr m 103 (b + j) x) b Λ e (wr σ 0 j x) := by
  refine ⟨fun k h1 h2 => ?_, fun q h1 h2 => ?_, fun i h1 h2 => ?_, fun d h1 h2 => ?_⟩
  · have := h.1 k h1 h2
    simp only [wr, true_and, and_true, false_and, if_false, if_true, Int.reduceEq]
    by_cases e9 : k = j
    · rw [if_pos (by omega), if_pos e9]
    · rw [if_neg (by omega), if_neg e9]
      exact this
  · rw [wr_ne (by decide), wr_ne (by decide)]
    exact h.2.1 q h1 h2
  · rw [wr_ne (by decide), wr_ne (by decide)]
    exact h.2.2.1 i h1 h2
  · rw [wr_ne (by decide), tkN_s (σ' := σ) (wr_ne (by decide))]
    exact h.2.2.2 d h1 h2
theorem MT.fr {m m9 Λ e σ : Mm} {b : Int} {L : List Int} (h : MT m b Λ e σ) (k : Fr L m m9) (hL : ∀ x ∈ L, x ≠ 103 ∧ x ≠ 105 ∧ x ≠ 106 ∧ x ≠ 107) : MT m9 b Λ e σ := by
  unfold MT at h ⊢
  rw [k 103 fun h9 => (hL _ h9).1 rfl, k 105 fun h9 => (hL _ h9).2.1 rfl, k 106 fun h9 => (hL _ h9).2.2.1 rfl, k 107 fun h9 => (hL _ h9).2.2.2 rfl]
  exact h
/-- the cells that a day may change, and where in the rows -/
def mDay : List Int := [103, 105, 106, 107, 108, 109]
def FD (b : Int) (m m9 : Mm) : Prop := Fr mDay m m9 ∧ ∀ k, (k < b ∨ b + 35 ≤ k) → m9 103 k = m 103 k
theorem FD.tr {b : Int} {x y z : Mm} (h : FD b x y) (k : FD b y z) : FD b x z := ⟨h.1.tr k.1, fun a ha => (k.2 a ha).trans (h.2 a ha)⟩
theorem FD.rf {b : Int} {x : Mm} : FD b x x := ⟨Fr.rf, fun _ _ => rfl⟩
theorem FD.wr {b : Int} {x y : Mm} {a k v : Int} (h : FD b x y) (ha : a ∈ mDay) (hk : a = 103 → b ≤ k ∧ k < b + 35) : FD b x (wr y a k v) := ⟨h.1.wr ha, fun j hj => by
  by_cases e : a = 103
  · rw [e, wr_at, if_neg (by have := hk e; omega)]
    exact h.2 j hj
  · rw [wr_ne (Ne.symm e)]
    exact h.2 j hj⟩
theorem FD.of {b : Int} {x y : Mm} {L : List Int} (h : Fr L x y) (hL : ∀ a ∈ L, a ∈ mDay ∧ a ≠ 103) : FD b x y := ⟨h.sub fun a ha => (hL a ha).1, fun k _ => by rw [h 103 fun h9 => (hL _ h9).2 rfl]⟩
theorem mDay_91 : ∀ x ∈ mDay, 91 ≤ x := by decide
theorem bitsW_e {f g : Int → Int} {c : Int} : ∀ {n : Nat}, (∀ p : Int, 0 ≤ p → p < n → f p = g p) → bitsW f c n = bitsW g c n
  | 0, _ => rfl
  | n + 1, h => by
    have ih := bitsW_e (f := f) (g := g) (c := c) (n := n) fun p h1 h2 => h p h1 (by omega)
    show (if f (n : Int) = c then bOr (bitsW f c n) (bShl 1 (n : Int)) else bitsW f c n) = _
    rw [ih, h n (by omega) (by omega)]
    rfl
theorem bits_8 {f : Int → Int} {c : Int} {n : Nat} (h : n ≤ 8) : ∃ v : Nat, v < 256 ∧ bitsW f c n = (v : Int) := ⟨bitsN f c n, Nat.lt_of_lt_of_le (bitsN_lt f c n) (Nat.pow_le_pow_right (by decide) h), bitsW_N f c n (by omega)⟩
theorem bOr_W {f : Int → Int} {c : Int} {n : Nat} (h : n ≤ 8) : bOr (bitsW f c n) 0 = bitsW f c n := by
  obtain ⟨v, hv, e⟩ := bits_8 (f := f) (c := c) h
  rw [e, bOr_0 (by omega)]
theorem bm_cnt {f : Int → Int} {σ : Mm} {c : Int} {n : Nat} (hn : n ≤ 8) (h : ∀ p : Int, 0 ≤ p → p < n → f p = σ 0 (1 + p)) : bitsM (bitsW f c n) = cntAt σ c n := by
  obtain ⟨v, hv, e⟩ := bits_8 (f := f) (c := c) hn
  rw [← bc_cnt hn h, e]
  exact bitsM_bc v (by omega)
theorem mp_standAt {l : Launch} {γ : Gh} {ρ m : Mm} {b c : Int} (hL : LY ρ) (hR : MR m) (hn : 0 ≤ m 84 2 ∧ m 84 2 ≤ 8) (hb : b = 0 ∨ b = 35) (hc : 0 ≤ c ∧ c < 9) : gE l γ μX11_standAt 0 0 0 (rI KK fun x ρ9 m9 => ρ = ρ9 ∧ MR m9 ∧ bitsW (fun p => m 103 (b + 1 + p)) c (m 84 2).toNat = x ∧ m = m9) xN KK ρ m [vR 84, vI b, vI c] := by
  refine gE.ofw cl_X11.2 ?_ rfl rfl (Nat.le_of_ble_eq_true rfl)
  show gT l γ μX11_standAt 0 0 0 _ _ KK ρ m 0 [some (vR 84), some (vI b), some (vI c), none, none] []
  refine tz_iconst (n := 1) (g_at ck_X11_standAt 0 rfl) rfl ?_
  refine tz_istore3 (n := 2) (g_at ck_X11_standAt 1 rfl) rfl (by decide) g_hpI ?_
  refine tz_iconst (n := 3) (g_at ck_X11_standAt 2 rfl) rfl ?_
  refine tz_istore4 (n := 5) (g_at ck_X11_standAt 3 rfl) rfl (by decide) g_hpI ?_
  refine g_for (fun i : Nat => gT l γ μX11_standAt 0 0 0 _ _ KK ρ m 5 [some (vR 84), some (vI b), some (vI c), some (vI (bitsW (fun p => m 103 (b + 1 + p)) c i)), some (vI (i : Int))] []) (m 84 2).toNat ?_ (fun i hi ihi => ?_) 0 (Nat.zero_le _)
  · skip
    refine tz_iload4 (n := 7) (g_at ck_X11_standAt 4 rfl) rfl ?_
    refine tz_aload0 (n := 8) (g_at ck_X11_standAt 5 rfl) rfl (g_ne kd_84) ?_
    refine tz_getIw (n := 11) (kz := 2) fk_X11_305 kd_84 (g_at ck_X11_standAt 6 rfl) rfl rfl ?_
    refine tz_icmp_ge (n := 14) (tgt := 46) (g_at ck_X11_standAt 7 rfl) rfl rfl (by omega) (fun h11 => ?_) (fun h11 => absurd h11 (by omega))
    refine tz_iload3 (n := 47) (g_at ck_X11_standAt 28 rfl) rfl ?_
    exact tz_iret (g_at ck_X11_standAt 29 rfl) rfl (rI_mk ⟨rfl, hR, rfl, rfl⟩)
  · skip
    refine tz_iload4 (n := 7) (g_at ck_X11_standAt 4 rfl) rfl ?_
    refine tz_aload0 (n := 8) (g_at ck_X11_standAt 5 rfl) rfl (g_ne kd_84) ?_
    refine tz_getIw (n := 11) (kz := 2) fk_X11_305 kd_84 (g_at ck_X11_standAt 6 rfl) rfl rfl ?_
    refine tz_icmp_ge (n := 14) (tgt := 46) (g_at ck_X11_standAt 7 rfl) rfl rfl (by omega) (fun h11 => absurd h11 (by omega)) (fun h11 => ?_)
    refine tz_iload3 (n := 15) (g_at ck_X11_standAt 8 rfl) rfl ?_
    refine tz_aload0 (n := 16) (g_at ck_X11_standAt 9 rfl) rfl (g_ne kd_84) ?_
    refine tz_getAv (n := 19) (a := 103) fk_X11_75 kd_84 (ly_84_43 hL) (g_at ck_X11_standAt 10 rfl) rfl ?_
    refine tz_iload1 (n := 20) (g_at ck_X11_standAt 11 rfl) rfl ?_
    refine tz_iconst (n := 21) (g_at ck_X11_standAt 12 rfl) rfl ?_
    refine tz_iadd (n := 22) (g_at ck_X11_standAt 13 rfl) rfl ?_
    refine tz_iload4 (n := 24) (g_at ck_X11_standAt 14 rfl) rfl ?_
    refine tz_iadd (n := 25) (g_at ck_X11_standAt 15 rfl) rfl ?_
    refine tz_iald (n := 26) kd_103 (by omega) (g_at ck_X11_standAt 16 rfl) rfl ?_
    refine tz_iload2 (n := 27) (g_at ck_X11_standAt 17 rfl) rfl ?_
    refine tz_icmp_ne (n := 30) (tgt := 37) (g_at ck_X11_standAt 18 rfl) rfl rfl ⟨(hR _ _).1, (hR _ _).2, by omega, by omega⟩ (fun h27 => ?_) (fun h27 => ?_)
    · skip
      refine tz_iconst (n := 38) (g_at ck_X11_standAt 23 rfl) rfl ?_
      refine tz_ior (n := 39) (g_at ck_X11_standAt 24 rfl) rfl ?_
      refine tz_istore3 (n := 40) (g_at ck_X11_standAt 25 rfl) rfl (by decide) g_hpI ?_
      refine tz_iinc4 (n := 43) (g_at ck_X11_standAt 26 rfl) rfl (by decide) g_hpI ?_
      refine tz_goto (tgt := 5) (g_at ck_X11_standAt 27 rfl) rfl ?_
      have e9 : bitsW (fun p => m 103 (b + 1 + p)) c (i + 1) = (bitsW (fun p => m 103 (b + 1 + p)) c i) := if_neg h27
      rw [bOr_W (by omega)]
      rw [e9] at ihi
      exact ihi
    · skip
      refine tz_iconst (n := 31) (g_at ck_X11_standAt 19 rfl) rfl ?_
      refine tz_iload4 (n := 33) (g_at ck_X11_standAt 20 rfl) rfl ?_
      refine tz_ishl (n := 34) (g_at ck_X11_standAt 21 rfl) rfl ?_
      refine tz_goto (tgt := 38) (g_at ck_X11_standAt 22 rfl) rfl ?_
      refine tz_ior (n := 39) (g_at ck_X11_standAt 24 rfl) rfl ?_
      refine tz_istore3 (n := 40) (g_at ck_X11_standAt 25 rfl) rfl (by decide) g_hpI ?_
      refine tz_iinc4 (n := 43) (g_at ck_X11_standAt 26 rfl) rfl (by decide) g_hpI ?_
      refine tz_goto (tgt := 5) (g_at ck_X11_standAt 27 rfl) rfl ?_
      have e9 : bitsW (fun p => m 103 (b + 1 + p)) c (i + 1) = bOr (bitsW (fun p => m 103 (b + 1 + p)) c i) (bShl 1 (i : Int)) := if_pos h27
      rw [e9] at ihi
      exact ihi
theorem mp_isShut {l : Launch} {γ : Gh} {ρ m : Mm} {b c r : Int} (hL : LY ρ) (hR : MR m) (hb : b = 0 ∨ b = 35) (hc : 0 ≤ c ∧ c < 9) : gE l γ μX11_isShut 0 0 0 (rI KK fun x ρ9 m9 => ρ = ρ9 ∧ MR m9 ∧ shutB (m 103 (b + 26 + c)) r = x ∧ m = m9) xN KK ρ m [vR 84, vI b, vI c, vI r] := by
  refine gE.ofw cl_X11.2 ?_ rfl rfl (Nat.le_of_ble_eq_true rfl)
  show gT l γ μX11_isShut 0 0 0 _ _ KK ρ m 0 [some (vR 84), some (vI b), some (vI c), some (vI r)] []
  refine tz_aload0 (n := 1) (g_at ck_X11_isShut 0 rfl) rfl (g_ne kd_84) ?_
  refine tz_getAv (n := 4) (a := 103) fk_X11_75 kd_84 (ly_84_43 hL) (g_at ck_X11_isShut 1 rfl) rfl ?_
  refine tz_iload1 (n := 5) (g_at ck_X11_isShut 2 rfl) rfl ?_
  refine tz_bipush (n := 7) (g_at ck_X11_isShut 3 rfl) rfl rfl ?_
  refine tz_iadd (n := 8) (g_at ck_X11_isShut 4 rfl) rfl ?_
  refine tz_iload2 (n := 9) (g_at ck_X11_isShut 5 rfl) rfl ?_
  refine tz_iadd (n := 10) (g_at ck_X11_isShut 6 rfl) rfl ?_
  refine tz_iald (n := 11) kd_103 (by omega) (g_at ck_X11_isShut 7 rfl) rfl ?_
  refine tz_iload3 (n := 12) (g_at ck_X11_isShut 8 rfl) rfl ?_
  refine tz_ishr (n := 13) (g_at ck_X11_isShut 9 rfl) rfl ?_
  refine tz_iconst (n := 14) (g_at ck_X11_isShut 10 rfl) rfl ?_
  refine tz_iand (n := 15) (g_at ck_X11_isShut 11 rfl) rfl ?_
  refine tz_iconst (n := 16) (g_at ck_X11_isShut 12 rfl) rfl ?_
  refine tz_icmp_ne (n := 19) (tgt := 23) (g_at ck_X11_isShut 13 rfl) rfl rfl ⟨(bAnd_rg _ _).1, (bAnd_rg _ _).2, by decide, by decide⟩ (fun h16 => ?_) (fun h16 => ?_)
  · skip
    refine tz_iconst (n := 24) (g_at ck_X11_isShut 16 rfl) rfl ?_
    exact tz_bret (g_at ck_X11_isShut 17 rfl) rfl (by decide) (rI_mk ⟨rfl, hR, if_neg h16, rfl⟩)
  · skip
    refine tz_iconst (n := 20) (g_at ck_X11_isShut 14 rfl) rfl ?_
    refine tz_goto (tgt := 24) (g_at ck_X11_isShut 15 rfl) rfl ?_
    exact tz_bret (g_at ck_X11_isShut 17 rfl) rfl (by decide) (rI_mk ⟨rfl, hR, if_pos h16, rfl⟩)
def hmB (a b : Int) : Int := if a = b then 1 else 0
theorem hmB_01 (a b : Int) : hmB a b = 0 ∨ hmB a b = 1 := by unfold hmB; split <;> simp
theorem mp_isHome {l : Launch} {γ : Gh} {ρ m : Mm} {b p : Int} (hL : LY ρ) (hR : MR m) (hb : b = 0 ∨ b = 35) (hp : 0 ≤ p ∧ p < 8) : gE l γ μX11_isHome 0 0 0 (rI KK fun x ρ9 m9 => ρ = ρ9 ∧ MR m9 ∧ hmB (m 103 (b + 1 + p)) (m 89 p) = x ∧ m = m9) xN KK ρ m [vR 84, vI b, vI p] := by
  refine gE.ofw cl_X11.2 ?_ rfl rfl (Nat.le_of_ble_eq_true rfl)
  show gT l γ μX11_isHome 0 0 0 _ _ KK ρ m 0 [some (vR 84), some (vI b), some (vI p)] []
  refine tz_aload0 (n := 1) (g_at ck_X11_isHome 0 rfl) rfl (g_ne kd_84) ?_
  refine tz_getAv (n := 4) (a := 103) fk_X11_75 kd_84 (ly_84_43 hL) (g_at ck_X11_isHome 1 rfl) rfl ?_
  refine tz_iload1 (n := 5) (g_at ck_X11_isHome 2 rfl) rfl ?_
  refine tz_iconst (n := 6) (g_at ck_X11_isHome 3 rfl) rfl ?_
  refine tz_iadd (n := 7) (g_at ck_X11_isHome 4 rfl) rfl ?_
  refine tz_iload2 (n := 8) (g_at ck_X11_isHome 5 rfl) rfl ?_
  refine tz_iadd (n := 9) (g_at ck_X11_isHome 6 rfl) rfl ?_
  refine tz_iald (n := 10) kd_103 (by omega) (g_at ck_X11_isHome 7 rfl) rfl ?_
  refine tz_aload0 (n := 11) (g_at ck_X11_isHome 8 rfl) rfl (g_ne kd_84) ?_
  refine tz_getAv (n := 14) (a := 89) fk_X11_29 kd_84 (ly_84_9 hL) (g_at ck_X11_isHome 9 rfl) rfl ?_
  refine tz_iload2 (n := 15) (g_at ck_X11_isHome 10 rfl) rfl ?_
  refine tz_iald (n := 16) kd_89 (by omega) (g_at ck_X11_isHome 11 rfl) rfl ?_
  refine tz_icmp_ne (n := 19) (tgt := 23) (g_at ck_X11_isHome 12 rfl) rfl rfl ⟨(hR _ _).1, (hR _ _).2, (hR _ _).1, (hR _ _).2⟩ (fun h16 => ?_) (fun h16 => ?_)
  · skip
    refine tz_iconst (n := 24) (g_at ck_X11_isHome 15 rfl) rfl ?_
    exact tz_bret (g_at ck_X11_isHome 16 rfl) rfl (by decide) (rI_mk ⟨rfl, hR, if_neg h16, rfl⟩)
  · skip
    refine tz_iconst (n := 20) (g_at ck_X11_isHome 13 rfl) rfl ?_
    refine tz_goto (tgt := 24) (g_at ck_X11_isHome 14 rfl) rfl ?_
    exact tz_bret (g_at ck_X11_isHome 16 rfl) rfl (by decide) (rI_mk ⟨rfl, hR, if_pos h16, rfl⟩)
