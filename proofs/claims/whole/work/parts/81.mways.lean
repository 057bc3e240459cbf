/-! The reference: its ways. -/
def tr9 (x : Int) : Int := if x = 10000 then 9999 else x
/-- no way, or a number of at most M -/
def Bd (M x : Int) : Prop := x = 10000 ∨ (0 ≤ x ∧ x ≤ M)
theorem Bd.up {M M' x : Int} (h : Bd M x) (k : M ≤ M') : Bd M' x := h.imp_right fun h => ⟨h.1, by omega⟩
theorem tr_mn {x y z : Int} (hx : Bd 4608 x) (hy : Bd 4608 y) (hz : Bd 4608 z) : lesF (tr9 x) (tr9 y + tr9 z) = tr9 (mn2 x (y + z)) := by
  unfold Bd at hx hy hz
  unfold lesF tr9 mn2
  repeat' split
  all_goals omega
theorem Bd_mn {M x y z : Int} (hx : Bd (2 * M) x) (hy : Bd M y) (hz : Bd M z) (hM : 0 ≤ M ∧ 2 * M ≤ 4608) : Bd (2 * M) (mn2 x (y + z)) := by
  unfold Bd at hx hy hz ⊢
  unfold mn2
  split <;> omega
theorem tr_rg {M x : Int} (h : Bd M x) (hM : M ≤ 4608) : 0 ≤ tr9 x ∧ tr9 x ≤ 9999 := by
  unfold Bd at h
  unfold tr9
  split <;> omega
def dg (a z : Int) : Int := if a = z then 0 else 9999
def Qi (N : Int) (m : Mm) (i j : Int) : Prop := ∀ a z, 0 ≤ a → 0 ≤ z → z < N → (a < i ∨ (a = i ∧ z < j)) → m 110 (10 * a + z) = dg a z ∧ m 111 (10 * a + z) = dg a z
theorem Qi_s {N : Int} {m : Mm} {i j v : Int} (h : Qi N m i j) (hN : N ≤ 9) (hi : 0 ≤ i) (hj : 0 ≤ j ∧ j < N) (hv : v = dg i j) : Qi N (wr (wr m 110 (10 * i + j) v) 111 (10 * i + j) v) i (j + 1) := fun a z h1 h2 h3 h4 => by
  rw [wr_ne (show (110 : Int) ≠ 111 by decide), wr_at, wr_at, wr_ne (show (111 : Int) ≠ 110 by decide)]
  by_cases e : 10 * a + z = 10 * i + j
  · have e1 : a = i := by omega
    have e2 : z = j := by omega
    rw [if_pos e, if_pos e, e1, e2]
    exact ⟨hv, hv⟩
  · rw [if_neg e, if_neg e]
    exact h a z h1 h2 h3 (by omega)
def W2 (M : Int) (ω : Mm) : Prop := ∀ j, Bd M (ω 0 j) ∧ Bd M (ω 1 j)
def RLq (N : Int) (m ω : Mm) (i : Int) : Prop := W2 9 ω ∧ (∀ a z, 0 ≤ a → a < N → 0 ≤ z → z < N → (a < i → m 110 (10 * a + z) = tr9 (ω 0 (a * 9 + z)) ∧ m 111 (10 * a + z) = tr9 (ω 1 (a * 9 + z))) ∧ (i ≤ a → m 110 (10 * a + z) = dg a z ∧ m 111 (10 * a + z) = dg a z)) ∧ ∀ a z, i ≤ a → 0 ≤ z → z < 9 → ω 0 (a * 9 + z) = 10000 ∧ ω 1 (a * 9 + z) = 10000
theorem RL_0 {N : Int} {m : Mm} (h : Qi N m N 0) : RLq N m (fun k _ => if k = 0 ∨ k = 1 then 10000 else 0) 0 := ⟨fun _ => ⟨Or.inl rfl, Or.inl rfl⟩, fun a z h1 h2 h3 h4 => ⟨fun h9 => absurd h9 (by omega), fun _ => h a z h1 h3 h4 (Or.inl h2)⟩, fun a z _ _ _ => ⟨rfl, rfl⟩⟩
theorem RL_d {N : Int} {m ω : Mm} {i : Int} (h : RLq N m ω i) (hN : N ≤ 9) (hi : 0 ≤ i ∧ i < N) : RLq N m (wr (wr ω 0 (i * 9 + i) 0) 1 (i * 9 + i) 0) (i + 1) := by
  refine ⟨fun j => ?_, fun a z h1 h2 h3 h4 => ⟨fun h5 => ?_, fun h5 => (h.2.1 a z h1 h2 h3 h4).2 (by omega)⟩, fun a z h1 h2 h3 => ?_⟩
  · rw [wr_ne (show (0 : Int) ≠ 1 by decide), wr_at, wr_at, wr_ne (show (1 : Int) ≠ 0 by decide)]
    constructor
    · split
      · exact Or.inr ⟨by decide, by decide⟩
      · exact (h.1 j).1
    · split
      · exact Or.inr ⟨by decide, by decide⟩
      · exact (h.1 j).2
  · rw [wr_ne (show (0 : Int) ≠ 1 by decide), wr_at, wr_at, wr_ne (show (1 : Int) ≠ 0 by decide)]
    by_cases e : a = i
    · have k1 := (h.2.1 a z h1 h2 h3 h4).2 (by omega)
      have k2 := h.2.2 a z (by omega) h3 (by omega)
      rw [k1.1, k1.2, k2.1, k2.2]
      unfold dg
      by_cases e2 : a = z
      · rw [if_pos e2, show (if a * 9 + z = i * 9 + i then (0 : Int) else 10000) = 0 from if_pos (by omega)]
        exact ⟨rfl, rfl⟩
      · rw [if_neg e2, show (if a * 9 + z = i * 9 + i then (0 : Int) else 10000) = 10000 from if_neg (by omega)]
        exact ⟨rfl, rfl⟩
    · rw [if_neg (by omega), if_neg (by omega)]
      exact (h.2.1 a z h1 h2 h3 h4).1 (by omega)
  · rw [wr_ne (show (0 : Int) ≠ 1 by decide), wr_at, wr_at, wr_ne (show (1 : Int) ≠ 0 by decide), if_neg (by omega), if_neg (by omega)]
    exact h.2.2 a z (by omega) h2 h3
theorem lrP_01 {Λ ω : Mm} {a z : Int} : lrP Λ a z ω 0 = wr ω 0 (a * 9 + z) 1 0 ∧ lrP Λ a z ω 1 = wr ω 1 (a * 9 + z) (Λ 1 z) 1 := by
  unfold lrP
  refine ⟨by rw [wr_ne (by decide), wr_ne (by decide), wr_ne (by decide), wr_ne (by decide)], ?_⟩
  rw [wr_ne (by decide), wr_ne (by decide), wr_ne (by decide)]
  funext j
  rw [wr_at, wr_at, wr_ne (by decide)]
theorem RL_r {N : Int} {m Λ ω : Mm} {i t : Int} (h : RLq N m ω (i + 1)) (hN : N ≤ 9) (hi : 0 ≤ i ∧ i < N) (ht : 0 ≤ t ∧ t < N) (hl : 0 ≤ Λ 1 t ∧ Λ 1 t ≤ 9) : RLq N (wr (wr m 110 (10 * i + t) 1) 111 (10 * i + t) (Λ 1 t)) (lrP Λ i t ω) (i + 1) := by
  refine ⟨fun j => ?_, fun a z h1 h2 h3 h4 => ?_, fun a z h1 h2 h3 => ?_⟩
  · rw [lrP_01.1, lrP_01.2, wr_at, wr_at]
    constructor
    · split
      · exact Or.inr ⟨by decide, by decide⟩
      · exact (h.1 j).1
    · split
      · exact Or.inr hl
      · exact (h.1 j).2
  · rw [lrP_01.1, lrP_01.2, wr_at, wr_at, wr_ne (show (110 : Int) ≠ 111 by decide), wr_at, wr_at, wr_ne (show (111 : Int) ≠ 110 by decide)]
    by_cases e : 10 * a + z = 10 * i + t
    · have e1 : a = i := by omega
      have e2 : z = t := by omega
      rw [if_pos e, if_pos e, if_pos (by omega), if_pos (by omega)]
      exact ⟨fun _ => ⟨rfl, by unfold tr9; rw [if_neg (by omega)]⟩, fun h9 => absurd h9 (by omega)⟩
    · rw [if_neg e, if_neg e, if_neg (by omega), if_neg (by omega)]
      exact h.2.1 a z h1 h2 h3 h4
  · rw [lrP_01.1, lrP_01.2, wr_at, wr_at, if_neg (by omega), if_neg (by omega)]
    exact h.2.2 a z h1 h2 h3
/-- stage b: what it began with is w0 -/
def SB (b M : Int) (w0 w : Mm) : Prop := W2 M w0 ∧ W2 (2 * M) w ∧ (∀ x, w 0 (x * 9 + b) = w0 0 (x * 9 + b) ∧ w 1 (x * 9 + b) = w0 1 (x * 9 + b)) ∧ ∀ x, 0 ≤ x → x < 9 → w 0 (b * 9 + x) = w0 0 (b * 9 + x) ∧ w 1 (b * 9 + x) = w0 1 (b * 9 + x)
def RF (N : Int) (m ω : Mm) : Prop := ∀ a z, 0 ≤ a → a < N → 0 ≤ z → z < N → m 110 (10 * a + z) = tr9 (ω 0 (a * 9 + z)) ∧ m 111 (10 * a + z) = tr9 (ω 1 (a * 9 + z))
theorem SB.s {b M a z : Int} {w0 w : Mm} (h : SB b M w0 w) (hM : 0 ≤ M ∧ 2 * M ≤ 4608) (hb : 0 ≤ b ∧ b < 9) (ha : 0 ≤ a ∧ a < 9) (hz : 0 ≤ z ∧ z < 9) : SB b M w0 (jnS b a z w) := by
  obtain ⟨h1, h2, h3, h4⟩ := h
  have p0 : w 0 (a * 9 + b) = w0 0 (a * 9 + b) := (h3 a).1
  have p1 : w 1 (a * 9 + b) = w0 1 (a * 9 + b) := (h3 a).2
  have q0 := h4 z hz.1 hz.2
  have b0 := h1 (a * 9 + b)
  have b1 := h1 (b * 9 + z)
  have c0 : jnS b a z w 0 = wr w 0 (a * 9 + z) (mn2 (w 0 (a * 9 + z)) (w 0 (a * 9 + b) + w 0 (b * 9 + z))) 0 := by unfold jnS; rw [wr_ne (by decide)]
  have c1 : jnS b a z w 1 = wr w 1 (a * 9 + z) (mn2 (w 1 (a * 9 + z)) (w 1 (a * 9 + b) + w 1 (b * 9 + z))) 1 := by unfold jnS; funext j; rw [wr_at, wr_at, wr_ne (by decide)]
  have nn : ∀ y, Bd M y → 0 ≤ y := fun y hy => by unfold Bd at hy; omega
  refine ⟨h1, fun j => ?_, fun x => ?_, fun x g1 g2 => ?_⟩
  · rw [c0, c1, wr_at, wr_at]
    constructor
    · split
      · exact Bd_mn (h2 _).1 (by rw [p0]; exact b0.1) (by rw [q0.1]; exact b1.1) hM
      · exact (h2 j).1
    · split
      · exact Bd_mn (h2 _).2 (by rw [p1]; exact b0.2) (by rw [q0.2]; exact b1.2) hM
      · exact (h2 j).2
  · rw [c0, c1, wr_at, wr_at]
    by_cases e : x * 9 + b = a * 9 + z
    · have e1 : x = a := by omega
      have e2 : z = b := by omega
      have k := h4 b hb.1 hb.2
      have kb := h1 (b * 9 + b)
      rw [if_pos e, if_pos e, e2, e1]
      unfold mn2
      rw [if_neg (by rw [k.1]; have := nn _ kb.1; omega), if_neg (by rw [k.2]; have := nn _ kb.2; omega)]
      exact h3 a
    · rw [if_neg e, if_neg e]
      exact h3 x
  · rw [c0, c1, wr_at, wr_at]
    by_cases e : b * 9 + x = a * 9 + z
    · have e1 : a = b := by omega
      have e2 : z = x := by omega
      have k := h3 b
      have kb := h1 (b * 9 + b)
      rw [if_pos e, if_pos e, e1, e2]
      unfold mn2
      rw [if_neg (by rw [k.1]; have := nn _ kb.1; omega), if_neg (by rw [k.2]; have := nn _ kb.2; omega)]
      exact h4 x g1 g2
    · rw [if_neg e, if_neg e]
      exact h4 x g1 g2
theorem RF_s {N b M a z : Int} {w0 w m : Mm} (h : SB b M w0 w) (k : RF N m w) (hM : 0 ≤ M ∧ 2 * M ≤ 4608) (hN : N ≤ 9) (hb : 0 ≤ b ∧ b < N) (ha : 0 ≤ a ∧ a < N) (hz : 0 ≤ z ∧ z < N) : RF N (wr (wr m 110 (10 * a + z) (tr9 (mn2 (w 0 (a * 9 + z)) (w 0 (a * 9 + b) + w 0 (b * 9 + z))))) 111 (10 * a + z) (tr9 (mn2 (w 1 (a * 9 + z)) (w 1 (a * 9 + b) + w 1 (b * 9 + z))))) (jnS b a z w) := fun x y h1 h2 h3 h4 => by
  have c0 : jnS b a z w 0 = wr w 0 (a * 9 + z) (mn2 (w 0 (a * 9 + z)) (w 0 (a * 9 + b) + w 0 (b * 9 + z))) 0 := by unfold jnS; rw [wr_ne (by decide)]
  have c1 : jnS b a z w 1 = wr w 1 (a * 9 + z) (mn2 (w 1 (a * 9 + z)) (w 1 (a * 9 + b) + w 1 (b * 9 + z))) 1 := by unfold jnS; funext j; rw [wr_at, wr_at, wr_ne (by decide)]
  rw [c0, c1, wr_at, wr_at, wr_ne (show (110 : Int) ≠ 111 by decide), wr_at, wr_at, wr_ne (show (111 : Int) ≠ 110 by decide)]
  by_cases e : 10 * x + y = 10 * a + z
  · rw [if_pos e, if_pos e, if_pos (by omega), if_pos (by omega)]
    exact ⟨rfl, rfl⟩
  · rw [if_neg e, if_neg e, if_neg (by omega), if_neg (by omega)]
    exact k x y h1 h2 h3 h4
def mB (b : Nat) : Int := 9 * 2 ^ b
theorem mB_rg : ∀ b : Nat, b < 9 → 0 ≤ mB b ∧ 2 * mB b ≤ 4608 := by decide
theorem mB_s : ∀ b : Nat, b < 9 → mB (b + 1) = 2 * mB b := by decide
theorem SB.rf {b M : Int} {w : Mm} (h : W2 M w) (hM : 0 ≤ M) : SB b M w w := ⟨h, fun j => ⟨(h j).1.up (by omega), (h j).2.up (by omega)⟩, fun _ => ⟨rfl, rfl⟩, fun _ _ _ => ⟨rfl, rfl⟩⟩
theorem W2_tr {M : Int} {w : Mm} (h : W2 M w) (hM : M ≤ 4608) (j : Int) : (0 ≤ tr9 (w 0 j) ∧ tr9 (w 0 j) ≤ 9999) ∧ 0 ≤ tr9 (w 1 j) ∧ tr9 (w 1 j) ≤ 9999 := ⟨tr_rg (h j).1 hM, tr_rg (h j).2 hM⟩
theorem RF_of {N : Int} {m ω : Mm} (h : RLq N m ω N) : RF N m ω := fun a z h1 h2 h3 h4 => (h.2.1 a z h1 h2 h3 h4).1 h2
theorem lesF_rg {a b : Int} (ha : 0 ≤ a ∧ a ≤ 9999) (hb : 0 ≤ b) : 0 ≤ lesF a b ∧ lesF a b ≤ 9999 := by unfold lesF; split <;> omega
theorem mB_le : ∀ b : Nat, b ≤ 9 → mB b ≤ 4608 := by decide
theorem mp_laysWays {l : Launch} {γ : Gh} {ρ m : Mm} {s : Int → Int} {Λ : Mm} {hl tl : List Int} (hL : LY ρ) (hR : MR m) (hW : WL Λ) (hM : MLand m Λ hl tl) (hs : MRow m s) (hσ : WS Λ 0 (sig0 s)) (hz : m 84 51 = 0) : gE l γ μX11_laysWays 1 0 0 (rV KK fun ρ9 m9 => ρ = ρ9 ∧ MR m9 ∧ Fr [110, 111] m m9 ∧ RF (Λ 0 0) m9 (wyW Λ s) ∧ W2 4608 (wyW Λ s)) xN KK ρ m [vR 84] := by
  refine gE.ofw cl_X11.2 ?_ rfl rfl (Nat.le_of_ble_eq_true rfl)
  show gT l γ μX11_laysWays 1 0 0 _ _ KK ρ m 0 [some (vR 84), none, none, none] []
  have hn1 := hW.1
  have hN := hM.1
  refine tz_iconst (n := 1) (g_at ck_X11_laysWays 0 rfl) rfl ?_
  refine tz_istore1 (n := 2) (g_at ck_X11_laysWays 1 rfl) rfl (by decide) g_hpR ?_
  refine g_for (fun i : Nat => ∀ m1 : Mm, (MR m1 ∧ Fr [110, 111] m m1 ∧ Qi (Λ 0 0) m1 (i : Int) 0) → gT l γ μX11_laysWays 1 0 0 _ _ KK ρ m1 2 [some (vR 84), some (vI (i : Int)), none, none] []) (Λ 0 0).toNat ?_ (fun i hi ihi => ?_) 0 (Nat.zero_le _) _ ⟨hR, Fr.rf, fun a z h1 h2 h3 h4 => absurd h4 (by omega)⟩
  · intro m1 hinv
    obtain ⟨hR1, hF1, hq1⟩ := hinv
    have e84 : m1 84 = m 84 := hF1 84 (by decide)
    have hr0 : RLq (Λ 0 0) m1 (lrN Λ s 0) ((0 : Nat) : Int) := RL_0 (by rw [show ((Λ 0 0).toNat : Int) = Λ 0 0 by omega] at hq1; exact hq1)
    refine tz_iload1 (n := 3) (g_at ck_X11_laysWays 2 rfl) rfl ?_
    refine tz_aload0 (n := 4) (g_at ck_X11_laysWays 3 rfl) rfl (g_ne kd_84) ?_
    refine tz_getIw (n := 7) (kz := 1) fk_X11_302 kd_84 (g_at ck_X11_laysWays 4 rfl) rfl rfl ?_
    rw [e84, hN]
    refine tz_icmp_ge (n := 10) (tgt := 78) (g_at ck_X11_laysWays 5 rfl) rfl rfl (by omega) (fun h7 => ?_) (fun h7 => absurd h7 (by omega))
    refine tz_iconst (n := 79) (g_at ck_X11_laysWays 44 rfl) rfl ?_
    refine tz_istore1 (n := 80) (g_at ck_X11_laysWays 45 rfl) rfl (by decide) g_hpR ?_
    refine g_for (fun i : Nat => ∀ m1 : Mm, (MR m1 ∧ Fr [110, 111] m m1 ∧ RLq (Λ 0 0) m1 (lrN Λ s i) (i : Int)) → gT l γ μX11_laysWays 1 0 0 _ _ KK ρ m1 80 [some (vR 84), some (vI (i : Int)), none, none] []) (Λ 0 0).toNat ?_ (fun i hi ihi => ?_) 0 (Nat.zero_le _) _ ⟨hR1, hF1, hr0⟩
    · intro m1 hinv
      obtain ⟨hR1, hF1, hr1⟩ := hinv
      have e84 : m1 84 = m 84 := hF1 84 (by decide)
      rw [show ((Λ 0 0).toNat : Int) = Λ 0 0 by omega] at hr1
      refine tz_iload1 (n := 81) (g_at ck_X11_laysWays 46 rfl) rfl ?_
      refine tz_aload0 (n := 82) (g_at ck_X11_laysWays 47 rfl) rfl (g_ne kd_84) ?_
      refine tz_getIw (n := 85) (kz := 1) fk_X11_302 kd_84 (g_at ck_X11_laysWays 48 rfl) rfl rfl ?_
      rw [e84, hN]
      refine tz_icmp_ge (n := 88) (tgt := 165) (g_at ck_X11_laysWays 49 rfl) rfl rfl (by omega) (fun h85 => ?_) (fun h85 => absurd h85 (by omega))
      refine tz_iconst (n := 166) (g_at ck_X11_laysWays 99 rfl) rfl ?_
      refine tz_istore1 (n := 167) (g_at ck_X11_laysWays 100 rfl) rfl (by decide) g_hpR ?_
      refine g_for (fun b : Nat => ∀ m1 : Mm, (MR m1 ∧ Fr [110, 111] m m1 ∧ RF (Λ 0 0) m1 (jnN (Λ 0 0).toNat (lrN Λ s (Λ 0 0).toNat) b) ∧ W2 (mB b) (jnN (Λ 0 0).toNat (lrN Λ s (Λ 0 0).toNat) b)) → gT l γ μX11_laysWays 1 0 0 _ _ KK ρ m1 167 [some (vR 84), some (vI (b : Int)), none, none] []) (Λ 0 0).toNat ?_ (fun b hb ihb => ?_) 0 (Nat.zero_le _) _ ⟨hR1, hF1, RF_of hr1, hr1.1⟩
      · intro m1 hinv
        obtain ⟨hR1, hF1, hr1, hw1⟩ := hinv
        have e84 : m1 84 = m 84 := hF1 84 (by decide)
        have hmb := mB_le (Λ 0 0).toNat (by omega)
        refine tz_iload1 (n := 168) (g_at ck_X11_laysWays 101 rfl) rfl ?_
        refine tz_aload0 (n := 169) (g_at ck_X11_laysWays 102 rfl) rfl (g_ne kd_84) ?_
        refine tz_getIw (n := 172) (kz := 1) fk_X11_302 kd_84 (g_at ck_X11_laysWays 103 rfl) rfl rfl ?_
        rw [e84, hN]
        refine tz_icmp_ge (n := 175) (tgt := 309) (g_at ck_X11_laysWays 104 rfl) rfl rfl (by omega) (fun h172 => ?_) (fun h172 => absurd h172 (by omega))
        exact tz_vret (g_at ck_X11_laysWays 191 rfl) rfl (rV_mk ⟨rfl, hR1, hF1, hr1, fun j => ⟨(hw1 j).1.up hmb, (hw1 j).2.up hmb⟩⟩)
      · intro m1 hinv
        obtain ⟨hR1, hF1, hr1, hw1⟩ := hinv
        have e84 : m1 84 = m 84 := hF1 84 (by decide)
        have hmb := mB_rg b (by omega)
        have hms := mB_s b (by omega)
        refine tz_iload1 (n := 168) (g_at ck_X11_laysWays 101 rfl) rfl ?_
        refine tz_aload0 (n := 169) (g_at ck_X11_laysWays 102 rfl) rfl (g_ne kd_84) ?_
        refine tz_getIw (n := 172) (kz := 1) fk_X11_302 kd_84 (g_at ck_X11_laysWays 103 rfl) rfl rfl ?_
        rw [e84, hN]
        refine tz_icmp_ge (n := 175) (tgt := 309) (g_at ck_X11_laysWays 104 rfl) rfl rfl (by omega) (fun h172 => absurd h172 (by omega)) (fun h172 => ?_)
        refine tz_iconst (n := 176) (g_at ck_X11_laysWays 105 rfl) rfl ?_
        refine tz_istore2 (n := 177) (g_at ck_X11_laysWays 106 rfl) rfl (by decide) g_hpI ?_
        refine g_for (fun a : Nat => ∀ m2 : Mm, (MR m2 ∧ Fr [110, 111] m m2 ∧ RF (Λ 0 0) m2 (jnA (Λ 0 0).toNat (b : Int) (jnN (Λ 0 0).toNat (lrN Λ s (Λ 0 0).toNat) b) a) ∧ SB (b : Int) (mB b) (jnN (Λ 0 0).toNat (lrN Λ s (Λ 0 0).toNat) b) (jnA (Λ 0 0).toNat (b : Int) (jnN (Λ 0 0).toNat (lrN Λ s (Λ 0 0).toNat) b) a)) → gT l γ μX11_laysWays 1 0 0 _ _ KK ρ m2 177 [some (vR 84), some (vI (b : Int)), some (vI (a : Int)), none] []) (Λ 0 0).toNat ?_ (fun a ha iha => ?_) 0 (Nat.zero_le _) _ ⟨hR1, hF1, hr1, SB.rf hw1 hmb.1⟩
        · intro m2 hinv
          obtain ⟨hR2, hF2, hr2, hsb2⟩ := hinv
          have e842 : m2 84 = m 84 := hF2 84 (by decide)
          refine tz_iload2 (n := 178) (g_at ck_X11_laysWays 107 rfl) rfl ?_
          refine tz_aload0 (n := 179) (g_at ck_X11_laysWays 108 rfl) rfl (g_ne kd_84) ?_
          refine tz_getIw (n := 182) (kz := 1) fk_X11_302 kd_84 (g_at ck_X11_laysWays 109 rfl) rfl rfl ?_
          rw [e842, hN]
          refine tz_icmp_ge (n := 185) (tgt := 303) (g_at ck_X11_laysWays 110 rfl) rfl rfl (by omega) (fun h182 => ?_) (fun h182 => absurd h182 (by omega))
          refine tz_iinc1 (n := 306) (g_at ck_X11_laysWays 189 rfl) rfl (by decide) g_hpR ?_
          refine tz_goto (tgt := 167) (g_at ck_X11_laysWays 190 rfl) rfl ?_
          refine tz_drop2 ?_
          exact ihb _ ⟨hR2, hF2, hr2, by rw [hms]; exact hsb2.2.1⟩
        · intro m2 hinv
          obtain ⟨hR2, hF2, hr2, hsb2⟩ := hinv
          have e842 : m2 84 = m 84 := hF2 84 (by decide)
          refine tz_iload2 (n := 178) (g_at ck_X11_laysWays 107 rfl) rfl ?_
          refine tz_aload0 (n := 179) (g_at ck_X11_laysWays 108 rfl) rfl (g_ne kd_84) ?_
          refine tz_getIw (n := 182) (kz := 1) fk_X11_302 kd_84 (g_at ck_X11_laysWays 109 rfl) rfl rfl ?_
          rw [e842, hN]
          refine tz_icmp_ge (n := 185) (tgt := 303) (g_at ck_X11_laysWays 110 rfl) rfl rfl (by omega) (fun h182 => absurd h182 (by omega)) (fun h182 => ?_)
          refine tz_iconst (n := 186) (g_at ck_X11_laysWays 111 rfl) rfl ?_
          refine tz_istore3 (n := 187) (g_at ck_X11_laysWays 112 rfl) rfl (by decide) g_hpI ?_
          refine g_for (fun z : Nat => ∀ m3 : Mm, (MR m3 ∧ Fr [110, 111] m m3 ∧ RF (Λ 0 0) m3 (jnZ (b : Int) (a : Int) (jnA (Λ 0 0).toNat (b : Int) (jnN (Λ 0 0).toNat (lrN Λ s (Λ 0 0).toNat) b) a) z) ∧ SB (b : Int) (mB b) (jnN (Λ 0 0).toNat (lrN Λ s (Λ 0 0).toNat) b) (jnZ (b : Int) (a : Int) (jnA (Λ 0 0).toNat (b : Int) (jnN (Λ 0 0).toNat (lrN Λ s (Λ 0 0).toNat) b) a) z)) → gT l γ μX11_laysWays 1 0 0 _ _ KK ρ m3 187 [some (vR 84), some (vI (b : Int)), some (vI (a : Int)), some (vI (z : Int))] []) (Λ 0 0).toNat ?_ (fun z hz ihz => ?_) 0 (Nat.zero_le _) _ ⟨hR2, hF2, hr2, hsb2⟩
          · intro m3 hinv
            obtain ⟨hR3, hF3, hr3, hsb3⟩ := hinv
            have e843 : m3 84 = m 84 := hF3 84 (by decide)
            refine tz_iload3 (n := 188) (g_at ck_X11_laysWays 113 rfl) rfl ?_
            refine tz_aload0 (n := 189) (g_at ck_X11_laysWays 114 rfl) rfl (g_ne kd_84) ?_
            refine tz_getIw (n := 192) (kz := 1) fk_X11_302 kd_84 (g_at ck_X11_laysWays 115 rfl) rfl rfl ?_
            rw [e843, hN]
            refine tz_icmp_ge (n := 195) (tgt := 297) (g_at ck_X11_laysWays 116 rfl) rfl rfl (by omega) (fun h192 => ?_) (fun h192 => absurd h192 (by omega))
            refine tz_iinc2 (n := 300) (g_at ck_X11_laysWays 187 rfl) rfl (by decide) g_hpI ?_
            refine tz_goto (tgt := 177) (g_at ck_X11_laysWays 188 rfl) rfl ?_
            refine tz_drop3 ?_
            exact iha _ ⟨hR3, hF3, hr3, hsb3⟩
          · intro m3 hinv
            obtain ⟨hR3, hF3, hr3, hsb3⟩ := hinv
            have e843 : m3 84 = m 84 := hF3 84 (by decide)
            have hAZ := hr3 (a : Int) (z : Int) (by omega) (by omega) (by omega) (by omega)
            have hAB := hr3 (a : Int) (b : Int) (by omega) (by omega) (by omega) (by omega)
            have hBZ := hr3 (b : Int) (z : Int) (by omega) (by omega) (by omega) (by omega)
            have hup : ∀ q, Bd 4608 ((jnZ (b : Int) (a : Int) (jnA (Λ 0 0).toNat (b : Int) (jnN (Λ 0 0).toNat (lrN Λ s (Λ 0 0).toNat) b) a) z) 0 q) ∧ Bd 4608 ((jnZ (b : Int) (a : Int) (jnA (Λ 0 0).toNat (b : Int) (jnN (Λ 0 0).toNat (lrN Λ s (Λ 0 0).toNat) b) a) z) 1 q) := fun q => ⟨(hsb3.2.1 q).1.up hmb.2, (hsb3.2.1 q).2.up hmb.2⟩
            have hw1 := hup ((a : Int) * 9 + (z : Int))
            have hw2 := hup ((a : Int) * 9 + (b : Int))
            have hw3 := hup ((b : Int) * 9 + (z : Int))
            have ht1 := tr_rg hw1.1 (Int.le_refl _)
            have ht2 := tr_rg hw2.1 (Int.le_refl _)
            have ht3 := tr_rg hw3.1 (Int.le_refl _)
            have hc1 := tr_rg hw1.2 (Int.le_refl _)
            have hc2 := tr_rg hw2.2 (Int.le_refl _)
            have hc3 := tr_rg hw3.2 (Int.le_refl _)
            have hl1 := lesF_rg ht1 (show 0 ≤ tr9 ((jnZ (b : Int) (a : Int) (jnA (Λ 0 0).toNat (b : Int) (jnN (Λ 0 0).toNat (lrN Λ s (Λ 0 0).toNat) b) a) z) 0 ((a : Int) * 9 + (b : Int))) + tr9 ((jnZ (b : Int) (a : Int) (jnA (Λ 0 0).toNat (b : Int) (jnN (Λ 0 0).toNat (lrN Λ s (Λ 0 0).toNat) b) a) z) 0 ((b : Int) * 9 + (z : Int))) by omega)
            have hl2 := lesF_rg hc1 (show 0 ≤ tr9 ((jnZ (b : Int) (a : Int) (jnA (Λ 0 0).toNat (b : Int) (jnN (Λ 0 0).toNat (lrN Λ s (Λ 0 0).toNat) b) a) z) 1 ((a : Int) * 9 + (b : Int))) + tr9 ((jnZ (b : Int) (a : Int) (jnA (Λ 0 0).toNat (b : Int) (jnN (Λ 0 0).toNat (lrN Λ s (Λ 0 0).toNat) b) a) z) 1 ((b : Int) * 9 + (z : Int))) by omega)
            rw [tr_mn hw1.1 hw2.1 hw3.1] at hl1
            rw [tr_mn hw1.2 hw2.2 hw3.2] at hl2
            refine tz_iload3 (n := 188) (g_at ck_X11_laysWays 113 rfl) rfl ?_
            refine tz_aload0 (n := 189) (g_at ck_X11_laysWays 114 rfl) rfl (g_ne kd_84) ?_
            refine tz_getIw (n := 192) (kz := 1) fk_X11_302 kd_84 (g_at ck_X11_laysWays 115 rfl) rfl rfl ?_
            rw [e843, hN]
            refine tz_icmp_ge (n := 195) (tgt := 297) (g_at ck_X11_laysWays 116 rfl) rfl rfl (by omega) (fun h192 => absurd h192 (by omega)) (fun h192 => ?_)
            refine tz_aload0 (n := 196) (g_at ck_X11_laysWays 117 rfl) rfl (g_ne kd_84) ?_
            refine tz_getAv (n := 199) (a := 110) fk_X11_96 kd_84 (ly_84_52 hL) (g_at ck_X11_laysWays 118 rfl) rfl ?_
            refine tz_bipush (n := 201) (g_at ck_X11_laysWays 119 rfl) rfl rfl ?_
            refine tz_iload2 (n := 202) (g_at ck_X11_laysWays 120 rfl) rfl ?_
            refine tz_imul (n := 203) (g_at ck_X11_laysWays 121 rfl) rfl ?_
            refine tz_iload3 (n := 204) (g_at ck_X11_laysWays 122 rfl) rfl ?_
            refine tz_iadd (n := 205) (g_at ck_X11_laysWays 123 rfl) rfl ?_
            refine tz_aload0 (n := 206) (g_at ck_X11_laysWays 124 rfl) rfl (g_ne kd_84) ?_
            refine tz_getAv (n := 209) (a := 110) fk_X11_96 kd_84 (ly_84_52 hL) (g_at ck_X11_laysWays 125 rfl) rfl ?_
            refine tz_bipush (n := 211) (g_at ck_X11_laysWays 126 rfl) rfl rfl ?_
            refine tz_iload2 (n := 212) (g_at ck_X11_laysWays 127 rfl) rfl ?_
            refine tz_imul (n := 213) (g_at ck_X11_laysWays 128 rfl) rfl ?_
            refine tz_iload3 (n := 214) (g_at ck_X11_laysWays 129 rfl) rfl ?_
            refine tz_iadd (n := 215) (g_at ck_X11_laysWays 130 rfl) rfl ?_
            refine tz_iald (n := 216) kd_110 (by omega) (g_at ck_X11_laysWays 131 rfl) rfl ?_
            rw [hAZ.1]
            refine tz_aload0 (n := 217) (g_at ck_X11_laysWays 132 rfl) rfl (g_ne kd_84) ?_
            refine tz_getAv (n := 220) (a := 110) fk_X11_96 kd_84 (ly_84_52 hL) (g_at ck_X11_laysWays 133 rfl) rfl ?_
            refine tz_bipush (n := 222) (g_at ck_X11_laysWays 134 rfl) rfl rfl ?_
            refine tz_iload2 (n := 223) (g_at ck_X11_laysWays 135 rfl) rfl ?_
            refine tz_imul (n := 224) (g_at ck_X11_laysWays 136 rfl) rfl ?_
            refine tz_iload1 (n := 225) (g_at ck_X11_laysWays 137 rfl) rfl ?_
            refine tz_iadd (n := 226) (g_at ck_X11_laysWays 138 rfl) rfl ?_
            refine tz_iald (n := 227) kd_110 (by omega) (g_at ck_X11_laysWays 139 rfl) rfl ?_
            rw [hAB.1]
            refine tz_aload0 (n := 228) (g_at ck_X11_laysWays 140 rfl) rfl (g_ne kd_84) ?_
            refine tz_getAv (n := 231) (a := 110) fk_X11_96 kd_84 (ly_84_52 hL) (g_at ck_X11_laysWays 141 rfl) rfl ?_
            refine tz_bipush (n := 233) (g_at ck_X11_laysWays 142 rfl) rfl rfl ?_
            refine tz_iload1 (n := 234) (g_at ck_X11_laysWays 143 rfl) rfl ?_
            refine tz_imul (n := 235) (g_at ck_X11_laysWays 144 rfl) rfl ?_
            refine tz_iload3 (n := 236) (g_at ck_X11_laysWays 145 rfl) rfl ?_
            refine tz_iadd (n := 237) (g_at ck_X11_laysWays 146 rfl) rfl ?_
            refine tz_iald (n := 238) kd_110 (by omega) (g_at ck_X11_laysWays 147 rfl) rfl ?_
            rw [hBZ.1]
            refine tz_iadd (n := 239) (g_at ck_X11_laysWays 148 rfl) rfl ?_
            refine tz_csI2 (n := 242) (μ' := μX11_lesser) (cb' := 0) (sb' := 0) ml_X11_362 mo_X11_lesser ms_X11_lesser np_X11_lesser (g_at ck_X11_laysWays 149 rfl) (mp_lesser hR3 (by omega) (by omega)) rfl rfl ⟨by decide, by decide⟩ (Nat.le_of_ble_eq_true rfl) (by decide) (by decide) (fun x239 ρ9 m239 hq => ?_)
            obtain ⟨rfl, hR1, rfl, rfl⟩ := hq
            rw [tr_mn hw1.1 hw2.1 hw3.1]
            refine tz_iastr (n := 243) kd_110 (by omega) (g_at ck_X11_laysWays 150 rfl) rfl hR1 (by omega) (fun hR2 => ?_)
            refine tz_aload0 (n := 244) (g_at ck_X11_laysWays 151 rfl) rfl (g_ne kd_84) ?_
            refine tz_getAv (n := 247) (a := 111) fk_X11_99 kd_84 (ly_84_53 hL) (g_at ck_X11_laysWays 152 rfl) rfl ?_
            refine tz_bipush (n := 249) (g_at ck_X11_laysWays 153 rfl) rfl rfl ?_
            refine tz_iload2 (n := 250) (g_at ck_X11_laysWays 154 rfl) rfl ?_
            refine tz_imul (n := 251) (g_at ck_X11_laysWays 155 rfl) rfl ?_
            refine tz_iload3 (n := 252) (g_at ck_X11_laysWays 156 rfl) rfl ?_
            refine tz_iadd (n := 253) (g_at ck_X11_laysWays 157 rfl) rfl ?_
            refine tz_aload0 (n := 254) (g_at ck_X11_laysWays 158 rfl) rfl (g_ne kd_84) ?_
            refine tz_getAv (n := 257) (a := 111) fk_X11_99 kd_84 (ly_84_53 hL) (g_at ck_X11_laysWays 159 rfl) rfl ?_
            refine tz_bipush (n := 259) (g_at ck_X11_laysWays 160 rfl) rfl rfl ?_
            refine tz_iload2 (n := 260) (g_at ck_X11_laysWays 161 rfl) rfl ?_
            refine tz_imul (n := 261) (g_at ck_X11_laysWays 162 rfl) rfl ?_
            refine tz_iload3 (n := 262) (g_at ck_X11_laysWays 163 rfl) rfl ?_
            refine tz_iadd (n := 263) (g_at ck_X11_laysWays 164 rfl) rfl ?_
            refine tz_iald (n := 264) kd_111 (by omega) (g_at ck_X11_laysWays 165 rfl) rfl ?_
            rw [wr_ne (show (111 : Int) ≠ 110 by decide), hAZ.2]
            refine tz_aload0 (n := 265) (g_at ck_X11_laysWays 166 rfl) rfl (g_ne kd_84) ?_
            refine tz_getAv (n := 268) (a := 111) fk_X11_99 kd_84 (ly_84_53 hL) (g_at ck_X11_laysWays 167 rfl) rfl ?_
            refine tz_bipush (n := 270) (g_at ck_X11_laysWays 168 rfl) rfl rfl ?_
            refine tz_iload2 (n := 271) (g_at ck_X11_laysWays 169 rfl) rfl ?_
            refine tz_imul (n := 272) (g_at ck_X11_laysWays 170 rfl) rfl ?_
            refine tz_iload1 (n := 273) (g_at ck_X11_laysWays 171 rfl) rfl ?_
            refine tz_iadd (n := 274) (g_at ck_X11_laysWays 172 rfl) rfl ?_
            refine tz_iald (n := 275) kd_111 (by omega) (g_at ck_X11_laysWays 173 rfl) rfl ?_
            rw [wr_ne (show (111 : Int) ≠ 110 by decide), hAB.2]
            refine tz_aload0 (n := 276) (g_at ck_X11_laysWays 174 rfl) rfl (g_ne kd_84) ?_
            refine tz_getAv (n := 279) (a := 111) fk_X11_99 kd_84 (ly_84_53 hL) (g_at ck_X11_laysWays 175 rfl) rfl ?_
            refine tz_bipush (n := 281) (g_at ck_X11_laysWays 176 rfl) rfl rfl ?_
            refine tz_iload1 (n := 282) (g_at ck_X11_laysWays 177 rfl) rfl ?_
            refine tz_imul (n := 283) (g_at ck_X11_laysWays 178 rfl) rfl ?_
            refine tz_iload3 (n := 284) (g_at ck_X11_laysWays 179 rfl) rfl ?_
            refine tz_iadd (n := 285) (g_at ck_X11_laysWays 180 rfl) rfl ?_
            refine tz_iald (n := 286) kd_111 (by omega) (g_at ck_X11_laysWays 181 rfl) rfl ?_
            rw [wr_ne (show (111 : Int) ≠ 110 by decide), hBZ.2]
            refine tz_iadd (n := 287) (g_at ck_X11_laysWays 182 rfl) rfl ?_
            refine tz_csI2 (n := 290) (μ' := μX11_lesser) (cb' := 0) (sb' := 0) ml_X11_362 mo_X11_lesser ms_X11_lesser np_X11_lesser (g_at ck_X11_laysWays 183 rfl) (mp_lesser hR2 (by omega) (by omega)) rfl rfl ⟨by decide, by decide⟩ (Nat.le_of_ble_eq_true rfl) (by decide) (by decide) (fun x287 ρ9 m287 hq => ?_)
            obtain ⟨rfl, hR3, rfl, rfl⟩ := hq
            rw [tr_mn hw1.2 hw2.2 hw3.2]
            refine tz_iastr (n := 291) kd_111 (by omega) (g_at ck_X11_laysWays 184 rfl) rfl hR3 (by omega) (fun hR4 => ?_)
            refine tz_iinc3 (n := 294) (g_at ck_X11_laysWays 185 rfl) rfl (by decide) g_hpI ?_
            refine tz_goto (tgt := 187) (g_at ck_X11_laysWays 186 rfl) rfl ?_
            exact ihz _ ⟨hR4, (hF3.wr (by decide)).wr (by decide), RF_s hsb3 hr3 hmb (by omega) (by omega) (by omega) (by omega), hsb3.s hmb (by omega) (by omega) (by omega)⟩
    · intro m1 hinv
      obtain ⟨hR1, hF1, hr1⟩ := hinv
      have e84 : m1 84 = m 84 := hF1 84 (by decide)
      have hcw := hW.2.2.1 (i : Int) (by omega) (by omega)
      have hsc := sig0_WS_c hσ (c := (i : Int)) (by omega)
      refine tz_iload1 (n := 81) (g_at ck_X11_laysWays 46 rfl) rfl ?_
      refine tz_aload0 (n := 82) (g_at ck_X11_laysWays 47 rfl) rfl (g_ne kd_84) ?_
      refine tz_getIw (n := 85) (kz := 1) fk_X11_302 kd_84 (g_at ck_X11_laysWays 48 rfl) rfl rfl ?_
      rw [e84, hN]
      refine tz_icmp_ge (n := 88) (tgt := 165) (g_at ck_X11_laysWays 49 rfl) rfl rfl (by omega) (fun h85 => absurd h85 (by omega)) (fun h85 => ?_)
      refine tz_iconst (n := 89) (g_at ck_X11_laysWays 50 rfl) rfl ?_
      refine tz_istore2 (n := 90) (g_at ck_X11_laysWays 51 rfl) rfl (by decide) g_hpI ?_
      refine g_for (fun j : Nat => ∀ m2 : Mm, (MR m2 ∧ Fr [110, 111] m m2 ∧ RLq (Λ 0 0) m2 (lrR Λ s (i : Int) (wr (wr (lrN Λ s i) 0 ((i : Int) * 9 + (i : Int)) 0) 1 ((i : Int) * 9 + (i : Int)) 0) j) ((i : Int) + 1)) → gT l γ μX11_laysWays 1 0 0 _ _ KK ρ m2 90 [some (vR 84), some (vI (i : Int)), some (vI (j : Int)), none] []) (Λ 3 (i : Int)).toNat ?_ (fun j hj ihj => ?_) 0 (Nat.zero_le _) _ ⟨hR1, hF1, RL_d hr1 (by omega) (by omega)⟩
      · intro m2 hinv
        obtain ⟨hR2, hF2, hr2⟩ := hinv
        have r87 : m2 87 (i : Int) = Λ 3 (i : Int) := by rw [hF2 87 (by decide)]; exact (hM.2.2.1 (i : Int) (by omega) (by omega)).2.2
        refine tz_iload2 (n := 91) (g_at ck_X11_laysWays 52 rfl) rfl ?_
        refine tz_aload0 (n := 92) (g_at ck_X11_laysWays 53 rfl) rfl (g_ne kd_84) ?_
        refine tz_getAv (n := 95) (a := 87) fk_X11_23 kd_84 (ly_84_7 hL) (g_at ck_X11_laysWays 54 rfl) rfl ?_
        refine tz_iload1 (n := 96) (g_at ck_X11_laysWays 55 rfl) rfl ?_
        refine tz_iald (n := 97) kd_87 (by omega) (g_at ck_X11_laysWays 56 rfl) rfl ?_
        rw [r87]
        refine tz_icmp_ge (n := 100) (tgt := 159) (g_at ck_X11_laysWays 57 rfl) rfl rfl (by omega) (fun h97 => ?_) (fun h97 => absurd h97 (by omega))
        refine tz_iinc1 (n := 162) (g_at ck_X11_laysWays 97 rfl) rfl (by decide) g_hpR ?_
        refine tz_goto (tgt := 80) (g_at ck_X11_laysWays 98 rfl) rfl ?_
        refine tz_drop2 ?_
        exact ihi _ ⟨hR2, hF2, hr2⟩
      · intro m2 hinv
        obtain ⟨hR2, hF2, hr2⟩ := hinv
        have r87 : m2 87 (i : Int) = Λ 3 (i : Int) := by rw [hF2 87 (by decide)]; exact (hM.2.2.1 (i : Int) (by omega) (by omega)).2.2
        have r88 : m2 88 (5 * (i : Int) + (j : Int)) = (Λ 4 ((i : Int) * 5 + (j : Int))) := by rw [hF2 88 (by decide)]; exact hM.2.2.2.1 (i : Int) (j : Int) (by omega) (by omega) (by omega) (by omega)
        have het := hW.2.2.2.1 (i : Int) (j : Int) (by omega) (by omega) (by omega) (by omega)
        have htl := hW.2.2.1 _ het.1 het.2
        have r85 : m2 85 (Λ 4 ((i : Int) * 5 + (j : Int))) = Λ 1 (Λ 4 ((i : Int) * 5 + (j : Int))) := by rw [hF2 85 (by decide)]; exact (hM.2.2.1 _ het.1 het.2).1
        refine tz_iload2 (n := 91) (g_at ck_X11_laysWays 52 rfl) rfl ?_
        refine tz_aload0 (n := 92) (g_at ck_X11_laysWays 53 rfl) rfl (g_ne kd_84) ?_
        refine tz_getAv (n := 95) (a := 87) fk_X11_23 kd_84 (ly_84_7 hL) (g_at ck_X11_laysWays 54 rfl) rfl ?_
        refine tz_iload1 (n := 96) (g_at ck_X11_laysWays 55 rfl) rfl ?_
        refine tz_iald (n := 97) kd_87 (by omega) (g_at ck_X11_laysWays 56 rfl) rfl ?_
        rw [r87]
        refine tz_icmp_ge (n := 100) (tgt := 159) (g_at ck_X11_laysWays 57 rfl) rfl rfl (by omega) (fun h97 => absurd h97 (by omega)) (fun h97 => ?_)
        refine tz_aload0 (n := 101) (g_at ck_X11_laysWays 58 rfl) rfl (g_ne kd_84) ?_
        refine tz_getAv (n := 104) (a := 88) fk_X11_26 kd_84 (ly_84_8 hL) (g_at ck_X11_laysWays 59 rfl) rfl ?_
        refine tz_iconst (n := 105) (g_at ck_X11_laysWays 60 rfl) rfl ?_
        refine tz_iload1 (n := 106) (g_at ck_X11_laysWays 61 rfl) rfl ?_
        refine tz_imul (n := 107) (g_at ck_X11_laysWays 62 rfl) rfl ?_
        refine tz_iload2 (n := 108) (g_at ck_X11_laysWays 63 rfl) rfl ?_
        refine tz_iadd (n := 109) (g_at ck_X11_laysWays 64 rfl) rfl ?_
        refine tz_iald (n := 110) kd_88 (by omega) (g_at ck_X11_laysWays 65 rfl) rfl ?_
        rw [r88]
        refine tz_istore3 (n := 111) (g_at ck_X11_laysWays 66 rfl) rfl (by decide) g_hpI ?_
        refine tz_aload0 (n := 112) (g_at ck_X11_laysWays 67 rfl) rfl (g_ne kd_84) ?_
        refine tz_iconst (n := 113) (g_at ck_X11_laysWays 68 rfl) rfl ?_
        refine tz_iload1 (n := 114) (g_at ck_X11_laysWays 69 rfl) rfl ?_
        refine tz_iload2 (n := 115) (g_at ck_X11_laysWays 70 rfl) rfl ?_
        refine tz_cvI3 (n := 118) (μ' := μX11_isShut) (cb' := 0) (sb' := 0) ml_X11_338 mo_X11_isShut mv_X11_isShut np_X11_isShut kd_84 (g_at ck_X11_laysWays 71 rfl) (mp_isShut hL hR2 (Or.inl rfl) (by omega)) rfl rfl rfl ⟨by decide, by decide⟩ (Nat.le_of_ble_eq_true rfl) (by decide) (by decide) (fun x115 ρ9 m115 hq => ?_)
        obtain ⟨rfl, hR5, rfl, rfl⟩ := hq
        rw [hF2 103 (by decide), show (0 : Int) + 26 + (i : Int) = 26 + (i : Int) by omega, hs (26 + (i : Int)) (by omega) (by omega)]
        have h01 := shutB_01 (s (26 + (i : Int))) (j : Int)
        refine tz_if_eq (n := 121) (tgt := 124) (g_at ck_X11_laysWays 72 rfl) rfl rfl (by omega) (fun h118 => ?_) (fun h118 => ?_)
        · skip
          refine tz_aload0 (n := 125) (g_at ck_X11_laysWays 74 rfl) rfl (g_ne kd_84) ?_
          refine tz_getAv (n := 128) (a := 110) fk_X11_96 kd_84 (ly_84_52 hL) (g_at ck_X11_laysWays 75 rfl) rfl ?_
          refine tz_bipush (n := 130) (g_at ck_X11_laysWays 76 rfl) rfl rfl ?_
          refine tz_iload1 (n := 131) (g_at ck_X11_laysWays 77 rfl) rfl ?_
          refine tz_imul (n := 132) (g_at ck_X11_laysWays 78 rfl) rfl ?_
          refine tz_iload3 (n := 133) (g_at ck_X11_laysWays 79 rfl) rfl ?_
          refine tz_iadd (n := 134) (g_at ck_X11_laysWays 80 rfl) rfl ?_
          refine tz_iconst (n := 135) (g_at ck_X11_laysWays 81 rfl) rfl ?_
          refine tz_iastr (n := 136) kd_110 (by omega) (g_at ck_X11_laysWays 82 rfl) rfl hR5 (by decide) (fun hR6 => ?_)
          refine tz_aload0 (n := 137) (g_at ck_X11_laysWays 83 rfl) rfl (g_ne kd_84) ?_
          refine tz_getAv (n := 140) (a := 111) fk_X11_99 kd_84 (ly_84_53 hL) (g_at ck_X11_laysWays 84 rfl) rfl ?_
          refine tz_bipush (n := 142) (g_at ck_X11_laysWays 85 rfl) rfl rfl ?_
          refine tz_iload1 (n := 143) (g_at ck_X11_laysWays 86 rfl) rfl ?_
          refine tz_imul (n := 144) (g_at ck_X11_laysWays 87 rfl) rfl ?_
          refine tz_iload3 (n := 145) (g_at ck_X11_laysWays 88 rfl) rfl ?_
          refine tz_iadd (n := 146) (g_at ck_X11_laysWays 89 rfl) rfl ?_
          refine tz_aload0 (n := 147) (g_at ck_X11_laysWays 90 rfl) rfl (g_ne kd_84) ?_
          refine tz_getAv (n := 150) (a := 85) fk_X11_16 kd_84 (ly_84_5 hL) (g_at ck_X11_laysWays 91 rfl) rfl ?_
          refine tz_iload3 (n := 151) (g_at ck_X11_laysWays 92 rfl) rfl ?_
          refine tz_iald (n := 152) kd_85 (by omega) (g_at ck_X11_laysWays 93 rfl) rfl ?_
          rw [wr_ne (show (85 : Int) ≠ 110 by decide), r85]
          refine tz_iastr (n := 153) kd_111 (by omega) (g_at ck_X11_laysWays 94 rfl) rfl hR6 (by omega) (fun hR7 => ?_)
          refine tz_iinc2 (n := 156) (g_at ck_X11_laysWays 95 rfl) rfl (by decide) g_hpI ?_
          refine tz_goto (tgt := 90) (g_at ck_X11_laysWays 96 rfl) rfl ?_
          refine tz_drop3 ?_
          have e9 : (lrR Λ s (i : Int) (wr (wr (lrN Λ s i) 0 ((i : Int) * 9 + (i : Int)) 0) 1 ((i : Int) * 9 + (i : Int)) 0) (j + 1)) = lrP Λ (i : Int) (Λ 4 ((i : Int) * 5 + (j : Int))) (lrR Λ s (i : Int) (wr (wr (lrN Λ s i) 0 ((i : Int) * 9 + (i : Int)) 0) 1 ((i : Int) * 9 + (i : Int)) 0) j) := if_pos h118
          rw [e9] at ihj
          exact ihj _ ⟨hR7, (hF2.wr (by decide)).wr (by decide), RL_r hr2 (by omega) (by omega) het ⟨htl.1, htl.2.1⟩⟩
        · skip
          refine tz_goto (tgt := 153) (g_at ck_X11_laysWays 73 rfl) rfl ?_
          refine tz_iinc2 (n := 156) (g_at ck_X11_laysWays 95 rfl) rfl (by decide) g_hpI ?_
          refine tz_goto (tgt := 90) (g_at ck_X11_laysWays 96 rfl) rfl ?_
          refine tz_drop3 ?_
          have e9 : (lrR Λ s (i : Int) (wr (wr (lrN Λ s i) 0 ((i : Int) * 9 + (i : Int)) 0) 1 ((i : Int) * 9 + (i : Int)) 0) (j + 1)) = (lrR Λ s (i : Int) (wr (wr (lrN Λ s i) 0 ((i : Int) * 9 + (i : Int)) 0) 1 ((i : Int) * 9 + (i : Int)) 0) j) := if_neg h118
          rw [e9] at ihj
          exact ihj _ ⟨hR5, hF2, hr2⟩
  · intro m1 hinv
    obtain ⟨hR1, hF1, hq1⟩ := hinv
    have e84 : m1 84 = m 84 := hF1 84 (by decide)
    refine tz_iload1 (n := 3) (g_at ck_X11_laysWays 2 rfl) rfl ?_
    refine tz_aload0 (n := 4) (g_at ck_X11_laysWays 3 rfl) rfl (g_ne kd_84) ?_
    refine tz_getIw (n := 7) (kz := 1) fk_X11_302 kd_84 (g_at ck_X11_laysWays 4 rfl) rfl rfl ?_
    rw [e84, hN]
    refine tz_icmp_ge (n := 10) (tgt := 78) (g_at ck_X11_laysWays 5 rfl) rfl rfl (by omega) (fun h7 => absurd h7 (by omega)) (fun h7 => ?_)
    refine tz_iconst (n := 11) (g_at ck_X11_laysWays 6 rfl) rfl ?_
    refine tz_istore2 (n := 12) (g_at ck_X11_laysWays 7 rfl) rfl (by decide) g_hpI ?_
    refine g_for (fun j : Nat => ∀ m2 : Mm, (MR m2 ∧ Fr [110, 111] m m2 ∧ Qi (Λ 0 0) m2 (i : Int) (j : Int)) → gT l γ μX11_laysWays 1 0 0 _ _ KK ρ m2 12 [some (vR 84), some (vI (i : Int)), some (vI (j : Int)), none] []) (Λ 0 0).toNat ?_ (fun j hj ihj => ?_) 0 (Nat.zero_le _) _ ⟨hR1, hF1, hq1⟩
    · intro m2 hinv
      obtain ⟨hR2, hF2, hq2⟩ := hinv
      have e842 : m2 84 = m 84 := hF2 84 (by decide)
      refine tz_iload2 (n := 13) (g_at ck_X11_laysWays 8 rfl) rfl ?_
      refine tz_aload0 (n := 14) (g_at ck_X11_laysWays 9 rfl) rfl (g_ne kd_84) ?_
      refine tz_getIw (n := 17) (kz := 1) fk_X11_302 kd_84 (g_at ck_X11_laysWays 10 rfl) rfl rfl ?_
      rw [e842, hN]
      refine tz_icmp_ge (n := 20) (tgt := 72) (g_at ck_X11_laysWays 11 rfl) rfl rfl (by omega) (fun h17 => ?_) (fun h17 => absurd h17 (by omega))
      refine tz_iinc1 (n := 75) (g_at ck_X11_laysWays 42 rfl) rfl (by decide) g_hpR ?_
      refine tz_goto (tgt := 2) (g_at ck_X11_laysWays 43 rfl) rfl ?_
      refine tz_drop2 ?_
      exact ihi _ ⟨hR2, hF2, fun a z h1 h2 h3 h4 => hq2 a z h1 h2 h3 (by omega)⟩
    · intro m2 hinv
      obtain ⟨hR2, hF2, hq2⟩ := hinv
      have e842 : m2 84 = m 84 := hF2 84 (by decide)
      refine tz_iload2 (n := 13) (g_at ck_X11_laysWays 8 rfl) rfl ?_
      refine tz_aload0 (n := 14) (g_at ck_X11_laysWays 9 rfl) rfl (g_ne kd_84) ?_
      refine tz_getIw (n := 17) (kz := 1) fk_X11_302 kd_84 (g_at ck_X11_laysWays 10 rfl) rfl rfl ?_
      rw [e842, hN]
      refine tz_icmp_ge (n := 20) (tgt := 72) (g_at ck_X11_laysWays 11 rfl) rfl rfl (by omega) (fun h17 => absurd h17 (by omega)) (fun h17 => ?_)
      refine tz_aload0 (n := 21) (g_at ck_X11_laysWays 12 rfl) rfl (g_ne kd_84) ?_
      refine tz_getAv (n := 24) (a := 110) fk_X11_96 kd_84 (ly_84_52 hL) (g_at ck_X11_laysWays 13 rfl) rfl ?_
      refine tz_bipush (n := 26) (g_at ck_X11_laysWays 14 rfl) rfl rfl ?_
      refine tz_iload1 (n := 27) (g_at ck_X11_laysWays 15 rfl) rfl ?_
      refine tz_imul (n := 28) (g_at ck_X11_laysWays 16 rfl) rfl ?_
      refine tz_iload2 (n := 29) (g_at ck_X11_laysWays 17 rfl) rfl ?_
      refine tz_iadd (n := 30) (g_at ck_X11_laysWays 18 rfl) rfl ?_
      refine tz_iload1 (n := 31) (g_at ck_X11_laysWays 19 rfl) rfl ?_
      refine tz_iload2 (n := 32) (g_at ck_X11_laysWays 20 rfl) rfl ?_
      refine tz_icmp_ne (n := 35) (tgt := 39) (g_at ck_X11_laysWays 21 rfl) rfl rfl ⟨(by omega), (by omega), (by omega), (by omega)⟩ (fun h32 => ?_) (fun h32 => ?_)
      · skip
        refine tz_sipush (n := 42) (g_at ck_X11_laysWays 24 rfl) rfl rfl ?_
        refine tz_iastr (n := 43) kd_110 (by omega) (g_at ck_X11_laysWays 25 rfl) rfl hR2 (by decide) (fun hR8 => ?_)
        refine tz_aload0 (n := 44) (g_at ck_X11_laysWays 26 rfl) rfl (g_ne kd_84) ?_
        refine tz_getAv (n := 47) (a := 111) fk_X11_99 kd_84 (ly_84_53 hL) (g_at ck_X11_laysWays 27 rfl) rfl ?_
        refine tz_bipush (n := 49) (g_at ck_X11_laysWays 28 rfl) rfl rfl ?_
        refine tz_iload1 (n := 50) (g_at ck_X11_laysWays 29 rfl) rfl ?_
        refine tz_imul (n := 51) (g_at ck_X11_laysWays 30 rfl) rfl ?_
        refine tz_iload2 (n := 52) (g_at ck_X11_laysWays 31 rfl) rfl ?_
        refine tz_iadd (n := 53) (g_at ck_X11_laysWays 32 rfl) rfl ?_
        refine tz_iload1 (n := 54) (g_at ck_X11_laysWays 33 rfl) rfl ?_
        refine tz_iload2 (n := 55) (g_at ck_X11_laysWays 34 rfl) rfl ?_
        refine tz_icmp_ne (n := 58) (tgt := 62) (g_at ck_X11_laysWays 35 rfl) rfl rfl ⟨(by omega), (by omega), (by omega), (by omega)⟩ (fun h55 => ?_) (fun h55 => absurd h55 (by omega))
        refine tz_sipush (n := 65) (g_at ck_X11_laysWays 38 rfl) rfl rfl ?_
        refine tz_iastr (n := 66) kd_111 (by omega) (g_at ck_X11_laysWays 39 rfl) rfl hR8 (by decide) (fun hR9 => ?_)
        refine tz_iinc2 (n := 69) (g_at ck_X11_laysWays 40 rfl) rfl (by decide) g_hpI ?_
        refine tz_goto (tgt := 12) (g_at ck_X11_laysWays 41 rfl) rfl ?_
        exact ihj _ ⟨hR9, (hF2.wr (by decide)).wr (by decide), Qi_s hq2 (by omega) (by omega) (by omega) ((if_neg h32).symm)⟩
      · skip
        refine tz_iconst (n := 36) (g_at ck_X11_laysWays 22 rfl) rfl ?_
        refine tz_goto (tgt := 42) (g_at ck_X11_laysWays 23 rfl) rfl ?_
        refine tz_iastr (n := 43) kd_110 (by omega) (g_at ck_X11_laysWays 25 rfl) rfl hR2 (by decide) (fun hR10 => ?_)
        refine tz_aload0 (n := 44) (g_at ck_X11_laysWays 26 rfl) rfl (g_ne kd_84) ?_
        refine tz_getAv (n := 47) (a := 111) fk_X11_99 kd_84 (ly_84_53 hL) (g_at ck_X11_laysWays 27 rfl) rfl ?_
        refine tz_bipush (n := 49) (g_at ck_X11_laysWays 28 rfl) rfl rfl ?_
        refine tz_iload1 (n := 50) (g_at ck_X11_laysWays 29 rfl) rfl ?_
        refine tz_imul (n := 51) (g_at ck_X11_laysWays 30 rfl) rfl ?_
        refine tz_iload2 (n := 52) (g_at ck_X11_laysWays 31 rfl) rfl ?_
        refine tz_iadd (n := 53) (g_at ck_X11_laysWays 32 rfl) rfl ?_
        refine tz_iload1 (n := 54) (g_at ck_X11_laysWays 33 rfl) rfl ?_
        refine tz_iload2 (n := 55) (g_at ck_X11_laysWays 34 rfl) rfl ?_
        refine tz_icmp_ne (n := 58) (tgt := 62) (g_at ck_X11_laysWays 35 rfl) rfl rfl ⟨(by omega), (by omega), (by omega), (by omega)⟩ (fun h55 => absurd h55 (by omega)) (fun h55 => ?_)
        refine tz_iconst (n := 59) (g_at ck_X11_laysWays 36 rfl) rfl ?_
        refine tz_goto (tgt := 65) (g_at ck_X11_laysWays 37 rfl) rfl ?_
        refine tz_iastr (n := 66) kd_111 (by omega) (g_at ck_X11_laysWays 39 rfl) rfl hR10 (by decide) (fun hR11 => ?_)
        refine tz_iinc2 (n := 69) (g_at ck_X11_laysWays 40 rfl) rfl (by decide) g_hpI ?_
        refine tz_goto (tgt := 12) (g_at ck_X11_laysWays 41 rfl) rfl ?_
        exact ihj _ ⟨hR11, (hF2.wr (by decide)).wr (by decide), Qi_s hq2 (by omega) (by omega) (by omega) ((if_pos h32).symm)⟩
