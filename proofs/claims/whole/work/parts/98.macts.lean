theorem msk8 : ∀ i : Nat, i < 32 → 8 ≤ i → (Int32.ofInt 255).toBitVec.getLsbD i = false := by decide
theorem ush_24 (x : Int) : bAnd (bShr x 24) 255 = bAnd (bUsh x 24) 255 := by
  show (Int32.ofInt ((Int32.ofInt x >>> (Int32.ofInt 24 &&& 31)).toInt) &&& Int32.ofInt 255).toInt = (Int32.ofInt (((Int32.ofInt x).toUInt32 >>> ((Int32.ofInt 24).toUInt32 &&& Int32.toUInt32 31)).toInt32.toInt) &&& Int32.ofInt 255).toInt
  rw [Int32.ofInt_toInt, Int32.ofInt_toInt]
  generalize Int32.ofInt x = a
  have e : (a >>> (Int32.ofInt 24 &&& 31)) &&& Int32.ofInt 255 = (a.toUInt32 >>> ((Int32.ofInt 24).toUInt32 &&& Int32.toUInt32 31)).toInt32 &&& Int32.ofInt 255 := by
    apply Int32.toBitVec_inj.mp
    rw [Int32.toBitVec_and, Int32.toBitVec_and, Int32.toBitVec_shiftRight]
    have e1 : (a.toUInt32 >>> ((Int32.ofInt 24).toUInt32 &&& Int32.toUInt32 31)).toInt32.toBitVec = a.toBitVec >>> 24 := rfl
    have e2 : BitVec.sshiftRight' a.toBitVec ((Int32.ofInt 24 &&& 31).toBitVec.smod 32) = a.toBitVec.sshiftRight 24 := rfl
    rw [e1, e2]
    apply BitVec.eq_of_getLsbD_eq
    intro i hi
    by_cases h : 8 ≤ i
    · simp only [BitVec.getLsbD_and, msk8 i hi h, Bool.and_false]
    · simp only [BitVec.getLsbD_and, BitVec.getLsbD_sshiftRight, BitVec.getLsbD_ushiftRight]
      have h1 : decide (32 ≤ i) = false := by simp only [decide_eq_false_iff_not]; omega
      have h2 : 24 + i < 32 := by omega
      simp only [h1, h2, Bool.not_false, Bool.true_and, if_true]
  rw [e]
theorem ush_16 (x : Int) : bAnd (bShr x 16) 255 = bAnd (bUsh x 16) 255 := by
  show (Int32.ofInt ((Int32.ofInt x >>> (Int32.ofInt 16 &&& 31)).toInt) &&& Int32.ofInt 255).toInt = (Int32.ofInt (((Int32.ofInt x).toUInt32 >>> ((Int32.ofInt 16).toUInt32 &&& Int32.toUInt32 31)).toInt32.toInt) &&& Int32.ofInt 255).toInt
  rw [Int32.ofInt_toInt, Int32.ofInt_toInt]
  generalize Int32.ofInt x = a
  have e : (a >>> (Int32.ofInt 16 &&& 31)) &&& Int32.ofInt 255 = (a.toUInt32 >>> ((Int32.ofInt 16).toUInt32 &&& Int32.toUInt32 31)).toInt32 &&& Int32.ofInt 255 := by
    apply Int32.toBitVec_inj.mp
    rw [Int32.toBitVec_and, Int32.toBitVec_and, Int32.toBitVec_shiftRight]
    have e1 : (a.toUInt32 >>> ((Int32.ofInt 16).toUInt32 &&& Int32.toUInt32 31)).toInt32.toBitVec = a.toBitVec >>> 16 := rfl
    have e2 : BitVec.sshiftRight' a.toBitVec ((Int32.ofInt 16 &&& 31).toBitVec.smod 32) = a.toBitVec.sshiftRight 16 := rfl
    rw [e1, e2]
    apply BitVec.eq_of_getLsbD_eq
    intro i hi
    by_cases h : 8 ≤ i
    · simp only [BitVec.getLsbD_and, msk8 i hi h, Bool.and_false]
    · simp only [BitVec.getLsbD_and, BitVec.getLsbD_sshiftRight, BitVec.getLsbD_ushiftRight]
      have h1 : decide (32 ≤ i) = false := by simp only [decide_eq_false_iff_not]; omega
      have h2 : 16 + i < 32 := by omega
      simp only [h1, h2, Bool.not_false, Bool.true_and, if_true]
  rw [e]
theorem ush_8 (x : Int) : bAnd (bShr x 8) 255 = bAnd (bUsh x 8) 255 := by
  show (Int32.ofInt ((Int32.ofInt x >>> (Int32.ofInt 8 &&& 31)).toInt) &&& Int32.ofInt 255).toInt = (Int32.ofInt (((Int32.ofInt x).toUInt32 >>> ((Int32.ofInt 8).toUInt32 &&& Int32.toUInt32 31)).toInt32.toInt) &&& Int32.ofInt 255).toInt
  rw [Int32.ofInt_toInt, Int32.ofInt_toInt]
  generalize Int32.ofInt x = a
  have e : (a >>> (Int32.ofInt 8 &&& 31)) &&& Int32.ofInt 255 = (a.toUInt32 >>> ((Int32.ofInt 8).toUInt32 &&& Int32.toUInt32 31)).toInt32 &&& Int32.ofInt 255 := by
    apply Int32.toBitVec_inj.mp
    rw [Int32.toBitVec_and, Int32.toBitVec_and, Int32.toBitVec_shiftRight]
    have e1 : (a.toUInt32 >>> ((Int32.ofInt 8).toUInt32 &&& Int32.toUInt32 31)).toInt32.toBitVec = a.toBitVec >>> 8 := rfl
    have e2 : BitVec.sshiftRight' a.toBitVec ((Int32.ofInt 8 &&& 31).toBitVec.smod 32) = a.toBitVec.sshiftRight 8 := rfl
    rw [e1, e2]
    apply BitVec.eq_of_getLsbD_eq
    intro i hi
    by_cases h : 8 ≤ i
    · simp only [BitVec.getLsbD_and, msk8 i hi h, Bool.and_false]
    · simp only [BitVec.getLsbD_and, BitVec.getLsbD_sshiftRight, BitVec.getLsbD_ushiftRight]
      have h1 : decide (32 ≤ i) = false := by simp only [decide_eq_false_iff_not]; omega
      have h2 : 8 + i < 32 := by omega
      simp only [h1, h2, Bool.not_false, Bool.true_and, if_true]
  rw [e]
theorem ush_0 (x : Int) : bAnd (bShr x 0) 255 = bAnd (bUsh x 0) 255 := by
  show (Int32.ofInt ((Int32.ofInt x >>> (Int32.ofInt 0 &&& 31)).toInt) &&& Int32.ofInt 255).toInt = (Int32.ofInt (((Int32.ofInt x).toUInt32 >>> ((Int32.ofInt 0).toUInt32 &&& Int32.toUInt32 31)).toInt32.toInt) &&& Int32.ofInt 255).toInt
  rw [Int32.ofInt_toInt, Int32.ofInt_toInt]
  generalize Int32.ofInt x = a
  have e : (a >>> (Int32.ofInt 0 &&& 31)) &&& Int32.ofInt 255 = (a.toUInt32 >>> ((Int32.ofInt 0).toUInt32 &&& Int32.toUInt32 31)).toInt32 &&& Int32.ofInt 255 := by
    apply Int32.toBitVec_inj.mp
    rw [Int32.toBitVec_and, Int32.toBitVec_and, Int32.toBitVec_shiftRight]
    have e1 : (a.toUInt32 >>> ((Int32.ofInt 0).toUInt32 &&& Int32.toUInt32 31)).toInt32.toBitVec = a.toBitVec >>> 0 := rfl
    have e2 : BitVec.sshiftRight' a.toBitVec ((Int32.ofInt 0 &&& 31).toBitVec.smod 32) = a.toBitVec.sshiftRight 0 := rfl
    rw [e1, e2]
    apply BitVec.eq_of_getLsbD_eq
    intro i hi
    by_cases h : 8 ≤ i
    · simp only [BitVec.getLsbD_and, msk8 i hi h, Bool.and_false]
    · simp only [BitVec.getLsbD_and, BitVec.getLsbD_sshiftRight, BitVec.getLsbD_ushiftRight]
      have h1 : decide (32 ≤ i) = false := by simp only [decide_eq_false_iff_not]; omega
      have h2 : 0 + i < 32 := by omega
      simp only [h1, h2, Bool.not_false, Bool.true_and, if_true]
  rw [e]

/-! The reference: acts. -/
/-- what may have changed: cells of L, fields ks of the reference -/
def FX (L ks : List Int) (m m9 : Mm) : Prop := Fr L m m9 ∧ ∀ k, k ∉ ks → m9 84 k = m 84 k
theorem FX.rf {L ks : List Int} {m : Mm} : FX L ks m m := ⟨Fr.rf, fun _ _ => rfl⟩
theorem FX.tr {L ks : List Int} {a b c : Mm} (h : FX L ks a b) (k : FX L ks b c) : FX L ks a c := ⟨h.1.tr k.1, fun x hx => (k.2 x hx).trans (h.2 x hx)⟩
theorem FX.sub {L L' ks ks' : List Int} {a b : Mm} (h : FX L ks a b) (h1 : ∀ x ∈ L, x ∈ L') (h2 : ∀ x ∈ ks, x ∈ ks') : FX L' ks' a b := ⟨h.1.sub h1, fun x hx => h.2 x fun h9 => hx (h2 x h9)⟩
theorem FX.w {L ks : List Int} {a b : Mm} {r k v : Int} (h : FX L ks a b) (hr : r ∈ L) (hk : r = 84 → k ∈ ks) : FX L ks a (wr b r k v) := ⟨h.1.wr hr, fun x hx => by
  show (if (84 : Int) = r ∧ x = k then v else b 84 x) = a 84 x
  rw [if_neg (fun h9 => hx (by rw [h9.2]; exact hk h9.1.symm))]
  exact h.2 x hx⟩
theorem FX.l {L : List Int} {a b : Mm} (h : Fr L a b) (hL : (84 : Int) ∉ L) {ks : List Int} : FX L ks a b := ⟨h, fun x _ => by rw [h 84 hL]⟩
theorem FX.w0 {m : Mm} {c : Int} : FX [84] [0] m (wr m 84 0 c) := FX.rf.w (by decide) (fun _ => by decide)
def lyI (t : Int → Int) (n v : Int) (k : Nat) : Int → Int := fd (fun i u => up u (n + (i : Int)) (bAnd (bUsh v (24 - 8 * (i : Int))) 255)) t k
theorem ush_255 (x : Int) : ∀ i : Nat, i < 4 → bAnd (bShr x (24 - 8 * (i : Int))) 255 = bAnd (bUsh x (24 - 8 * (i : Int))) 255
  | 0, _ => ush_24 x
  | 1, _ => ush_16 x
  | 2, _ => ush_8 x
  | 3, _ => ush_0 x
  | i + 4, h => absurd h (by omega)
/-- the tape -/
def MTp (m : Mm) (t : Int → Int) (n : Int) : Prop := m 84 12 = n ∧ ∀ j, 0 ≤ j → j < n → m 91 j = t j
theorem MTp.s {m : Mm} {t : Int → Int} {n v : Int} (h : MTp m t n) : MTp (wr (wr m 91 n v) 84 12 (n + 1)) (up t n v) (n + 1) := ⟨by rw [wr_same], fun j h1 h2 => by
  rw [wr_ne (by decide), wr_at]
  by_cases e : j = n
  · rw [if_pos e, e, up_at]
  · rw [if_neg e, up_ne e]
    exact h.2 j h1 (by omega)⟩
/-- what is kept, the oldest first -/
def AcM (m : Mm) (n : Int) (α : Mm) : Prop := m 84 45 = n ∧ ∀ k j, 0 ≤ k → k < n → 0 ≤ j → j < 35 → m 104 (35 * k + j) = α k j
def keepN (n : Int) : Int := if n = 40 then 40 else n + 1
def keepA (n : Int) (α : Mm) (s : Int → Int) : Mm := fun k j => if n = 40 then (if k = 39 then s j else α (k + 1) j) else (if k = n then s j else α k j)
/-- the shelf moved down by i numbers -/
def ShD (m m1 : Mm) (i : Int) : Prop := ∀ x, 0 ≤ x → (x < i → m1 104 x = m 104 (x + 35)) ∧ (i ≤ x → m1 104 x = m 104 x)
theorem ShD.s {m m1 : Mm} {i v : Int} (h : ShD m m1 i) (hi : 0 ≤ i) (hv : v = m 104 (i + 35)) : ShD m (wr m1 104 i v) (i + 1) := fun x h1 => by
  rw [wr_at]
  by_cases e : x = i
  · rw [if_pos e, e]
    exact ⟨fun _ => hv, fun h9 => absurd h9 (by omega)⟩
  · rw [if_neg e]
    exact ⟨fun h9 => (h x h1).1 (by omega), fun h9 => (h x h1).2 (by omega)⟩
/-- the row laid at place b of cell a, i numbers of it -/
def Lay (a : Int) (m m1 : Mm) (b : Int) (s : Int → Int) (i : Int) : Prop := ∀ x, (b ≤ x → x < b + i → m1 a x = s (x - b)) ∧ (¬ (b ≤ x ∧ x < b + i) → m1 a x = m a x)
theorem Lay.z {a b : Int} {m : Mm} {s : Int → Int} : Lay a m m b s 0 := fun x => ⟨fun h1 h2 => absurd h2 (by omega), fun _ => rfl⟩
theorem Lay.s {a b i v : Int} {m m1 : Mm} {s : Int → Int} (h : Lay a m m1 b s i) (hi : 0 ≤ i) (hv : v = s i) : Lay a m (wr m1 a (b + i) v) b s (i + 1) := fun x => by
  rw [wr_at]
  by_cases e : x = b + i
  · rw [if_pos e, hv, e, show b + i - b = i by omega]
    exact ⟨fun _ _ => rfl, fun h9 => absurd ⟨by omega, by omega⟩ h9⟩
  · rw [if_neg e]
    exact ⟨fun h1 h2 => (h x).1 h1 (by omega), fun h9 => (h x).2 fun h8 => h9 ⟨h8.1, by omega⟩⟩
theorem AcM.k1 {m m1 m9 α : Mm} {n : Int} {s : Int → Int} (h : AcM m n α) (hn : 0 ≤ n ∧ n < 40) (h1 : Lay 104 m m1 (35 * n) s 35) (e4 : m9 104 = m1 104) (e5 : m9 84 45 = n + 1) : AcM m9 (keepN n) (keepA n α s) := by
  unfold keepN keepA
  rw [if_neg (by omega)]
  refine ⟨e5, fun k j k1 k2 j1 j2 => ?_⟩
  rw [e4]
  show m1 104 (35 * k + j) = if n = 40 then (if k = 39 then s j else α (k + 1) j) else (if k = n then s j else α k j)
  rw [if_neg (by omega)]
  by_cases e : k = n
  · rw [if_pos e, e, (h1 (35 * n + j)).1 (by omega) (by omega)]
    exact congrArg s (by omega)
  · rw [if_neg e, (h1 (35 * k + j)).2 (by omega)]
    exact h.2 k j k1 (by omega) j1 j2
theorem AcM.k2 {m m0 m1 m9 α : Mm} {s : Int → Int} (h : AcM m 40 α) (h0 : ShD m m0 1365) (h1 : Lay 104 m0 m1 (35 * 39) s 35) (e4 : m9 104 = m1 104) (e5 : m9 84 45 = 40) : AcM m9 (keepN 40) (keepA 40 α s) := by
  unfold keepN keepA
  rw [if_pos rfl]
  refine ⟨e5, fun k j k1 k2 j1 j2 => ?_⟩
  rw [e4]
  show m1 104 (35 * k + j) = if (40 : Int) = 40 then (if k = 39 then s j else α (k + 1) j) else (if k = 40 then s j else α k j)
  rw [if_pos rfl]
  by_cases e : k = 39
  · rw [if_pos e, e, (h1 (35 * 39 + j)).1 (by omega) (by omega)]
    exact congrArg s (by omega)
  · rw [if_neg e, (h1 (35 * k + j)).2 (by omega), (h0 (35 * k + j) (by omega)).1 (by omega), show 35 * k + j + 35 = 35 * (k + 1) + j by omega]
    exact h.2 (k + 1) j (by omega) (by omega) j1 j2
theorem mp_lays {l : Launch} {γ : Gh} {ρ m : Mm} {t : Int → Int} {n v : Int} (hL : LY ρ) (hR : MR m) (hT : MTp m t n) (hn : 0 ≤ n ∧ n ≤ 696) : gE l γ μX11_lays 0 0 0 (rV KK fun ρ9 m9 => ρ = ρ9 ∧ MR m9 ∧ MTp m9 (lyI t n v 4) (n + 4) ∧ FX [84, 91] [12] m m9) xN KK ρ m [vR 84, vI v] := by
  refine gE.ofw cl_X11.2 ?_ rfl rfl (Nat.le_of_ble_eq_true rfl)
  show gT l γ μX11_lays 0 0 0 _ _ KK ρ m 0 [some (vR 84), some (vI v), none] []
  refine tz_bipush (n := 2) (g_at ck_X11_lays 0 rfl) rfl rfl ?_
  refine tz_istore2 (n := 3) (g_at ck_X11_lays 1 rfl) rfl (by decide) g_hpI ?_
  suffices hlp : ∀ i : Nat, i ≤ 4 → ∀ m1 : Mm, (MR m1 ∧ MTp m1 (lyI t n v i) (n + (i : Int)) ∧ FX [84, 91] [12] m m1) → gT l γ μX11_lays 0 0 0 _ _ KK ρ m1 3 [some (vR 84), some (vI v), some (vI (24 - 8 * (i : Int)))] [] by
    have h0 := hlp 0 (Nat.zero_le _)
    rw [show (24 : Int) - 8 * ((0 : Nat) : Int) = 24 by decide] at h0
    exact h0 _ ⟨hR, (by rw [show n + ((0 : Nat) : Int) = n by omega]; exact hT), FX.rf⟩
  refine g_for (fun i : Nat => ∀ m1 : Mm, (MR m1 ∧ MTp m1 (lyI t n v i) (n + (i : Int)) ∧ FX [84, 91] [12] m m1) → gT l γ μX11_lays 0 0 0 _ _ KK ρ m1 3 [some (vR 84), some (vI v), some (vI (24 - 8 * (i : Int)))] []) 4 ?_ (fun i hi ihi => ?_)
  · intro m1 hinv
    obtain ⟨hR1, hT1, hX1⟩ := hinv
    refine tz_iload2 (n := 4) (g_at ck_X11_lays 2 rfl) rfl ?_
    refine tz_if_lt (n := 7) (tgt := 39) (g_at ck_X11_lays 3 rfl) rfl rfl (by omega) (fun h4 => ?_) (fun h4 => absurd h4 (by omega))
    exact tz_vret (g_at ck_X11_lays 22 rfl) rfl (rV_mk ⟨rfl, hR1, hT1, hX1⟩)
  · intro m1 hinv
    obtain ⟨hR1, hT1, hX1⟩ := hinv
    refine tz_iload2 (n := 4) (g_at ck_X11_lays 2 rfl) rfl ?_
    refine tz_if_lt (n := 7) (tgt := 39) (g_at ck_X11_lays 3 rfl) rfl rfl (by omega) (fun h4 => absurd h4 (by omega)) (fun h4 => ?_)
    refine tz_aload0 (n := 8) (g_at ck_X11_lays 4 rfl) rfl (g_ne kd_84) ?_
    refine tz_getAv (n := 11) (a := 91) fk_X11_35 kd_84 (ly_84_11 hL) (g_at ck_X11_lays 5 rfl) rfl ?_
    refine tz_aload0 (n := 12) (g_at ck_X11_lays 6 rfl) rfl (g_ne kd_84) ?_
    refine tz_getIw (n := 15) (kz := 12) fk_X11_135 kd_84 (g_at ck_X11_lays 7 rfl) rfl rfl ?_
    rw [hT1.1]
    refine tz_iload1 (n := 16) (g_at ck_X11_lays 8 rfl) rfl ?_
    refine tz_iload2 (n := 17) (g_at ck_X11_lays 9 rfl) rfl ?_
    refine tz_ishr (n := 18) (g_at ck_X11_lays 10 rfl) rfl ?_
    refine tz_sipush (n := 21) (g_at ck_X11_lays 11 rfl) rfl rfl ?_
    refine tz_iand (n := 22) (g_at ck_X11_lays 12 rfl) rfl ?_
    rw [ush_255 v i (by omega)]
    refine tz_iastr (n := 23) kd_91 (by omega) (g_at ck_X11_lays 13 rfl) rfl hR1 ⟨(bAnd_rg _ _).1, (bAnd_rg _ _).2⟩ (fun hR1 => ?_)
    refine tz_aload0 (n := 24) (g_at ck_X11_lays 14 rfl) rfl (g_ne kd_84) ?_
    refine tz_dupR (n := 25) (g_at ck_X11_lays 15 rfl) rfl ?_
    refine tz_getIw (n := 28) (kz := 12) fk_X11_135 kd_84 (g_at ck_X11_lays 16 rfl) rfl rfl ?_
    rw [wr_ne (show (84 : Int) ≠ 91 by decide), hT1.1]
    refine tz_iconst (n := 29) (g_at ck_X11_lays 17 rfl) rfl ?_
    refine tz_iadd (n := 30) (g_at ck_X11_lays 18 rfl) rfl ?_
    refine tz_putIr (n := 33) (kz := 12) fk_X11_135 kd_84 (g_at ck_X11_lays 19 rfl) rfl hR1 ⟨(by omega), (by omega)⟩ rfl (fun hR2 => ?_)
    refine tz_iinc2 (n := 36) (g_at ck_X11_lays 20 rfl) rfl (by decide) g_hpI ?_
    refine tz_goto (tgt := 3) (g_at ck_X11_lays 21 rfl) rfl ?_
    rw [show (24 : Int) - 8 * (i : Int) + -8 = 24 - 8 * ((i + 1 : Nat) : Int) by omega]
    exact ihi _ ⟨hR2, (by rw [show n + ((i + 1 : Nat) : Int) = n + (i : Int) + 1 by omega]; exact hT1.s), (hX1.w (by decide) (fun h9 => absurd h9 (by decide))).w (by decide) (fun _ => by decide)⟩
