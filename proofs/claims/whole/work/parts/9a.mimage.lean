/-! The reference: image, restore, undo, see, forget. -/
def MIm (m : Mm) (h : Int) (s : Int → Int) (n : Int) (α κ : Mm) : Prop := m 84 63 = h ∧ (h ≠ 0 → m 84 64 = n ∧ m 84 65 = κ 0 0 ∧ (∀ k, 0 ≤ k → k < 35 → m 119 k = s k) ∧ (∀ k j, 0 ≤ k → k < n → 0 ≤ j → j < 35 → m 120 (35 * k + j) = α k j) ∧ ∀ i, 0 ≤ i → i < κ 0 0 → m 121 (3 * i) = κ 1 i ∧ m 121 (3 * i + 1) = κ 2 i ∧ m 121 (3 * i + 2) = κ 3 i)
/-- i numbers of cell a stand in cell b -/
def Cp (a b : Int) (m m1 : Mm) (i : Int) : Prop := ∀ x, 0 ≤ x → x < i → m1 b x = m a x
theorem Cp.s {a b i v : Int} {m m1 : Mm} (h : Cp a b m m1 i) (hv : v = m a i) : Cp a b m (wr m1 b i v) (i + 1) := fun x h1 h2 => by
  rw [wr_at]
  by_cases e : x = i
  · rw [if_pos e, e]; exact hv
  · rw [if_neg e]
    exact h x h1 (by omega)
def seeP (κ : Mm) (p c n : Int) : Mm := wr (wr (wr (wr κ 1 (κ 0 0) p) 2 (κ 0 0) c) 3 (κ 0 0) n) 0 0 (κ 0 0 + 1)
def RfX (m m9 : Mm) (k : Int) : Prop := FX [84, 92] [0] m m9 ∧ m9 92 = up (m 92) k (m 92 k + 1)
theorem RfX.mk {m m0 : Mm} {k : Int} (h : FX [84] [0] m m0) : RfX m (wr m0 92 k (m0 92 k + 1)) k := ⟨(h.sub (by decide) (by decide)).w (by decide) (fun h9 => absurd h9 (by decide)), by
  funext j
  rw [wr_at, h.1 92 (by decide)]
  rfl⟩
theorem MSeen.x {m m9 κ : Mm} {L ks : List Int} (h : MSeen m κ) (k : FX L ks m m9) (h1 : (58 : Int) ∉ ks) (h2 : (116 : Int) ∉ L) : MSeen m9 κ := ⟨(k.2 58 h1).trans h.1, fun i i1 i2 => by rw [k.1 116 h2]; exact h.2 i i1 i2⟩
theorem MSeen.add {m m9 κ : Mm} {p c n : Int} (h : MSeen m κ) (hk : 0 ≤ κ 0 0) (e5 : m9 84 58 = κ 0 0 + 1) (e6 : m9 116 = up (up (up (m 116) (3 * κ 0 0) p) (3 * κ 0 0 + 1) c) (3 * κ 0 0 + 2) n) : MSeen m9 (seeP κ p c n) := by
  have z : seeP κ p c n 0 0 = κ 0 0 + 1 := wr_same
  refine ⟨by rw [z]; exact e5, fun i i1 i2 => ?_⟩
  rw [z] at i2
  have r1 : seeP κ p c n 1 i = if i = κ 0 0 then p else κ 1 i := by unfold seeP; rw [wr_ne (by decide), wr_ne (by decide), wr_ne (by decide), wr_at]
  have r2 : seeP κ p c n 2 i = if i = κ 0 0 then c else κ 2 i := by unfold seeP; rw [wr_ne (by decide), wr_ne (by decide), wr_at, wr_ne (by decide)]
  have r3 : seeP κ p c n 3 i = if i = κ 0 0 then n else κ 3 i := by unfold seeP; rw [wr_ne (by decide), wr_at, wr_ne (by decide), wr_ne (by decide)]
  rw [e6, r1, r2, r3]
  by_cases e : i = κ 0 0
  · rw [if_pos e, if_pos e, if_pos e, e, up_ne (by omega), up_ne (by omega), up_at, up_ne (by omega), up_at, up_at]
    exact ⟨rfl, rfl, rfl⟩
  · rw [if_neg e, if_neg e, if_neg e, up_ne (by omega), up_ne (by omega), up_ne (by omega), up_ne (by omega), up_ne (by omega), up_ne (by omega), up_ne (by omega), up_ne (by omega), up_ne (by omega)]
    exact h.2 i i1 (by omega)
theorem mp_copies104 {l : Launch} {γ : Gh} {ρ m : Mm} (hL : LY ρ) (hR : MR m) : gE l γ μX11_copies 0 0 0 (rV KK fun ρ9 m9 => ρ = ρ9 ∧ MR m9 ∧ Cp 104 120 m m9 1400 ∧ Fr [120] m m9) xN KK ρ m [vR 84, vR 104, vR 120] := by
  refine gE.ofw cl_X11.2 ?_ rfl rfl (Nat.le_of_ble_eq_true rfl)
  show gT l γ μX11_copies 0 0 0 _ _ KK ρ m 0 [some (vR 84), some (vR 104), some (vR 120), none] []
  refine tz_iconst (n := 1) (g_at ck_X11_copies 0 rfl) rfl ?_
  refine tz_istore3 (n := 2) (g_at ck_X11_copies 1 rfl) rfl (by decide) g_hpR ?_
  refine g_for (fun i : Nat => ∀ m1 : Mm, (MR m1 ∧ Cp 104 120 m m1 (i : Int) ∧ Fr [120] m m1) → gT l γ μX11_copies 0 0 0 _ _ KK ρ m1 2 [some (vR 84), some (vR 104), some (vR 120), some (vI (i : Int))] []) 1400 ?_ (fun i hi ihi => ?_) 0 (Nat.zero_le _) _ ⟨hR, fun x h8 h9 => absurd h9 (by omega), Fr.rf⟩
  · intro m1 hinv
    obtain ⟨hR1, hC1, hF1⟩ := hinv
    refine tz_iload3 (n := 3) (g_at ck_X11_copies 2 rfl) rfl ?_
    refine tz_aload1 (n := 4) (g_at ck_X11_copies 3 rfl) rfl (g_ne kd_104) ?_
    refine tz_alen (n := 5) kd_104 (g_at ck_X11_copies 4 rfl) rfl ?_
    refine tz_icmp_ge (n := 8) (tgt := 20) (g_at ck_X11_copies 5 rfl) rfl rfl (by omega) (fun h5 => ?_) (fun h5 => absurd h5 (by omega))
    exact tz_vret (g_at ck_X11_copies 14 rfl) rfl (rV_mk ⟨rfl, hR1, hC1, hF1⟩)
  · intro m1 hinv
    obtain ⟨hR1, hC1, hF1⟩ := hinv
    refine tz_iload3 (n := 3) (g_at ck_X11_copies 2 rfl) rfl ?_
    refine tz_aload1 (n := 4) (g_at ck_X11_copies 3 rfl) rfl (g_ne kd_104) ?_
    refine tz_alen (n := 5) kd_104 (g_at ck_X11_copies 4 rfl) rfl ?_
    refine tz_icmp_ge (n := 8) (tgt := 20) (g_at ck_X11_copies 5 rfl) rfl rfl (by omega) (fun h5 => absurd h5 (by omega)) (fun h5 => ?_)
    refine tz_aload2 (n := 9) (g_at ck_X11_copies 6 rfl) rfl (g_ne kd_120) ?_
    refine tz_iload3 (n := 10) (g_at ck_X11_copies 7 rfl) rfl ?_
    refine tz_aload1 (n := 11) (g_at ck_X11_copies 8 rfl) rfl (g_ne kd_104) ?_
    refine tz_iload3 (n := 12) (g_at ck_X11_copies 9 rfl) rfl ?_
    refine tz_iald (n := 13) kd_104 (by omega) (g_at ck_X11_copies 10 rfl) rfl ?_
    refine tz_iastr (n := 14) kd_120 (by omega) (g_at ck_X11_copies 11 rfl) rfl hR1 ⟨(hR1 _ _).1, (hR1 _ _).2⟩ (fun hR1 => ?_)
    refine tz_iinc3 (n := 17) (g_at ck_X11_copies 12 rfl) rfl (by decide) g_hpR ?_
    refine tz_goto (tgt := 2) (g_at ck_X11_copies 13 rfl) rfl ?_
    exact ihi _ ⟨hR1, hC1.s (by rw [hF1 104 (by decide)]), hF1.wrc⟩
theorem mp_copies116 {l : Launch} {γ : Gh} {ρ m : Mm} (hL : LY ρ) (hR : MR m) : gE l γ μX11_copies 0 0 0 (rV KK fun ρ9 m9 => ρ = ρ9 ∧ MR m9 ∧ Cp 116 121 m m9 24 ∧ Fr [121] m m9) xN KK ρ m [vR 84, vR 116, vR 121] := by
  refine gE.ofw cl_X11.2 ?_ rfl rfl (Nat.le_of_ble_eq_true rfl)
  show gT l γ μX11_copies 0 0 0 _ _ KK ρ m 0 [some (vR 84), some (vR 116), some (vR 121), none] []
  refine tz_iconst (n := 1) (g_at ck_X11_copies 0 rfl) rfl ?_
  refine tz_istore3 (n := 2) (g_at ck_X11_copies 1 rfl) rfl (by decide) g_hpR ?_
  refine g_for (fun i : Nat => ∀ m1 : Mm, (MR m1 ∧ Cp 116 121 m m1 (i : Int) ∧ Fr [121] m m1) → gT l γ μX11_copies 0 0 0 _ _ KK ρ m1 2 [some (vR 84), some (vR 116), some (vR 121), some (vI (i : Int))] []) 24 ?_ (fun i hi ihi => ?_) 0 (Nat.zero_le _) _ ⟨hR, fun x h8 h9 => absurd h9 (by omega), Fr.rf⟩
  · intro m1 hinv
    obtain ⟨hR1, hC1, hF1⟩ := hinv
    refine tz_iload3 (n := 3) (g_at ck_X11_copies 2 rfl) rfl ?_
    refine tz_aload1 (n := 4) (g_at ck_X11_copies 3 rfl) rfl (g_ne kd_116) ?_
    refine tz_alen (n := 5) kd_116 (g_at ck_X11_copies 4 rfl) rfl ?_
    refine tz_icmp_ge (n := 8) (tgt := 20) (g_at ck_X11_copies 5 rfl) rfl rfl (by omega) (fun h5 => ?_) (fun h5 => absurd h5 (by omega))
    exact tz_vret (g_at ck_X11_copies 14 rfl) rfl (rV_mk ⟨rfl, hR1, hC1, hF1⟩)
  · intro m1 hinv
    obtain ⟨hR1, hC1, hF1⟩ := hinv
    refine tz_iload3 (n := 3) (g_at ck_X11_copies 2 rfl) rfl ?_
    refine tz_aload1 (n := 4) (g_at ck_X11_copies 3 rfl) rfl (g_ne kd_116) ?_
    refine tz_alen (n := 5) kd_116 (g_at ck_X11_copies 4 rfl) rfl ?_
    refine tz_icmp_ge (n := 8) (tgt := 20) (g_at ck_X11_copies 5 rfl) rfl rfl (by omega) (fun h5 => absurd h5 (by omega)) (fun h5 => ?_)
    refine tz_aload2 (n := 9) (g_at ck_X11_copies 6 rfl) rfl (g_ne kd_121) ?_
    refine tz_iload3 (n := 10) (g_at ck_X11_copies 7 rfl) rfl ?_
    refine tz_aload1 (n := 11) (g_at ck_X11_copies 8 rfl) rfl (g_ne kd_116) ?_
    refine tz_iload3 (n := 12) (g_at ck_X11_copies 9 rfl) rfl ?_
    refine tz_iald (n := 13) kd_116 (by omega) (g_at ck_X11_copies 10 rfl) rfl ?_
    refine tz_iastr (n := 14) kd_121 (by omega) (g_at ck_X11_copies 11 rfl) rfl hR1 ⟨(hR1 _ _).1, (hR1 _ _).2⟩ (fun hR1 => ?_)
    refine tz_iinc3 (n := 17) (g_at ck_X11_copies 12 rfl) rfl (by decide) g_hpR ?_
    refine tz_goto (tgt := 2) (g_at ck_X11_copies 13 rfl) rfl ?_
    exact ihi _ ⟨hR1, hC1.s (by rw [hF1 116 (by decide)]), hF1.wrc⟩
theorem mp_copies120 {l : Launch} {γ : Gh} {ρ m : Mm} (hL : LY ρ) (hR : MR m) : gE l γ μX11_copies 0 0 0 (rV KK fun ρ9 m9 => ρ = ρ9 ∧ MR m9 ∧ Cp 120 104 m m9 1400 ∧ Fr [104] m m9) xN KK ρ m [vR 84, vR 120, vR 104] := by
  refine gE.ofw cl_X11.2 ?_ rfl rfl (Nat.le_of_ble_eq_true rfl)
  show gT l γ μX11_copies 0 0 0 _ _ KK ρ m 0 [some (vR 84), some (vR 120), some (vR 104), none] []
  refine tz_iconst (n := 1) (g_at ck_X11_copies 0 rfl) rfl ?_
  refine tz_istore3 (n := 2) (g_at ck_X11_copies 1 rfl) rfl (by decide) g_hpR ?_
  refine g_for (fun i : Nat => ∀ m1 : Mm, (MR m1 ∧ Cp 120 104 m m1 (i : Int) ∧ Fr [104] m m1) → gT l γ μX11_copies 0 0 0 _ _ KK ρ m1 2 [some (vR 84), some (vR 120), some (vR 104), some (vI (i : Int))] []) 1400 ?_ (fun i hi ihi => ?_) 0 (Nat.zero_le _) _ ⟨hR, fun x h8 h9 => absurd h9 (by omega), Fr.rf⟩
  · intro m1 hinv
    obtain ⟨hR1, hC1, hF1⟩ := hinv
    refine tz_iload3 (n := 3) (g_at ck_X11_copies 2 rfl) rfl ?_
    refine tz_aload1 (n := 4) (g_at ck_X11_copies 3 rfl) rfl (g_ne kd_120) ?_
    refine tz_alen (n := 5) kd_120 (g_at ck_X11_copies 4 rfl) rfl ?_
    refine tz_icmp_ge (n := 8) (tgt := 20) (g_at ck_X11_copies 5 rfl) rfl rfl (by omega) (fun h5 => ?_) (fun h5 => absurd h5 (by omega))
    exact tz_vret (g_at ck_X11_copies 14 rfl) rfl (rV_mk ⟨rfl, hR1, hC1, hF1⟩)
  · intro m1 hinv
    obtain ⟨hR1, hC1, hF1⟩ := hinv
    refine tz_iload3 (n := 3) (g_at ck_X11_copies 2 rfl) rfl ?_
    refine tz_aload1 (n := 4) (g_at ck_X11_copies 3 rfl) rfl (g_ne kd_120) ?_
    refine tz_alen (n := 5) kd_120 (g_at ck_X11_copies 4 rfl) rfl ?_
    refine tz_icmp_ge (n := 8) (tgt := 20) (g_at ck_X11_copies 5 rfl) rfl rfl (by omega) (fun h5 => absurd h5 (by omega)) (fun h5 => ?_)
    refine tz_aload2 (n := 9) (g_at ck_X11_copies 6 rfl) rfl (g_ne kd_104) ?_
    refine tz_iload3 (n := 10) (g_at ck_X11_copies 7 rfl) rfl ?_
    refine tz_aload1 (n := 11) (g_at ck_X11_copies 8 rfl) rfl (g_ne kd_120) ?_
    refine tz_iload3 (n := 12) (g_at ck_X11_copies 9 rfl) rfl ?_
    refine tz_iald (n := 13) kd_120 (by omega) (g_at ck_X11_copies 10 rfl) rfl ?_
    refine tz_iastr (n := 14) kd_104 (by omega) (g_at ck_X11_copies 11 rfl) rfl hR1 ⟨(hR1 _ _).1, (hR1 _ _).2⟩ (fun hR1 => ?_)
    refine tz_iinc3 (n := 17) (g_at ck_X11_copies 12 rfl) rfl (by decide) g_hpR ?_
    refine tz_goto (tgt := 2) (g_at ck_X11_copies 13 rfl) rfl ?_
    exact ihi _ ⟨hR1, hC1.s (by rw [hF1 120 (by decide)]), hF1.wrc⟩
theorem mp_copies121 {l : Launch} {γ : Gh} {ρ m : Mm} (hL : LY ρ) (hR : MR m) : gE l γ μX11_copies 0 0 0 (rV KK fun ρ9 m9 => ρ = ρ9 ∧ MR m9 ∧ Cp 121 116 m m9 24 ∧ Fr [116] m m9) xN KK ρ m [vR 84, vR 121, vR 116] := by
  refine gE.ofw cl_X11.2 ?_ rfl rfl (Nat.le_of_ble_eq_true rfl)
  show gT l γ μX11_copies 0 0 0 _ _ KK ρ m 0 [some (vR 84), some (vR 121), some (vR 116), none] []
  refine tz_iconst (n := 1) (g_at ck_X11_copies 0 rfl) rfl ?_
  refine tz_istore3 (n := 2) (g_at ck_X11_copies 1 rfl) rfl (by decide) g_hpR ?_
  refine g_for (fun i : Nat => ∀ m1 : Mm, (MR m1 ∧ Cp 121 116 m m1 (i : Int) ∧ Fr [116] m m1) → gT l γ μX11_copies 0 0 0 _ _ KK ρ m1 2 [some (vR 84), some (vR 121), some (vR 116), some (vI (i : Int))] []) 24 ?_ (fun i hi ihi => ?_) 0 (Nat.zero_le _) _ ⟨hR, fun x h8 h9 => absurd h9 (by omega), Fr.rf⟩
  · intro m1 hinv
    obtain ⟨hR1, hC1, hF1⟩ := hinv
    refine tz_iload3 (n := 3) (g_at ck_X11_copies 2 rfl) rfl ?_
    refine tz_aload1 (n := 4) (g_at ck_X11_copies 3 rfl) rfl (g_ne kd_121) ?_
    refine tz_alen (n := 5) kd_121 (g_at ck_X11_copies 4 rfl) rfl ?_
    refine tz_icmp_ge (n := 8) (tgt := 20) (g_at ck_X11_copies 5 rfl) rfl rfl (by omega) (fun h5 => ?_) (fun h5 => absurd h5 (by omega))
    exact tz_vret (g_at ck_X11_copies 14 rfl) rfl (rV_mk ⟨rfl, hR1, hC1, hF1⟩)
  · intro m1 hinv
    obtain ⟨hR1, hC1, hF1⟩ := hinv
    refine tz_iload3 (n := 3) (g_at ck_X11_copies 2 rfl) rfl ?_
    refine tz_aload1 (n := 4) (g_at ck_X11_copies 3 rfl) rfl (g_ne kd_121) ?_
    refine tz_alen (n := 5) kd_121 (g_at ck_X11_copies 4 rfl) rfl ?_
    refine tz_icmp_ge (n := 8) (tgt := 20) (g_at ck_X11_copies 5 rfl) rfl rfl (by omega) (fun h5 => absurd h5 (by omega)) (fun h5 => ?_)
    refine tz_aload2 (n := 9) (g_at ck_X11_copies 6 rfl) rfl (g_ne kd_116) ?_
    refine tz_iload3 (n := 10) (g_at ck_X11_copies 7 rfl) rfl ?_
    refine tz_aload1 (n := 11) (g_at ck_X11_copies 8 rfl) rfl (g_ne kd_121) ?_
    refine tz_iload3 (n := 12) (g_at ck_X11_copies 9 rfl) rfl ?_
    refine tz_iald (n := 13) kd_121 (by omega) (g_at ck_X11_copies 10 rfl) rfl ?_
    refine tz_iastr (n := 14) kd_116 (by omega) (g_at ck_X11_copies 11 rfl) rfl hR1 ⟨(hR1 _ _).1, (hR1 _ _).2⟩ (fun hR1 => ?_)
    refine tz_iinc3 (n := 17) (g_at ck_X11_copies 12 rfl) rfl (by decide) g_hpR ?_
    refine tz_goto (tgt := 2) (g_at ck_X11_copies 13 rfl) rfl ?_
    exact ihi _ ⟨hR1, hC1.s (by rw [hF1 121 (by decide)]), hF1.wrc⟩
theorem mp_undo {l : Launch} {γ : Gh} {ρ m : Mm} {n : Int} {α : Mm} (hL : LY ρ) (hR : MR m) (hA : AcM m n α) (hn : 0 ≤ n ∧ n ≤ 40) : gE l γ μX11_undo 0 0 0 (rI KK fun x ρ9 m9 => ρ = ρ9 ∧ MR m9 ∧ m9 84 0 = 0 ∧ (n = 0 → x = -1 ∧ FX [84] [0] m m9) ∧ (¬ n = 0 → n - 1 = x ∧ AcM m9 (n - 1) α ∧ MRow m9 (α (n - 1)) ∧ FX [84, 103] [0, 45] m m9)) xN KK ρ m [vR 84] := by
  refine gE.ofw cl_X11.2 ?_ rfl rfl (Nat.le_of_ble_eq_true rfl)
  show gT l γ μX11_undo 0 0 0 _ _ KK ρ m 0 [some (vR 84), none] []
  refine tz_aload0 (n := 1) (g_at ck_X11_undo 0 rfl) rfl (g_ne kd_84) ?_
  refine tz_iconst (n := 2) (g_at ck_X11_undo 1 rfl) rfl ?_
  refine tz_putIr (n := 5) (kz := 0) fk_X11_132 kd_84 (g_at ck_X11_undo 2 rfl) rfl hR ⟨(by decide), (by decide)⟩ rfl (fun hR1 => ?_)
  have hU : FX [84] [0] m (wr m 84 0 0) := FX.w0
  have hA0 : (wr m 84 0 0) 84 45 = n := by rw [wr_at, if_neg (by decide)]; exact hA.1
  refine tz_aload0 (n := 6) (g_at ck_X11_undo 3 rfl) rfl (g_ne kd_84) ?_
  refine tz_getIw (n := 9) (kz := 45) fk_X11_312 kd_84 (g_at ck_X11_undo 4 rfl) rfl rfl ?_
  rw [hA0]
  refine tz_if_ne (n := 12) (tgt := 14) (g_at ck_X11_undo 5 rfl) rfl rfl (by omega) (fun h9 => ?_) (fun h9 => ?_)
  · skip
    refine tz_aload0 (n := 15) (g_at ck_X11_undo 8 rfl) rfl (g_ne kd_84) ?_
    refine tz_dupR (n := 16) (g_at ck_X11_undo 9 rfl) rfl ?_
    refine tz_getIw (n := 19) (kz := 45) fk_X11_312 kd_84 (g_at ck_X11_undo 10 rfl) rfl rfl ?_
    rw [hA0]
    refine tz_iconst (n := 20) (g_at ck_X11_undo 11 rfl) rfl ?_
    refine tz_isub (n := 21) (g_at ck_X11_undo 12 rfl) rfl ?_
    refine tz_putIr (n := 24) (kz := 45) fk_X11_312 kd_84 (g_at ck_X11_undo 13 rfl) rfl hR1 ⟨(by omega), (by omega)⟩ rfl (fun hR2 => ?_)
    refine tz_iconst (n := 25) (g_at ck_X11_undo 14 rfl) rfl ?_
    refine tz_istore1 (n := 26) (g_at ck_X11_undo 15 rfl) rfl (by decide) g_hpR ?_
    have hV0 : FX [84, 103] [0, 45] m (wr (wr m 84 0 0) 84 45 (n - 1)) := (hU.sub (by decide) (by decide)).w (by decide) (fun _ => by decide)
    refine g_for (fun i : Nat => ∀ m1 : Mm, (MR m1 ∧ FX [84, 103] [0, 45] m m1 ∧ m1 84 45 = n - 1 ∧ m1 84 0 = 0 ∧ ∀ k, 0 ≤ k → k < (i : Int) → m1 103 k = α (n - 1) k) → gT l γ μX11_undo 0 0 0 _ _ KK ρ m1 26 [some (vR 84), some (vI (i : Int))] []) 35 ?_ (fun i hi ihi => ?_) 0 (Nat.zero_le _) _ ⟨hR2, hV0, by rw [wr_same], by rw [wr_at, if_neg (by decide), wr_same], fun k h8 h9 => absurd h9 (by omega)⟩
    · intro m1 hinv
      obtain ⟨hR1, hX1, h51, h01, hK1⟩ := hinv
      refine tz_iload1 (n := 27) (g_at ck_X11_undo 16 rfl) rfl ?_
      refine tz_bipush (n := 29) (g_at ck_X11_undo 17 rfl) rfl rfl ?_
      refine tz_icmp_ge (n := 32) (tgt := 58) (g_at ck_X11_undo 18 rfl) rfl rfl (by omega) (fun h29 => ?_) (fun h29 => absurd h29 (by omega))
      refine tz_aload0 (n := 59) (g_at ck_X11_undo 34 rfl) rfl (g_ne kd_84) ?_
      refine tz_getIw (n := 62) (kz := 45) fk_X11_312 kd_84 (g_at ck_X11_undo 35 rfl) rfl rfl ?_
      rw [h51]
      exact tz_iret (g_at ck_X11_undo 36 rfl) rfl (rI_mk ⟨rfl, hR1, h01, fun h8 => absurd h8 h9, fun _ => ⟨rfl, ⟨h51, fun k j k1 k2 j1 j2 => by rw [hX1.1 104 (by decide)]; exact hA.2 k j k1 (by omega) j1 j2⟩, hK1, hX1⟩⟩)
    · intro m1 hinv
      obtain ⟨hR1, hX1, h51, h01, hK1⟩ := hinv
      refine tz_iload1 (n := 27) (g_at ck_X11_undo 16 rfl) rfl ?_
      refine tz_bipush (n := 29) (g_at ck_X11_undo 17 rfl) rfl rfl ?_
      refine tz_icmp_ge (n := 32) (tgt := 58) (g_at ck_X11_undo 18 rfl) rfl rfl (by omega) (fun h29 => absurd h29 (by omega)) (fun h29 => ?_)
      refine tz_aload0 (n := 33) (g_at ck_X11_undo 19 rfl) rfl (g_ne kd_84) ?_
      refine tz_getAv (n := 36) (a := 103) fk_X11_75 kd_84 (ly_84_43 hL) (g_at ck_X11_undo 20 rfl) rfl ?_
      refine tz_iload1 (n := 37) (g_at ck_X11_undo 21 rfl) rfl ?_
      refine tz_aload0 (n := 38) (g_at ck_X11_undo 22 rfl) rfl (g_ne kd_84) ?_
      refine tz_getAv (n := 41) (a := 104) fk_X11_78 kd_84 (ly_84_44 hL) (g_at ck_X11_undo 23 rfl) rfl ?_
      refine tz_bipush (n := 43) (g_at ck_X11_undo 24 rfl) rfl rfl ?_
      refine tz_aload0 (n := 44) (g_at ck_X11_undo 25 rfl) rfl (g_ne kd_84) ?_
      refine tz_getIw (n := 47) (kz := 45) fk_X11_312 kd_84 (g_at ck_X11_undo 26 rfl) rfl rfl ?_
      rw [h51]
      refine tz_imul (n := 48) (g_at ck_X11_undo 27 rfl) rfl ?_
      refine tz_iload1 (n := 49) (g_at ck_X11_undo 28 rfl) rfl ?_
      refine tz_iadd (n := 50) (g_at ck_X11_undo 29 rfl) rfl ?_
      refine tz_iald (n := 51) kd_104 (by omega) (g_at ck_X11_undo 30 rfl) rfl ?_
      refine tz_iastr (n := 52) kd_103 (by omega) (g_at ck_X11_undo 31 rfl) rfl hR1 ⟨(hR1 _ _).1, (hR1 _ _).2⟩ (fun hR3 => ?_)
      refine tz_iinc1 (n := 55) (g_at ck_X11_undo 32 rfl) rfl (by decide) g_hpR ?_
      refine tz_goto (tgt := 26) (g_at ck_X11_undo 33 rfl) rfl ?_
      exact ihi _ ⟨hR3, hX1.w (by decide) (fun h9 => absurd h9 (by decide)), by rw [wr_ne (by decide)]; exact h51, by rw [wr_ne (by decide)]; exact h01, fun k k1 k2 => by rw [wr_at]; by_cases e9 : k = (i : Int); rw [if_pos e9, e9, hX1.1 104 (by decide)]; exact hA.2 (n - 1) (i : Int) (by omega) (by omega) (by omega) (by omega); rw [if_neg e9]; exact hK1 k k1 (by omega)⟩
  · skip
    refine tz_iconst (n := 13) (g_at ck_X11_undo 6 rfl) rfl ?_
    exact tz_iret (g_at ck_X11_undo 7 rfl) rfl (rI_mk ⟨rfl, hR1, by rw [wr_same], fun _ => ⟨rfl, hU⟩, fun h8 => absurd h9 h8⟩)
theorem mp_forget {l : Launch} {γ : Gh} {ρ m : Mm} {κ : Mm} (hL : LY ρ) (hR : MR m) (hK : MSeen m κ) : gE l γ μX11_forget 0 0 0 (rV KK fun ρ9 m9 => ρ = ρ9 ∧ MR m9 ∧ m9 84 0 = 0 ∧ MSeen m9 (wr κ 0 0 0) ∧ FX [84] [0, 58] m m9) xN KK ρ m [vR 84] := by
  refine gE.ofw cl_X11.2 ?_ rfl rfl (Nat.le_of_ble_eq_true rfl)
  show gT l γ μX11_forget 0 0 0 _ _ KK ρ m 0 [some (vR 84)] []
  refine tz_aload0 (n := 1) (g_at ck_X11_forget 0 rfl) rfl (g_ne kd_84) ?_
  refine tz_iconst (n := 2) (g_at ck_X11_forget 1 rfl) rfl ?_
  refine tz_putIr (n := 5) (kz := 0) fk_X11_132 kd_84 (g_at ck_X11_forget 2 rfl) rfl hR ⟨(by decide), (by decide)⟩ rfl (fun hR1 => ?_)
  refine tz_aload0 (n := 6) (g_at ck_X11_forget 3 rfl) rfl (g_ne kd_84) ?_
  refine tz_iconst (n := 7) (g_at ck_X11_forget 4 rfl) rfl ?_
  refine tz_putIr (n := 10) (kz := 58) fk_X11_315 kd_84 (g_at ck_X11_forget 5 rfl) rfl hR1 ⟨(by decide), (by decide)⟩ rfl (fun hR2 => ?_)
  exact tz_vret (g_at ck_X11_forget 6 rfl) rfl (rV_mk ⟨rfl, hR2, by rw [wr_at, if_neg (by decide), wr_same], ⟨by rw [wr_same, wr_same], fun i i1 i2 => absurd i2 (by rw [wr_same]; omega)⟩, (FX.rf.w (by decide) (fun _ => by decide)).w (by decide) (fun _ => by decide)⟩)
theorem mp_fault {l : Launch} {γ : Gh} {ρ m : Mm} (hL : LY ρ) (hR : MR m) : gE l γ μX11_fault 0 0 0 (rI KK fun x ρ9 m9 => ρ = ρ9 ∧ MR m9 ∧ m9 84 0 = 0 ∧ m 84 14 = x ∧ FX [84] [0] m m9) xN KK ρ m [vR 84] := by
  refine gE.ofw cl_X11.2 ?_ rfl rfl (Nat.le_of_ble_eq_true rfl)
  show gT l γ μX11_fault 0 0 0 _ _ KK ρ m 0 [some (vR 84)] []
  refine tz_aload0 (n := 1) (g_at ck_X11_fault 0 rfl) rfl (g_ne kd_84) ?_
  refine tz_iconst (n := 2) (g_at ck_X11_fault 1 rfl) rfl ?_
  refine tz_putIr (n := 5) (kz := 0) fk_X11_132 kd_84 (g_at ck_X11_fault 2 rfl) rfl hR ⟨(by decide), (by decide)⟩ rfl (fun hR1 => ?_)
  refine tz_aload0 (n := 6) (g_at ck_X11_fault 3 rfl) rfl (g_ne kd_84) ?_
  refine tz_getIw (n := 9) (kz := 14) fk_X11_38 kd_84 (g_at ck_X11_fault 4 rfl) rfl rfl ?_
  rw [wr_at, if_neg (by decide)]
  exact tz_iret (g_at ck_X11_fault 5 rfl) rfl (rI_mk ⟨rfl, hR1, wr_same, rfl, FX.w0⟩)
theorem mp_image {l : Launch} {γ : Gh} {ρ m : Mm} {n : Int} {α κ : Mm} {s : Int → Int} (hL : LY ρ) (hR : MR m) (hs : MRow m s) (hA : AcM m n α) (hn : 0 ≤ n ∧ n ≤ 40) (hK : MSeen m κ) (hk : 0 ≤ κ 0 0 ∧ κ 0 0 ≤ 8) : gE l γ μX11_image 1 0 0 (rV KK fun ρ9 m9 => ρ = ρ9 ∧ MR m9 ∧ m9 84 0 = 0 ∧ MIm m9 1 s n α κ ∧ FX [84, 119, 120, 121] [0, 63, 64, 65] m m9) xN KK ρ m [vR 84] := by
  refine gE.ofw cl_X11.2 ?_ rfl rfl (Nat.le_of_ble_eq_true rfl)
  show gT l γ μX11_image 1 0 0 _ _ KK ρ m 0 [some (vR 84), none] []
  refine tz_aload0 (n := 1) (g_at ck_X11_image 0 rfl) rfl (g_ne kd_84) ?_
  refine tz_iconst (n := 2) (g_at ck_X11_image 1 rfl) rfl ?_
  refine tz_putIr (n := 5) (kz := 0) fk_X11_132 kd_84 (g_at ck_X11_image 2 rfl) rfl hR ⟨(by decide), (by decide)⟩ rfl (fun hR1 => ?_)
  refine tz_aload0 (n := 6) (g_at ck_X11_image 3 rfl) rfl (g_ne kd_84) ?_
  refine tz_iconst (n := 7) (g_at ck_X11_image 4 rfl) rfl ?_
  refine tz_putZr (n := 10) (kz := 63) fk_X11_318 kd_84 (g_at ck_X11_image 5 rfl) rfl hR1 (by omega) rfl (fun hR2 => ?_)
  refine tz_aload0 (n := 11) (g_at ck_X11_image 6 rfl) rfl (g_ne kd_84) ?_
  refine tz_aload0 (n := 12) (g_at ck_X11_image 7 rfl) rfl (g_ne kd_84) ?_
  refine tz_getIw (n := 15) (kz := 45) fk_X11_312 kd_84 (g_at ck_X11_image 8 rfl) rfl rfl ?_
  rw [show (wr (wr m 84 0 0) 84 63 1) 84 45 = m 84 45 by rw [wr_at, if_neg (by decide), wr_at, if_neg (by decide)]]
  refine tz_putIr (n := 18) (kz := 64) fk_X11_488 kd_84 (g_at ck_X11_image 9 rfl) rfl hR2 (hR 84 45) rfl (fun hR3 => ?_)
  refine tz_aload0 (n := 19) (g_at ck_X11_image 10 rfl) rfl (g_ne kd_84) ?_
  refine tz_aload0 (n := 20) (g_at ck_X11_image 11 rfl) rfl (g_ne kd_84) ?_
  refine tz_getIw (n := 23) (kz := 58) fk_X11_315 kd_84 (g_at ck_X11_image 12 rfl) rfl rfl ?_
  rw [show (wr (wr (wr m 84 0 0) 84 63 1) 84 64 (m 84 45)) 84 58 = m 84 58 by rw [wr_at, if_neg (by decide), wr_at, if_neg (by decide), wr_at, if_neg (by decide)]]
  refine tz_putIr (n := 26) (kz := 65) fk_X11_491 kd_84 (g_at ck_X11_image 13 rfl) rfl hR3 (hR 84 58) rfl (fun hR4 => ?_)
  refine tz_iconst (n := 27) (g_at ck_X11_image 14 rfl) rfl ?_
  refine tz_istore1 (n := 28) (g_at ck_X11_image 15 rfl) rfl (by decide) g_hpR ?_
  obtain ⟨m0, e0⟩ : ∃ m0, m0 = wr (wr (wr (wr m 84 0 0) 84 63 1) 84 64 (m 84 45)) 84 65 (m 84 58) := ⟨_, rfl⟩
  rw [← e0] at hR4 ⊢
  have hX0 : FX [84, 119, 120, 121] [0, 63, 64, 65] m m0 := by rw [e0]; exact (((FX.rf.w (by decide) (fun _ => by decide)).w (by decide) (fun _ => by decide)).w (by decide) (fun _ => by decide)).w (by decide) (fun _ => by decide)
  have hf0 : m0 84 0 = 0 ∧ m0 84 63 = 1 ∧ m0 84 64 = m 84 45 ∧ m0 84 65 = m 84 58 := by rw [e0]; refine ⟨?_, ?_, ?_, ?_⟩ <;> simp [wr]
  refine g_for (fun i : Nat => ∀ m1 : Mm, (MR m1 ∧ Fr [119] m0 m1 ∧ ∀ k, 0 ≤ k → k < (i : Int) → m1 119 k = s k) → gT l γ μX11_image 1 0 0 _ _ KK ρ m1 28 [some (vR 84), some (vI (i : Int))] []) 35 ?_ (fun i hi ihi => ?_) 0 (Nat.zero_le _) _ ⟨hR4, Fr.rf, fun k h8 h9 => absurd h9 (by omega)⟩
  · intro m1 hinv
    obtain ⟨hR1, hF1, hK1⟩ := hinv
    refine tz_iload1 (n := 29) (g_at ck_X11_image 16 rfl) rfl ?_
    refine tz_bipush (n := 31) (g_at ck_X11_image 17 rfl) rfl rfl ?_
    refine tz_icmp_ge (n := 34) (tgt := 52) (g_at ck_X11_image 18 rfl) rfl rfl (by omega) (fun h31 => ?_) (fun h31 => absurd h31 (by omega))
    refine tz_aload0 (n := 53) (g_at ck_X11_image 29 rfl) rfl (g_ne kd_84) ?_
    refine tz_aload0 (n := 54) (g_at ck_X11_image 30 rfl) rfl (g_ne kd_84) ?_
    refine tz_getAv (n := 57) (a := 104) fk_X11_78 kd_84 (ly_84_44 hL) (g_at ck_X11_image 31 rfl) rfl ?_
    refine tz_aload0 (n := 58) (g_at ck_X11_image 32 rfl) rfl (g_ne kd_84) ?_
    refine tz_getAv (n := 61) (a := 120) fk_X11_126 kd_84 (ly_84_67 hL) (g_at ck_X11_image 33 rfl) rfl ?_
    refine tz_cvV2 (n := 64) (μ' := μX11_copies) (cb' := 0) (sb' := 0) ml_X11_308 mo_X11_copies mv_X11_copies np_X11_copies kd_84 (g_at ck_X11_image 34 rfl) (mp_copies104 hL hR1) rfl rfl rfl ⟨by decide, by decide⟩ (Nat.le_of_ble_eq_true rfl) (by decide) (by decide) (fun ρ9 m61 hq => ?_)
    obtain ⟨rfl, hR5, hC61, hF61⟩ := hq
    refine tz_aload0 (n := 65) (g_at ck_X11_image 35 rfl) rfl (g_ne kd_84) ?_
    refine tz_aload0 (n := 66) (g_at ck_X11_image 36 rfl) rfl (g_ne kd_84) ?_
    refine tz_getAv (n := 69) (a := 116) fk_X11_114 kd_84 (ly_84_59 hL) (g_at ck_X11_image 37 rfl) rfl ?_
    refine tz_aload0 (n := 70) (g_at ck_X11_image 38 rfl) rfl (g_ne kd_84) ?_
    refine tz_getAv (n := 73) (a := 121) fk_X11_129 kd_84 (ly_84_68 hL) (g_at ck_X11_image 39 rfl) rfl ?_
    refine tz_cvV2 (n := 76) (μ' := μX11_copies) (cb' := 0) (sb' := 0) ml_X11_308 mo_X11_copies mv_X11_copies np_X11_copies kd_84 (g_at ck_X11_image 40 rfl) (mp_copies116 hL hR5) rfl rfl rfl ⟨by decide, by decide⟩ (Nat.le_of_ble_eq_true rfl) (by decide) (by decide) (fun ρ9 m73 hq => ?_)
    obtain ⟨rfl, hR6, hC73, hF73⟩ := hq
    exact tz_vret (g_at ck_X11_image 41 rfl) rfl (rV_mk ⟨rfl, hR6, by rw [hF73 84 (by decide), hF61 84 (by decide), hF1 84 (by decide)]; exact hf0.1, ⟨by rw [hF73 84 (by decide), hF61 84 (by decide), hF1 84 (by decide)]; exact hf0.2.1, fun _ => ⟨by rw [hF73 84 (by decide), hF61 84 (by decide), hF1 84 (by decide)]; exact hf0.2.2.1.trans hA.1, by rw [hF73 84 (by decide), hF61 84 (by decide), hF1 84 (by decide)]; exact hf0.2.2.2.trans hK.1, fun k k1 k2 => by rw [hF73 119 (by decide), hF61 119 (by decide)]; exact hK1 k k1 k2, fun k j k1 k2 j1 j2 => by rw [hF73 120 (by decide), hC61 _ (by omega) (by omega), hF1 104 (by decide), hX0.1 104 (by decide)]; exact hA.2 k j k1 k2 j1 j2, fun i i1 i2 => by rw [hC73 _ (by omega) (by omega), hC73 _ (by omega) (by omega), hC73 _ (by omega) (by omega), hF61 116 (by decide), hF1 116 (by decide), hX0.1 116 (by decide)]; exact hK.2 i i1 i2⟩⟩, hX0.tr (FX.l (ks := [0, 63, 64, 65]) (((hF1.sub (show ∀ x ∈ [(119 : Int)], x ∈ [(119 : Int), 120, 121] by decide)).tr (hF61.sub (by decide))).tr (hF73.sub (by decide))) (by decide) |>.sub (by decide) (by decide))⟩)
  · intro m1 hinv
    obtain ⟨hR1, hF1, hK1⟩ := hinv
    have hs1 : m1 103 (i : Int) = s (i : Int) := by rw [hF1 103 (by decide)]; exact (hs.x hX0 (by decide)) (i : Int) (by omega) (by omega)
    refine tz_iload1 (n := 29) (g_at ck_X11_image 16 rfl) rfl ?_
    refine tz_bipush (n := 31) (g_at ck_X11_image 17 rfl) rfl rfl ?_
    refine tz_icmp_ge (n := 34) (tgt := 52) (g_at ck_X11_image 18 rfl) rfl rfl (by omega) (fun h31 => absurd h31 (by omega)) (fun h31 => ?_)
    refine tz_aload0 (n := 35) (g_at ck_X11_image 19 rfl) rfl (g_ne kd_84) ?_
    refine tz_getAv (n := 38) (a := 119) fk_X11_123 kd_84 (ly_84_66 hL) (g_at ck_X11_image 20 rfl) rfl ?_
    refine tz_iload1 (n := 39) (g_at ck_X11_image 21 rfl) rfl ?_
    refine tz_aload0 (n := 40) (g_at ck_X11_image 22 rfl) rfl (g_ne kd_84) ?_
    refine tz_getAv (n := 43) (a := 103) fk_X11_75 kd_84 (ly_84_43 hL) (g_at ck_X11_image 23 rfl) rfl ?_
    refine tz_iload1 (n := 44) (g_at ck_X11_image 24 rfl) rfl ?_
    refine tz_iald (n := 45) kd_103 (by omega) (g_at ck_X11_image 25 rfl) rfl ?_
    refine tz_iastr (n := 46) kd_119 (by omega) (g_at ck_X11_image 26 rfl) rfl hR1 ⟨(hR1 _ _).1, (hR1 _ _).2⟩ (fun hR7 => ?_)
    refine tz_iinc1 (n := 49) (g_at ck_X11_image 27 rfl) rfl (by decide) g_hpR ?_
    refine tz_goto (tgt := 28) (g_at ck_X11_image 28 rfl) rfl ?_
    exact ihi _ ⟨hR7, hF1.wrc, fun k k1 k2 => by rw [wr_at]; by_cases e9 : k = (i : Int); rw [if_pos e9, e9]; exact hs1; rw [if_neg e9]; exact hK1 k k1 (by omega)⟩
