/-! The reference: acts kept and taken back. -/
def fedT (t : Int → Int) (n a b c d e : Int) : Int → Int := lyI (lyI (lyI (lyI (lyI t n a 4) (n + 4) b 4) (n + 8) c 4) (n + 12) d 4) (n + 16) e 4
theorem MTp.c {m : Mm} {t t' : Int → Int} {n n' : Int} (h : MTp m t n) (e : t = t') (k : n = n') : MTp m t' n' := by rw [← e, ← k]; exact h
theorem MTp.x {m m9 : Mm} {t : Int → Int} {n : Int} {L ks : List Int} (h : MTp m t n) (k : FX L ks m m9) (h1 : (12 : Int) ∉ ks) (h2 : (91 : Int) ∉ L) : MTp m9 t n := ⟨(k.2 12 h1).trans h.1, fun j j1 j2 => by rw [k.1 91 h2]; exact h.2 j j1 j2⟩
theorem AcM.x {m m9 α : Mm} {n : Int} {L ks : List Int} (h : AcM m n α) (k : FX L ks m m9) (h1 : (45 : Int) ∉ ks) (h2 : (104 : Int) ∉ L) : AcM m9 n α := ⟨(k.2 45 h1).trans h.1, fun a j a1 a2 j1 j2 => by rw [k.1 104 h2]; exact h.2 a j a1 a2 j1 j2⟩
theorem MRow.x {m m9 : Mm} {s : Int → Int} {L ks : List Int} (h : MRow m s) (k : FX L ks m m9) (h2 : (103 : Int) ∉ L) : MRow m9 s := fun j j1 j2 => by rw [k.1 103 h2]; exact h j j1 j2
theorem MRow.up {m : Mm} {s : Int → Int} {k v : Int} (h : MRow m s) : MRow (wr m 103 k v) (up s k v) := fun j j1 j2 => by
  rw [wr_at]
  by_cases e : j = k
  · rw [if_pos e, e, up_at]
  · rw [if_neg e, up_ne e]
    exact h j j1 j2
theorem mp_feed {l : Launch} {γ : Gh} {ρ m : Mm} {t : Int → Int} {n a b c d e : Int} (hL : LY ρ) (hR : MR m) (hT : MTp m t n) (hn : 0 ≤ n ∧ n ≤ 700) : gE l γ μX11_feed 1 0 0 (rI KK fun x ρ9 m9 => ρ = ρ9 ∧ MR m9 ∧ m9 84 0 = 0 ∧ (680 < n → x = -1 ∧ FX [84] [0] m m9) ∧ (n ≤ 680 → n + 20 = x ∧ MTp m9 (fedT t n a b c d e) (n + 20) ∧ FX [84, 91] [0, 12] m m9)) xN KK ρ m [vR 84, vI a, vI b, vI c, vI d, vI e] := by
  refine gE.ofw cl_X11.2 ?_ rfl rfl (Nat.le_of_ble_eq_true rfl)
  show gT l γ μX11_feed 1 0 0 _ _ KK ρ m 0 [some (vR 84), some (vI a), some (vI b), some (vI c), some (vI d), some (vI e)] []
  refine tz_aload0 (n := 1) (g_at ck_X11_feed 0 rfl) rfl (g_ne kd_84) ?_
  refine tz_iconst (n := 2) (g_at ck_X11_feed 1 rfl) rfl ?_
  refine tz_putIr (n := 5) (kz := 0) fk_X11_132 kd_84 (g_at ck_X11_feed 2 rfl) rfl hR ⟨(by decide), (by decide)⟩ rfl (fun hR1 => ?_)
  have hU : FX [84] [0] m (wr m 84 0 0) := FX.w0
  have hU0 : FX [84, 91] [0, 12] m (wr m 84 0 0) := hU.sub (by decide) (by decide)
  have hT0 := hT.x hU (by decide) (by decide)
  refine tz_aload0 (n := 6) (g_at ck_X11_feed 3 rfl) rfl (g_ne kd_84) ?_
  refine tz_getIw (n := 9) (kz := 12) fk_X11_135 kd_84 (g_at ck_X11_feed 4 rfl) rfl rfl ?_
  rw [hT0.1]
  refine tz_bipush (n := 11) (g_at ck_X11_feed 5 rfl) rfl rfl ?_
  refine tz_iadd (n := 12) (g_at ck_X11_feed 6 rfl) rfl ?_
  refine tz_sipush (n := 15) (g_at ck_X11_feed 7 rfl) rfl rfl ?_
  refine tz_icmp_le (n := 18) (tgt := 20) (g_at ck_X11_feed 8 rfl) rfl rfl (by omega) (fun h15 => ?_) (fun h15 => ?_)
  · skip
    refine tz_aload0 (n := 21) (g_at ck_X11_feed 11 rfl) rfl (g_ne kd_84) ?_
    refine tz_iload1 (n := 22) (g_at ck_X11_feed 12 rfl) rfl ?_
    refine tz_cvV1 (n := 25) (μ' := μX11_lays) (cb' := 0) (sb' := 0) ml_X11_138 mo_X11_lays mv_X11_lays np_X11_lays kd_84 (g_at ck_X11_feed 13 rfl) (mp_lays hL hR1 hT0 (by omega)) rfl rfl rfl ⟨by decide, by decide⟩ (Nat.le_of_ble_eq_true rfl) (by decide) (by decide) (fun ρ9 m22 hq => ?_)
    obtain ⟨rfl, hR2, hT22, hX22⟩ := hq
    have hU22 := (hU0.tr (hX22.sub (by decide) (by decide)))
    refine tz_aload0 (n := 26) (g_at ck_X11_feed 14 rfl) rfl (g_ne kd_84) ?_
    refine tz_iload2 (n := 27) (g_at ck_X11_feed 15 rfl) rfl ?_
    refine tz_cvV1 (n := 30) (μ' := μX11_lays) (cb' := 0) (sb' := 0) ml_X11_138 mo_X11_lays mv_X11_lays np_X11_lays kd_84 (g_at ck_X11_feed 16 rfl) (mp_lays hL hR2 hT22 (by omega)) rfl rfl rfl ⟨by decide, by decide⟩ (Nat.le_of_ble_eq_true rfl) (by decide) (by decide) (fun ρ9 m27 hq => ?_)
    obtain ⟨rfl, hR3, hT27, hX27⟩ := hq
    have hU27 := (hU22.tr (hX27.sub (by decide) (by decide)))
    refine tz_aload0 (n := 31) (g_at ck_X11_feed 17 rfl) rfl (g_ne kd_84) ?_
    refine tz_iload3 (n := 32) (g_at ck_X11_feed 18 rfl) rfl ?_
    refine tz_cvV1 (n := 35) (μ' := μX11_lays) (cb' := 0) (sb' := 0) ml_X11_138 mo_X11_lays mv_X11_lays np_X11_lays kd_84 (g_at ck_X11_feed 19 rfl) (mp_lays hL hR3 hT27 (by omega)) rfl rfl rfl ⟨by decide, by decide⟩ (Nat.le_of_ble_eq_true rfl) (by decide) (by decide) (fun ρ9 m32 hq => ?_)
    obtain ⟨rfl, hR4, hT32, hX32⟩ := hq
    have hU32 := (hU27.tr (hX32.sub (by decide) (by decide)))
    refine tz_aload0 (n := 36) (g_at ck_X11_feed 20 rfl) rfl (g_ne kd_84) ?_
    refine tz_iload4 (n := 38) (g_at ck_X11_feed 21 rfl) rfl ?_
    refine tz_cvV1 (n := 41) (μ' := μX11_lays) (cb' := 0) (sb' := 0) ml_X11_138 mo_X11_lays mv_X11_lays np_X11_lays kd_84 (g_at ck_X11_feed 22 rfl) (mp_lays hL hR4 hT32 (by omega)) rfl rfl rfl ⟨by decide, by decide⟩ (Nat.le_of_ble_eq_true rfl) (by decide) (by decide) (fun ρ9 m38 hq => ?_)
    obtain ⟨rfl, hR5, hT38, hX38⟩ := hq
    have hU38 := (hU32.tr (hX38.sub (by decide) (by decide)))
    refine tz_aload0 (n := 42) (g_at ck_X11_feed 23 rfl) rfl (g_ne kd_84) ?_
    refine tz_iload5 (n := 44) (g_at ck_X11_feed 24 rfl) rfl ?_
    refine tz_cvV1 (n := 47) (μ' := μX11_lays) (cb' := 0) (sb' := 0) ml_X11_138 mo_X11_lays mv_X11_lays np_X11_lays kd_84 (g_at ck_X11_feed 25 rfl) (mp_lays hL hR5 hT38 (by omega)) rfl rfl rfl ⟨by decide, by decide⟩ (Nat.le_of_ble_eq_true rfl) (by decide) (by decide) (fun ρ9 m44 hq => ?_)
    obtain ⟨rfl, hR6, hT44, hX44⟩ := hq
    have hU44 := (hU38.tr (hX44.sub (by decide) (by decide)))
    refine tz_aload0 (n := 48) (g_at ck_X11_feed 26 rfl) rfl (g_ne kd_84) ?_
    refine tz_getIw (n := 51) (kz := 12) fk_X11_135 kd_84 (g_at ck_X11_feed 27 rfl) rfl rfl ?_
    rw [hT44.1]
    exact tz_iret (g_at ck_X11_feed 28 rfl) rfl (rI_mk ⟨rfl, hR6, by rw [hX44.2 0 (by decide), hX38.2 0 (by decide), hX32.2 0 (by decide), hX27.2 0 (by decide), hX22.2 0 (by decide), wr_same], fun h9 => absurd h9 (by omega), fun _ => ⟨by omega, hT44.c (by unfold fedT; rw [show n + 4 + 4 = n + 8 by omega, show n + 8 + 4 = n + 12 by omega, show n + 12 + 4 = n + 16 by omega]) (by omega), hU44⟩⟩)
  · skip
    refine tz_iconst (n := 19) (g_at ck_X11_feed 9 rfl) rfl ?_
    exact tz_iret (g_at ck_X11_feed 10 rfl) rfl (rI_mk ⟨rfl, hR1, by rw [wr_same], fun _ => ⟨rfl, hU⟩, fun h9 => absurd h9 (by omega)⟩)
theorem mp_keeps {l : Launch} {γ : Gh} {ρ m : Mm} {n : Int} {α : Mm} {s : Int → Int} (hL : LY ρ) (hR : MR m) (hA : AcM m n α) (hn : 0 ≤ n ∧ n ≤ 40) (hs : MRow m s) : gE l γ μX11_keeps 0 0 0 (rV KK fun ρ9 m9 => ρ = ρ9 ∧ MR m9 ∧ AcM m9 (keepN n) (keepA n α s) ∧ FX [84, 104] [45] m m9) xN KK ρ m [vR 84] := by
  refine gE.ofw cl_X11.2 ?_ rfl rfl (Nat.le_of_ble_eq_true rfl)
  show gT l γ μX11_keeps 0 0 0 _ _ KK ρ m 0 [some (vR 84), none] []
  refine tz_aload0 (n := 1) (g_at ck_X11_keeps 0 rfl) rfl (g_ne kd_84) ?_
  refine tz_getIw (n := 4) (kz := 45) fk_X11_312 kd_84 (g_at ck_X11_keeps 1 rfl) rfl rfl ?_
  rw [hA.1]
  refine tz_bipush (n := 6) (g_at ck_X11_keeps 2 rfl) rfl rfl ?_
  refine tz_icmp_ne (n := 9) (tgt := 50) (g_at ck_X11_keeps 3 rfl) rfl rfl (by omega) (fun h6 => ?_) (fun h6 => ?_)
  · skip
    refine tz_iconst (n := 51) (g_at ck_X11_keeps 27 rfl) rfl ?_
    refine tz_istore1 (n := 52) (g_at ck_X11_keeps 28 rfl) rfl (by decide) g_hpR ?_
    refine g_for (fun i : Nat => ∀ m3 : Mm, (MR m3 ∧ Lay 104 m m3 (35 * n) s (i : Int) ∧ FX [84, 104] [45] m m3 ∧ m3 84 45 = n) → gT l γ μX11_keeps 0 0 0 _ _ KK ρ m3 52 [some (vR 84), some (vI (i : Int))] []) 35 ?_ (fun i hi ihi => ?_) 0 (Nat.zero_le _) _ ⟨hR, Lay.z, FX.rf, hA.1⟩
    · intro m3 hinv
      obtain ⟨hR3, hY3, hX3, h53⟩ := hinv
      refine tz_iload1 (n := 53) (g_at ck_X11_keeps 29 rfl) rfl ?_
      refine tz_bipush (n := 55) (g_at ck_X11_keeps 30 rfl) rfl rfl ?_
      refine tz_icmp_ge (n := 58) (tgt := 84) (g_at ck_X11_keeps 31 rfl) rfl rfl (by omega) (fun h55 => ?_) (fun h55 => absurd h55 (by omega))
      refine tz_aload0 (n := 85) (g_at ck_X11_keeps 47 rfl) rfl (g_ne kd_84) ?_
      refine tz_dupR (n := 86) (g_at ck_X11_keeps 48 rfl) rfl ?_
      refine tz_getIw (n := 89) (kz := 45) fk_X11_312 kd_84 (g_at ck_X11_keeps 49 rfl) rfl rfl ?_
      rw [h53]
      refine tz_iconst (n := 90) (g_at ck_X11_keeps 50 rfl) rfl ?_
      refine tz_iadd (n := 91) (g_at ck_X11_keeps 51 rfl) rfl ?_
      refine tz_putIr (n := 94) (kz := 45) fk_X11_312 kd_84 (g_at ck_X11_keeps 52 rfl) rfl hR3 ⟨(by omega), (by omega)⟩ rfl (fun hR1 => ?_)
      exact tz_vret (g_at ck_X11_keeps 53 rfl) rfl (rV_mk ⟨rfl, hR1, hA.k1 (by omega) hY3 (by rw [wr_ne (by decide)]) (by rw [wr_same]), hX3.w (by decide) (fun _ => by decide)⟩)
    · intro m3 hinv
      obtain ⟨hR3, hY3, hX3, h53⟩ := hinv
      have hs3 := hs.x hX3 (by decide)
      refine tz_iload1 (n := 53) (g_at ck_X11_keeps 29 rfl) rfl ?_
      refine tz_bipush (n := 55) (g_at ck_X11_keeps 30 rfl) rfl rfl ?_
      refine tz_icmp_ge (n := 58) (tgt := 84) (g_at ck_X11_keeps 31 rfl) rfl rfl (by omega) (fun h55 => absurd h55 (by omega)) (fun h55 => ?_)
      refine tz_aload0 (n := 59) (g_at ck_X11_keeps 32 rfl) rfl (g_ne kd_84) ?_
      refine tz_getAv (n := 62) (a := 104) fk_X11_78 kd_84 (ly_84_44 hL) (g_at ck_X11_keeps 33 rfl) rfl ?_
      refine tz_bipush (n := 64) (g_at ck_X11_keeps 34 rfl) rfl rfl ?_
      refine tz_aload0 (n := 65) (g_at ck_X11_keeps 35 rfl) rfl (g_ne kd_84) ?_
      refine tz_getIw (n := 68) (kz := 45) fk_X11_312 kd_84 (g_at ck_X11_keeps 36 rfl) rfl rfl ?_
      rw [h53]
      refine tz_imul (n := 69) (g_at ck_X11_keeps 37 rfl) rfl ?_
      refine tz_iload1 (n := 70) (g_at ck_X11_keeps 38 rfl) rfl ?_
      refine tz_iadd (n := 71) (g_at ck_X11_keeps 39 rfl) rfl ?_
      refine tz_aload0 (n := 72) (g_at ck_X11_keeps 40 rfl) rfl (g_ne kd_84) ?_
      refine tz_getAv (n := 75) (a := 103) fk_X11_75 kd_84 (ly_84_43 hL) (g_at ck_X11_keeps 41 rfl) rfl ?_
      refine tz_iload1 (n := 76) (g_at ck_X11_keeps 42 rfl) rfl ?_
      refine tz_iald (n := 77) kd_103 (by omega) (g_at ck_X11_keeps 43 rfl) rfl ?_
      refine tz_iastr (n := 78) kd_104 (by omega) (g_at ck_X11_keeps 44 rfl) rfl hR3 ⟨(hR3 _ _).1, (hR3 _ _).2⟩ (fun hR2 => ?_)
      refine tz_iinc1 (n := 81) (g_at ck_X11_keeps 45 rfl) rfl (by decide) g_hpR ?_
      refine tz_goto (tgt := 52) (g_at ck_X11_keeps 46 rfl) rfl ?_
      exact ihi _ ⟨hR2, hY3.s (by omega) (hs3 (i : Int) (by omega) (by omega)), hX3.w (by decide) (fun h9 => absurd h9 (by decide)), by rw [wr_ne (by decide)]; exact h53⟩
  · skip
    refine tz_bipush (n := 11) (g_at ck_X11_keeps 4 rfl) rfl rfl ?_
    refine tz_istore1 (n := 12) (g_at ck_X11_keeps 5 rfl) rfl (by decide) g_hpR ?_
    suffices hlp : ∀ i : Nat, i ≤ 1365 → ∀ m1 : Mm, (MR m1 ∧ ShD m m1 (i : Int) ∧ FX [84, 104] [45] m m1 ∧ m1 84 45 = n) → gT l γ μX11_keeps 0 0 0 _ _ KK ρ m1 12 [some (vR 84), some (vI (35 + (i : Int)))] [] by
      have h0 := hlp 0 (Nat.zero_le _)
      rw [show (35 : Int) + ((0 : Nat) : Int) = 35 by decide] at h0
      exact h0 _ ⟨hR, fun x x1 => ⟨fun h9 => absurd h9 (by omega), fun _ => rfl⟩, FX.rf, hA.1⟩
    refine g_for (fun i : Nat => ∀ m1 : Mm, (MR m1 ∧ ShD m m1 (i : Int) ∧ FX [84, 104] [45] m m1 ∧ m1 84 45 = n) → gT l γ μX11_keeps 0 0 0 _ _ KK ρ m1 12 [some (vR 84), some (vI (35 + (i : Int)))] []) 1365 ?_ (fun i hi ihi => ?_)
    · intro m1 hinv
      obtain ⟨hR1, hD1, hX1, h51⟩ := hinv
      refine tz_iload1 (n := 13) (g_at ck_X11_keeps 6 rfl) rfl ?_
      refine tz_sipush (n := 16) (g_at ck_X11_keeps 7 rfl) rfl rfl ?_
      refine tz_icmp_ge (n := 19) (tgt := 40) (g_at ck_X11_keeps 8 rfl) rfl rfl (by omega) (fun h16 => ?_) (fun h16 => absurd h16 (by omega))
      refine tz_aload0 (n := 41) (g_at ck_X11_keeps 21 rfl) rfl (g_ne kd_84) ?_
      refine tz_dupR (n := 42) (g_at ck_X11_keeps 22 rfl) rfl ?_
      refine tz_getIw (n := 45) (kz := 45) fk_X11_312 kd_84 (g_at ck_X11_keeps 23 rfl) rfl rfl ?_
      rw [h51, h6]
      refine tz_iconst (n := 46) (g_at ck_X11_keeps 24 rfl) rfl ?_
      refine tz_isub (n := 47) (g_at ck_X11_keeps 25 rfl) rfl ?_
      rw [show (40 : Int) - 1 = 39 by decide]
      refine tz_putIr (n := 50) (kz := 45) fk_X11_312 kd_84 (g_at ck_X11_keeps 26 rfl) rfl hR1 ⟨(by omega), (by omega)⟩ rfl (fun hR3 => ?_)
      refine tz_iconst (n := 51) (g_at ck_X11_keeps 27 rfl) rfl ?_
      refine tz_istore1 (n := 52) (g_at ck_X11_keeps 28 rfl) rfl (by decide) g_hpR ?_
      obtain ⟨m2, e2⟩ : ∃ m2, m2 = wr m1 84 45 39 := ⟨_, rfl⟩
      rw [← e2] at hR3 ⊢
      have hD2 : ShD m m2 1365 := by rw [e2]; intro x x1; rw [wr_ne (by decide)]; exact hD1 x x1
      have hX2 : FX [84, 104] [45] m m2 := by rw [e2]; exact hX1.w (by decide) (fun _ => by decide)
      have h52 : m2 84 45 = 39 := by rw [e2, wr_same]
      refine g_for (fun i : Nat => ∀ m3 : Mm, (MR m3 ∧ Lay 104 m2 m3 (35 * 39) s (i : Int) ∧ FX [84, 104] [45] m m3 ∧ m3 84 45 = 39) → gT l γ μX11_keeps 0 0 0 _ _ KK ρ m3 52 [some (vR 84), some (vI (i : Int))] []) 35 ?_ (fun i hi ihi => ?_) 0 (Nat.zero_le _) _ ⟨hR3, Lay.z, hX2, h52⟩
      · intro m3 hinv
        obtain ⟨hR3, hY3, hX3, h53⟩ := hinv
        refine tz_iload1 (n := 53) (g_at ck_X11_keeps 29 rfl) rfl ?_
        refine tz_bipush (n := 55) (g_at ck_X11_keeps 30 rfl) rfl rfl ?_
        refine tz_icmp_ge (n := 58) (tgt := 84) (g_at ck_X11_keeps 31 rfl) rfl rfl (by omega) (fun h55 => ?_) (fun h55 => absurd h55 (by omega))
        refine tz_aload0 (n := 85) (g_at ck_X11_keeps 47 rfl) rfl (g_ne kd_84) ?_
        refine tz_dupR (n := 86) (g_at ck_X11_keeps 48 rfl) rfl ?_
        refine tz_getIw (n := 89) (kz := 45) fk_X11_312 kd_84 (g_at ck_X11_keeps 49 rfl) rfl rfl ?_
        rw [h53]
        refine tz_iconst (n := 90) (g_at ck_X11_keeps 50 rfl) rfl ?_
        refine tz_iadd (n := 91) (g_at ck_X11_keeps 51 rfl) rfl ?_
        refine tz_putIr (n := 94) (kz := 45) fk_X11_312 kd_84 (g_at ck_X11_keeps 52 rfl) rfl hR3 ⟨(by omega), (by omega)⟩ rfl (fun hR4 => ?_)
        exact tz_vret (g_at ck_X11_keeps 53 rfl) rfl (rV_mk ⟨rfl, hR4, by rw [h6] at hA; exact hA.k2 hD2 hY3 (by rw [wr_ne (by decide)]) (by rw [wr_same]; rfl), hX3.w (by decide) (fun _ => by decide)⟩)
      · intro m3 hinv
        obtain ⟨hR3, hY3, hX3, h53⟩ := hinv
        have hs3 := hs.x hX3 (by decide)
        refine tz_iload1 (n := 53) (g_at ck_X11_keeps 29 rfl) rfl ?_
        refine tz_bipush (n := 55) (g_at ck_X11_keeps 30 rfl) rfl rfl ?_
        refine tz_icmp_ge (n := 58) (tgt := 84) (g_at ck_X11_keeps 31 rfl) rfl rfl (by omega) (fun h55 => absurd h55 (by omega)) (fun h55 => ?_)
        refine tz_aload0 (n := 59) (g_at ck_X11_keeps 32 rfl) rfl (g_ne kd_84) ?_
        refine tz_getAv (n := 62) (a := 104) fk_X11_78 kd_84 (ly_84_44 hL) (g_at ck_X11_keeps 33 rfl) rfl ?_
        refine tz_bipush (n := 64) (g_at ck_X11_keeps 34 rfl) rfl rfl ?_
        refine tz_aload0 (n := 65) (g_at ck_X11_keeps 35 rfl) rfl (g_ne kd_84) ?_
        refine tz_getIw (n := 68) (kz := 45) fk_X11_312 kd_84 (g_at ck_X11_keeps 36 rfl) rfl rfl ?_
        rw [h53]
        refine tz_imul (n := 69) (g_at ck_X11_keeps 37 rfl) rfl ?_
        refine tz_iload1 (n := 70) (g_at ck_X11_keeps 38 rfl) rfl ?_
        refine tz_iadd (n := 71) (g_at ck_X11_keeps 39 rfl) rfl ?_
        refine tz_aload0 (n := 72) (g_at ck_X11_keeps 40 rfl) rfl (g_ne kd_84) ?_
        refine tz_getAv (n := 75) (a := 103) fk_X11_75 kd_84 (ly_84_43 hL) (g_at ck_X11_keeps 41 rfl) rfl ?_
        refine tz_iload1 (n := 76) (g_at ck_X11_keeps 42 rfl) rfl ?_
        refine tz_iald (n := 77) kd_103 (by omega) (g_at ck_X11_keeps 43 rfl) rfl ?_
        refine tz_iastr (n := 78) kd_104 (by omega) (g_at ck_X11_keeps 44 rfl) rfl hR3 ⟨(hR3 _ _).1, (hR3 _ _).2⟩ (fun hR5 => ?_)
        refine tz_iinc1 (n := 81) (g_at ck_X11_keeps 45 rfl) rfl (by decide) g_hpR ?_
        refine tz_goto (tgt := 52) (g_at ck_X11_keeps 46 rfl) rfl ?_
        exact ihi _ ⟨hR5, hY3.s (by omega) (hs3 (i : Int) (by omega) (by omega)), hX3.w (by decide) (fun h9 => absurd h9 (by decide)), by rw [wr_ne (by decide)]; exact h53⟩
    · intro m1 hinv
      obtain ⟨hR1, hD1, hX1, h51⟩ := hinv
      refine tz_iload1 (n := 13) (g_at ck_X11_keeps 6 rfl) rfl ?_
      refine tz_sipush (n := 16) (g_at ck_X11_keeps 7 rfl) rfl rfl ?_
      refine tz_icmp_ge (n := 19) (tgt := 40) (g_at ck_X11_keeps 8 rfl) rfl rfl (by omega) (fun h16 => absurd h16 (by omega)) (fun h16 => ?_)
      refine tz_aload0 (n := 20) (g_at ck_X11_keeps 9 rfl) rfl (g_ne kd_84) ?_
      refine tz_getAv (n := 23) (a := 104) fk_X11_78 kd_84 (ly_84_44 hL) (g_at ck_X11_keeps 10 rfl) rfl ?_
      refine tz_iload1 (n := 24) (g_at ck_X11_keeps 11 rfl) rfl ?_
      refine tz_bipush (n := 26) (g_at ck_X11_keeps 12 rfl) rfl rfl ?_
      refine tz_isub (n := 27) (g_at ck_X11_keeps 13 rfl) rfl ?_
      rw [show (35 : Int) + (i : Int) - 35 = (i : Int) by omega]
      refine tz_aload0 (n := 28) (g_at ck_X11_keeps 14 rfl) rfl (g_ne kd_84) ?_
      refine tz_getAv (n := 31) (a := 104) fk_X11_78 kd_84 (ly_84_44 hL) (g_at ck_X11_keeps 15 rfl) rfl ?_
      refine tz_iload1 (n := 32) (g_at ck_X11_keeps 16 rfl) rfl ?_
      refine tz_iald (n := 33) kd_104 (by omega) (g_at ck_X11_keeps 17 rfl) rfl ?_
      refine tz_iastr (n := 34) kd_104 (by omega) (g_at ck_X11_keeps 18 rfl) rfl hR1 ⟨(hR1 _ _).1, (hR1 _ _).2⟩ (fun hR6 => ?_)
      refine tz_iinc1 (n := 37) (g_at ck_X11_keeps 19 rfl) rfl (by decide) g_hpR ?_
      refine tz_goto (tgt := 12) (g_at ck_X11_keeps 20 rfl) rfl ?_
      rw [show (35 : Int) + (i : Int) + 1 = 35 + ((i + 1 : Nat) : Int) by omega]
      exact ihi _ ⟨hR6, hD1.s (by omega) (by rw [(hD1 (35 + (i : Int)) (by omega)).2 (by omega), show (35 : Int) + (i : Int) = (i : Int) + 35 by omega]), hX1.w (by decide) (fun h9 => absurd h9 (by decide)), by rw [wr_ne (by decide)]; exact h51⟩
theorem mp_refuses {l : Launch} {γ : Gh} {ρ m : Mm} {k : Int} (hL : LY ρ) (hR : MR m) (hk : 0 ≤ k ∧ k < 3) (hb : m 92 k < 2000000000) : gE l γ μX11_refuses 0 0 0 (rI KK fun x ρ9 m9 => ρ = ρ9 ∧ MR m9 ∧ -1 = x ∧ wr m 92 k (m 92 k + 1) = m9) xN KK ρ m [vR 84, vI k] := by
  refine gE.ofw cl_X11.2 ?_ rfl rfl (Nat.le_of_ble_eq_true rfl)
  show gT l γ μX11_refuses 0 0 0 _ _ KK ρ m 0 [some (vR 84), some (vI k)] []
  have h9 := hR 92 k
  refine tz_aload0 (n := 1) (g_at ck_X11_refuses 0 rfl) rfl (g_ne kd_84) ?_
  refine tz_getAv (n := 4) (a := 92) fk_X11_41 kd_84 (ly_84_15 hL) (g_at ck_X11_refuses 1 rfl) rfl ?_
  refine tz_iload1 (n := 5) (g_at ck_X11_refuses 2 rfl) rfl ?_
  refine tz_dup2 (n := 6) (g_at ck_X11_refuses 3 rfl) rfl ?_
  refine tz_iald (n := 7) kd_92 (by omega) (g_at ck_X11_refuses 4 rfl) rfl ?_
  refine tz_iconst (n := 8) (g_at ck_X11_refuses 5 rfl) rfl ?_
  refine tz_iadd (n := 9) (g_at ck_X11_refuses 6 rfl) rfl ?_
  refine tz_iastr (n := 10) kd_92 (by omega) (g_at ck_X11_refuses 7 rfl) rfl hR ⟨(by omega), (by omega)⟩ (fun hR1 => ?_)
  refine tz_iconst (n := 11) (g_at ck_X11_refuses 8 rfl) rfl ?_
  exact tz_iret (g_at ck_X11_refuses 9 rfl) rfl (rI_mk ⟨rfl, hR1, rfl, rfl⟩)
