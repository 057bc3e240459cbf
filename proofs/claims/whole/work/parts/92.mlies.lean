/-! The reference: who lies where. -/
theorem lsF_s {Λ : Mm} {s : Int → Int} {i : Nat} {t : Int} : lsF Λ s (i + 1) t = lsC Λ s (lsF Λ s i) (Λ 0 1 - 1 - (i : Int)) t (Λ 0 0).toNat := by
  show lsC Λ s (lsF Λ s i) (Λ 0 1 - ((i : Int) + 1)) t (Λ 0 0).toNat = _
  rw [show Λ 0 1 - ((i : Int) + 1) = Λ 0 1 - 1 - (i : Int) by omega]
def LT (m Λ : Mm) (s : Int → Int) (i : Nat) : Prop := ∀ p, Λ 0 1 - i ≤ p → p ≤ Λ 0 1 → ∀ t, 0 ≤ t → t < ((2 ^ (Λ 0 0).toNat : Nat) : Int) → m 113 (512 * p + t) = lsF Λ s (Λ 0 1 - p).toNat t
def LJ (m Λ : Mm) (s : Int → Int) (i j : Nat) : Prop := ∀ t, 0 ≤ t → t < (j : Int) → m 113 (512 * (Λ 0 1 - 1 - (i : Int)) + t) = lsF Λ s (i + 1) t
theorem LT.w {m Λ : Mm} {s : Int → Int} {i : Nat} {j v : Int} (hW : WL Λ) (h : LT m Λ s i) (hj : 0 ≤ j ∧ j < 512) : LT (wr m 113 (512 * (Λ 0 1 - 1 - (i : Int)) + j) v) Λ s i := fun p h1 h2 t t1 t2 => by
  have h0 := hW.1
  have p9 : 2 ^ (Λ 0 0).toNat ≤ 2 ^ 9 := Nat.pow_le_pow_right (by decide) (by omega)
  rw [wr_at, if_neg (by omega)]
  exact h p h1 h2 t t1 t2
theorem LJ.w {m Λ : Mm} {s : Int → Int} {i j : Nat} {v : Int} (h : LJ m Λ s i j) (hv : v = lsF Λ s (i + 1) (j : Int)) : LJ (wr m 113 (512 * (Λ 0 1 - 1 - (i : Int)) + (j : Int)) v) Λ s i (j + 1) := fun t t1 t2 => by
  rw [wr_at]
  by_cases e : t = (j : Int)
  · rw [if_pos (by omega), e]; exact hv
  · rw [if_neg (by omega)]
    exact h t t1 (by omega)
theorem LT.n {m Λ : Mm} {s : Int → Int} {i : Nat} (h : LT m Λ s i) (hi : (i : Int) < Λ 0 1) (k : LJ m Λ s i (2 ^ (Λ 0 0).toNat)) : LT m Λ s (i + 1) := fun p h1 h2 t t1 t2 => by
  by_cases e : p = Λ 0 1 - 1 - (i : Int)
  · rw [e, show (Λ 0 1 - (Λ 0 1 - 1 - (i : Int))).toNat = i + 1 by omega]
    exact k t t1 t2
  · exact h p (by omega) h2 t t1 t2
theorem LT.a {m Λ : Mm} {s : Int → Int} {i : Nat} {t : Int} (h : LT m Λ s i) (hi : (i : Int) < Λ 0 1) (ht : 0 ≤ t ∧ t < ((2 ^ (Λ 0 0).toNat : Nat) : Int)) : m 113 (512 * (Λ 0 1 - 1 - (i : Int) + 1) + t) = lsF Λ s i t := by
  have e := h (Λ 0 1 - 1 - (i : Int) + 1) (by omega) (by omega) t ht.1 ht.2
  rw [show (Λ 0 1 - (Λ 0 1 - 1 - (i : Int) + 1)).toNat = i by omega] at e
  exact e
theorem lsC_rg {Λ : Mm} {s : Int → Int} {k : Nat} {p t : Int} (hW : WL Λ) (n : Nat) : 0 ≤ lsC Λ s (lsF Λ s k) p t n ∧ lsC Λ s (lsF Λ s k) p t n ≤ 1000 + 1000 * k := by
  obtain ⟨h1, h2, h3⟩ := ls_1 (Λ := Λ) (s := s) (L := lsF Λ s k) (p := p) (t := t) n
  have i1 := lsF_rg (s := s) hW k t
  refine ⟨?_, by omega⟩
  rcases h3 with h3 | ⟨c, k1, k2, k3⟩
  · omega
  · have i2 := lsF_rg (s := s) hW k (bOr t (bShl 1 (c : Int)))
    have b := ((wyW_i (s := s) hW).1 (s (1 + p) * 9 + (c : Int))).2
    unfold Bd at b
    omega
theorem RF.fr {N : Int} {m m9 ω : Mm} (h : RF N m ω) (hF : Fr [113] m m9) : RF N m9 ω := fun a z h1 h2 h3 h4 => by
  rw [hF 110 (by decide), hF 111 (by decide)]
  exact h a z h1 h2 h3 h4
theorem mp_laysBeds {l : Launch} {γ : Gh} {ρ m : Mm} {s : Int → Int} {Λ : Mm} {hl tl : List Int} (hL : LY ρ) (hR : MR m) (hW : WL Λ) (hM : MLand m Λ hl tl) (hs : MRow m s) (hσ : WS Λ 0 (sig0 s)) (hz : m 84 51 = 0) : gE l γ μX11_laysBeds 2 0 0 (rV KK fun ρ9 m9 => ρ = ρ9 ∧ MR m9 ∧ Fr [110, 111, 113] m m9 ∧ RF (Λ 0 0) m9 (wyW Λ s) ∧ W2 4608 (wyW Λ s) ∧ LT m9 Λ s (Λ 0 1).toNat) xN KK ρ m [vR 84] := by
  refine gE.ofw cl_X11.2 ?_ rfl rfl (Nat.le_of_ble_eq_true rfl)
  show gT l γ μX11_laysBeds 2 0 0 _ _ KK ρ m 0 [some (vR 84), none, none, none, none] []
  have hn1 := hW.1
  have hn8 := hW.2.1
  have hsh := shN hn1
  refine tz_aload0 (n := 1) (g_at ck_X11_laysBeds 0 rfl) rfl (g_ne kd_84) ?_
  refine tz_cvV0 (n := 4) (μ' := μX11_laysWays) (cb' := 0) (sb' := 0) ml_X11_365 mo_X11_laysWays mv_X11_laysWays np_X11_laysWays kd_84 (g_at ck_X11_laysBeds 1 rfl) (mp_laysWays hL hR hW hM hs hσ hz) rfl rfl rfl ⟨by decide, by decide⟩ (Nat.le_of_ble_eq_true rfl) (by decide) (by decide) (fun ρ9 m1 hq => ?_)
  obtain ⟨rfl, hR1, hF1, hr1, hw1⟩ := hq
  have hM9 := hM.fr hF1 (by decide)
  have hs9 : MRow m1 s := (mK.l hF1 (by decide)).row hs
  refine tz_iconst (n := 5) (g_at ck_X11_laysBeds 2 rfl) rfl ?_
  refine tz_istore1 (n := 6) (g_at ck_X11_laysBeds 3 rfl) rfl (by decide) g_hpR ?_
  refine g_for (fun i : Nat => ∀ m2 : Mm, (MR m2 ∧ Fr [113] m1 m2 ∧ ∀ t, 0 ≤ t → t < (i : Int) → m2 113 (512 * Λ 0 1 + t) = 0) → gT l γ μX11_laysBeds 2 0 0 _ _ KK ρ m2 6 [some (vR 84), some (vI (i : Int)), none, none, none] []) 512 ?_ (fun i hi ihi => ?_) 0 (Nat.zero_le _) _ ⟨hR1, Fr.rf, fun t h8 h9 => absurd h9 (by omega)⟩
  · intro m2 hinv
    obtain ⟨hR2, hF2, hZ2⟩ := hinv
    have hM2 := hM9.fr hF2 (by decide)
    refine tz_iload1 (n := 7) (g_at ck_X11_laysBeds 4 rfl) rfl ?_
    refine tz_sipush (n := 10) (g_at ck_X11_laysBeds 5 rfl) rfl rfl ?_
    refine tz_icmp_ge (n := 13) (tgt := 35) (g_at ck_X11_laysBeds 6 rfl) rfl rfl (by omega) (fun h10 => ?_) (fun h10 => absurd h10 (by omega))
    refine tz_aload0 (n := 36) (g_at ck_X11_laysBeds 19 rfl) rfl (g_ne kd_84) ?_
    refine tz_getIw (n := 39) (kz := 2) fk_X11_305 kd_84 (g_at ck_X11_laysBeds 20 rfl) rfl rfl ?_
    rw [hM2.2.1]
    refine tz_iconst (n := 40) (g_at ck_X11_laysBeds 21 rfl) rfl ?_
    refine tz_isub (n := 41) (g_at ck_X11_laysBeds 22 rfl) rfl ?_
    refine tz_istore1 (n := 42) (g_at ck_X11_laysBeds 23 rfl) rfl (by decide) g_hpR ?_
    suffices hlp : ∀ i : Nat, i ≤ (Λ 0 1).toNat → ∀ m3 : Mm, (MR m3 ∧ Fr [113] m1 m3 ∧ LT m3 Λ s i) → gT l γ μX11_laysBeds 2 0 0 _ _ KK ρ m3 42 [some (vR 84), some (vI (Λ 0 1 - 1 - (i : Int))), none, none, none] [] by
      have h0 := hlp 0 (Nat.zero_le _)
      rw [show Λ 0 1 - 1 - ((0 : Nat) : Int) = Λ 0 1 - 1 by omega] at h0
      exact h0 _ ⟨hR2, hF2, fun p h8 h9 t t8 t9 => by rw [show p = Λ 0 1 by omega, show (Λ 0 1 - Λ 0 1).toNat = 0 by omega]; exact hZ2 t t8 (by omega)⟩
    refine g_for (fun i : Nat => ∀ m3 : Mm, (MR m3 ∧ Fr [113] m1 m3 ∧ LT m3 Λ s i) → gT l γ μX11_laysBeds 2 0 0 _ _ KK ρ m3 42 [some (vR 84), some (vI (Λ 0 1 - 1 - (i : Int))), none, none, none] []) (Λ 0 1).toNat ?_ (fun i hi ihi => ?_)
    · intro m3 hinv
      obtain ⟨hR3, hF3, hT3⟩ := hinv
      refine tz_iload1 (n := 43) (g_at ck_X11_laysBeds 24 rfl) rfl ?_
      refine tz_if_lt (n := 46) (tgt := 144) (g_at ck_X11_laysBeds 25 rfl) rfl rfl (by omega) (fun h43 => ?_) (fun h43 => absurd h43 (by omega))
      exact tz_vret (g_at ck_X11_laysBeds 82 rfl) rfl (rV_mk ⟨rfl, hR3, (hF1.sub (by decide)).tr (hF3.sub (by decide)), hr1.fr hF3, hw1, hT3⟩)
    · intro m3 hinv
      obtain ⟨hR3, hF3, hT3⟩ := hinv
      refine tz_iload1 (n := 43) (g_at ck_X11_laysBeds 24 rfl) rfl ?_
      refine tz_if_lt (n := 46) (tgt := 144) (g_at ck_X11_laysBeds 25 rfl) rfl rfl (by omega) (fun h43 => absurd h43 (by omega)) (fun h43 => ?_)
      refine tz_iconst (n := 47) (g_at ck_X11_laysBeds 26 rfl) rfl ?_
      refine tz_istore2 (n := 48) (g_at ck_X11_laysBeds 27 rfl) rfl (by decide) g_hpI ?_
      refine g_for (fun j : Nat => ∀ m4 : Mm, (MR m4 ∧ Fr [113] m1 m4 ∧ LT m4 Λ s i ∧ LJ m4 Λ s i j) → gT l γ μX11_laysBeds 2 0 0 _ _ KK ρ m4 48 [some (vR 84), some (vI (Λ 0 1 - 1 - (i : Int))), some (vI (j : Int)), none, none] []) (2 ^ (Λ 0 0).toNat) ?_ (fun j hj ihj => ?_) 0 (Nat.zero_le _) _ ⟨hR3, hF3, hT3, fun t h8 h9 => absurd h9 (by omega)⟩
      · intro m4 hinv
        obtain ⟨hR4, hF4, hT4, hJ4⟩ := hinv
        have hM4 := hM9.fr hF4 (by decide)
        refine tz_iload2 (n := 49) (g_at ck_X11_laysBeds 28 rfl) rfl ?_
        refine tz_iconst (n := 50) (g_at ck_X11_laysBeds 29 rfl) rfl ?_
        refine tz_aload0 (n := 51) (g_at ck_X11_laysBeds 30 rfl) rfl (g_ne kd_84) ?_
        refine tz_getIw (n := 54) (kz := 1) fk_X11_302 kd_84 (g_at ck_X11_laysBeds 31 rfl) rfl rfl ?_
        refine tz_ishl (n := 55) (g_at ck_X11_laysBeds 32 rfl) rfl ?_
        rw [hM4.1]
        refine tz_icmp_ge (n := 58) (tgt := 138) (g_at ck_X11_laysBeds 33 rfl) rfl rfl ⟨by omega, by omega, by omega, by omega⟩ (fun h55 => ?_) (fun h55 => absurd h55 (by omega))
        refine tz_iinc1 (n := 141) (g_at ck_X11_laysBeds 80 rfl) rfl (by decide) g_hpR ?_
        refine tz_goto (tgt := 42) (g_at ck_X11_laysBeds 81 rfl) rfl ?_
        refine tz_drop2 ?_
        rw [show Λ 0 1 - 1 - (i : Int) + -1 = Λ 0 1 - 1 - ((i + 1 : Nat) : Int) by omega]
        exact ihi _ ⟨hR4, hF4, hT4.n (by omega) hJ4⟩
      · intro m4 hinv
        obtain ⟨hR4, hF4, hT4, hJ4⟩ := hinv
        have hM4 := hM9.fr hF4 (by decide)
        have hs4 : MRow m4 s := (mK.l hF4 (by decide)).row hs9
        have hr4 := hr1.fr hF4
        refine tz_iload2 (n := 49) (g_at ck_X11_laysBeds 28 rfl) rfl ?_
        refine tz_iconst (n := 50) (g_at ck_X11_laysBeds 29 rfl) rfl ?_
        refine tz_aload0 (n := 51) (g_at ck_X11_laysBeds 30 rfl) rfl (g_ne kd_84) ?_
        refine tz_getIw (n := 54) (kz := 1) fk_X11_302 kd_84 (g_at ck_X11_laysBeds 31 rfl) rfl rfl ?_
        refine tz_ishl (n := 55) (g_at ck_X11_laysBeds 32 rfl) rfl ?_
        rw [hM4.1]
        refine tz_icmp_ge (n := 58) (tgt := 138) (g_at ck_X11_laysBeds 33 rfl) rfl rfl ⟨by omega, by omega, by omega, by omega⟩ (fun h55 => absurd h55 (by omega)) (fun h55 => ?_)
        refine tz_sipush (n := 61) (g_at ck_X11_laysBeds 34 rfl) rfl rfl ?_
        refine tz_aload0 (n := 62) (g_at ck_X11_laysBeds 35 rfl) rfl (g_ne kd_84) ?_
        refine tz_getAv (n := 65) (a := 113) fk_X11_105 kd_84 (ly_84_55 hL) (g_at ck_X11_laysBeds 36 rfl) rfl ?_
        refine tz_sipush (n := 68) (g_at ck_X11_laysBeds 37 rfl) rfl rfl ?_
        refine tz_iload1 (n := 69) (g_at ck_X11_laysBeds 38 rfl) rfl ?_
        refine tz_iconst (n := 70) (g_at ck_X11_laysBeds 39 rfl) rfl ?_
        refine tz_iadd (n := 71) (g_at ck_X11_laysBeds 40 rfl) rfl ?_
        refine tz_imul (n := 72) (g_at ck_X11_laysBeds 41 rfl) rfl ?_
        refine tz_iload2 (n := 73) (g_at ck_X11_laysBeds 42 rfl) rfl ?_
        refine tz_iadd (n := 74) (g_at ck_X11_laysBeds 43 rfl) rfl ?_
        refine tz_iald (n := 75) kd_113 (by omega) (g_at ck_X11_laysBeds 44 rfl) rfl ?_
        rw [hT4.a (by omega) (by omega)]
        refine tz_iadd (n := 76) (g_at ck_X11_laysBeds 45 rfl) rfl ?_
        refine tz_istore3 (n := 77) (g_at ck_X11_laysBeds 46 rfl) rfl (by decide) g_hpI ?_
        refine tz_iconst (n := 78) (g_at ck_X11_laysBeds 47 rfl) rfl ?_
        refine tz_istore4 (n := 80) (g_at ck_X11_laysBeds 48 rfl) rfl (by decide) g_hpI ?_
        have il0 := lsF_rg (s := s) hW i (j : Int)
        refine g_for (fun k : Nat => gT l γ μX11_laysBeds 2 0 0 _ _ KK ρ m4 80 [some (vR 84), some (vI (Λ 0 1 - 1 - (i : Int))), some (vI (j : Int)), some (vI (lsC Λ s (lsF Λ s i) (Λ 0 1 - 1 - (i : Int)) (j : Int) k)), some (vI (k : Int))] []) (Λ 0 0).toNat ?_ (fun k hk ihk => ?_) 0 (Nat.zero_le _)
        · skip
          have lc9 := lsC_rg (s := s) (k := i) (p := (Λ 0 1 - 1 - (i : Int))) (t := (j : Int)) hW (Λ 0 0).toNat
          refine tz_iload4 (n := 82) (g_at ck_X11_laysBeds 49 rfl) rfl ?_
          refine tz_aload0 (n := 83) (g_at ck_X11_laysBeds 50 rfl) rfl (g_ne kd_84) ?_
          refine tz_getIw (n := 86) (kz := 1) fk_X11_302 kd_84 (g_at ck_X11_laysBeds 51 rfl) rfl rfl ?_
          rw [hM4.1]
          refine tz_icmp_ge (n := 89) (tgt := 119) (g_at ck_X11_laysBeds 52 rfl) rfl rfl (by omega) (fun h86 => ?_) (fun h86 => absurd h86 (by omega))
          refine tz_aload0 (n := 120) (g_at ck_X11_laysBeds 69 rfl) rfl (g_ne kd_84) ?_
          refine tz_getAv (n := 123) (a := 113) fk_X11_105 kd_84 (ly_84_55 hL) (g_at ck_X11_laysBeds 70 rfl) rfl ?_
          refine tz_sipush (n := 126) (g_at ck_X11_laysBeds 71 rfl) rfl rfl ?_
          refine tz_iload1 (n := 127) (g_at ck_X11_laysBeds 72 rfl) rfl ?_
          refine tz_imul (n := 128) (g_at ck_X11_laysBeds 73 rfl) rfl ?_
          refine tz_iload2 (n := 129) (g_at ck_X11_laysBeds 74 rfl) rfl ?_
          refine tz_iadd (n := 130) (g_at ck_X11_laysBeds 75 rfl) rfl ?_
          refine tz_iload3 (n := 131) (g_at ck_X11_laysBeds 76 rfl) rfl ?_
          refine tz_iastr (n := 132) kd_113 (by omega) (g_at ck_X11_laysBeds 77 rfl) rfl hR4 ⟨(by omega), (by omega)⟩ (fun hR2 => ?_)
          refine tz_iinc2 (n := 135) (g_at ck_X11_laysBeds 78 rfl) rfl (by decide) g_hpI ?_
          refine tz_goto (tgt := 48) (g_at ck_X11_laysBeds 79 rfl) rfl ?_
          refine tz_drop3 ?_
          refine tz_drop4 ?_
          exact ihj _ ⟨hR2, hF4.wrc, hT4.w hW (by omega), hJ4.w lsF_s.symm⟩
        · skip
          have lc9 := lsC_rg (s := s) (k := i) (p := (Λ 0 1 - 1 - (i : Int))) (t := (j : Int)) hW k
          have hbo := bor_lt (t := j) (z := k) (n := (Λ 0 0).toNat) (by omega) (by omega) (by omega)
          refine tz_iload4 (n := 82) (g_at ck_X11_laysBeds 49 rfl) rfl ?_
          refine tz_aload0 (n := 83) (g_at ck_X11_laysBeds 50 rfl) rfl (g_ne kd_84) ?_
          refine tz_getIw (n := 86) (kz := 1) fk_X11_302 kd_84 (g_at ck_X11_laysBeds 51 rfl) rfl rfl ?_
          rw [hM4.1]
          refine tz_icmp_ge (n := 89) (tgt := 119) (g_at ck_X11_laysBeds 52 rfl) rfl rfl (by omega) (fun h86 => absurd h86 (by omega)) (fun h86 => ?_)
          refine tz_aload0 (n := 90) (g_at ck_X11_laysBeds 53 rfl) rfl (g_ne kd_84) ?_
          refine tz_iload1 (n := 91) (g_at ck_X11_laysBeds 54 rfl) rfl ?_
          refine tz_iload4 (n := 93) (g_at ck_X11_laysBeds 55 rfl) rfl ?_
          refine tz_iload2 (n := 94) (g_at ck_X11_laysBeds 56 rfl) rfl ?_
          refine tz_cvI3 (n := 97) (μ' := μX11_canLie) (cb' := 0) (sb' := 0) ml_X11_438 mo_X11_canLie mv_X11_canLie np_X11_canLie kd_84 (g_at ck_X11_laysBeds 57 rfl) (mp_canLie hL hR4 hW hM4 hs4 hσ hr4 hw1 (by omega) (by omega)) rfl rfl rfl ⟨by decide, by decide⟩ (Nat.le_of_ble_eq_true rfl) (by decide) (by decide) (fun x94 ρ9 m94 hq => ?_)
          obtain ⟨rfl, hR3, rfl, rfl⟩ := hq
          have c01 := csP_01 (Λ := Λ) (s := s) (p := (Λ 0 1 - 1 - (i : Int))) (t := (j : Int)) (b := (k : Int))
          refine tz_if_eq (n := 100) (tgt := 113) (g_at ck_X11_laysBeds 58 rfl) rfl rfl (by omega) (fun h97 => ?_) (fun h97 => ?_)
          · skip
            refine tz_iinc4 (n := 116) (g_at ck_X11_laysBeds 67 rfl) rfl (by decide) g_hpI ?_
            refine tz_goto (tgt := 80) (g_at ck_X11_laysBeds 68 rfl) rfl ?_
            have e9 : lsC Λ s (lsF Λ s i) (Λ 0 1 - 1 - (i : Int)) (j : Int) (k + 1) = (lsC Λ s (lsF Λ s i) (Λ 0 1 - 1 - (i : Int)) (j : Int) k) := if_pos h97
            rw [e9] at ihk
            exact ihk
          · skip
            refine tz_iload3 (n := 101) (g_at ck_X11_laysBeds 59 rfl) rfl ?_
            refine tz_aload0 (n := 102) (g_at ck_X11_laysBeds 60 rfl) rfl (g_ne kd_84) ?_
            refine tz_iload1 (n := 103) (g_at ck_X11_laysBeds 61 rfl) rfl ?_
            refine tz_iload4 (n := 105) (g_at ck_X11_laysBeds 62 rfl) rfl ?_
            refine tz_iload2 (n := 106) (g_at ck_X11_laysBeds 63 rfl) rfl ?_
            refine tz_cvI3 (n := 109) (μ' := μX11_lies) (cb' := 0) (sb' := 0) ml_X11_441 mo_X11_lies mv_X11_lies np_X11_lies kd_84 (g_at ck_X11_laysBeds 64 rfl) (mp_lies hL hR3 hW hM4 hs4 hσ hr4 hw1 (by omega) (by omega) (by omega) h97) rfl rfl rfl ⟨by decide, by decide⟩ (Nat.le_of_ble_eq_true rfl) (by decide) (by decide) (fun x106 ρ9 m106 hq => ?_)
            obtain ⟨rfl, hR4, rfl, rfl⟩ := hq
            rw [hT4.a (by omega) (by omega)]
            have il9 := lsF_rg (s := s) hW i (bOr (j : Int) (bShl 1 (k : Int)))
            have wb9 := (hw1 (s (1 + (Λ 0 1 - 1 - (i : Int))) * 9 + (k : Int))).2
            unfold Bd at wb9
            refine tz_csI2 (n := 112) (μ' := μX11_lesser) (cb' := 0) (sb' := 0) ml_X11_362 mo_X11_lesser ms_X11_lesser np_X11_lesser (g_at ck_X11_laysBeds 65 rfl) (mp_lesser hR4 (by omega) (by omega)) rfl rfl ⟨by decide, by decide⟩ (Nat.le_of_ble_eq_true rfl) (by decide) (by decide) (fun x109 ρ9 m109 hq => ?_)
            obtain ⟨rfl, hR5, rfl, rfl⟩ := hq
            refine tz_istore3 (n := 113) (g_at ck_X11_laysBeds 66 rfl) rfl (by decide) g_hpI ?_
            refine tz_iinc4 (n := 116) (g_at ck_X11_laysBeds 67 rfl) rfl (by decide) g_hpI ?_
            refine tz_goto (tgt := 80) (g_at ck_X11_laysBeds 68 rfl) rfl ?_
            have e9 : lsC Λ s (lsF Λ s i) (Λ 0 1 - 1 - (i : Int)) (j : Int) (k + 1) = lesF (lsC Λ s (lsF Λ s i) (Λ 0 1 - 1 - (i : Int)) (j : Int) k) (wyW Λ s 1 (s (1 + (Λ 0 1 - 1 - (i : Int))) * 9 + (k : Int)) + lsF Λ s i (bOr (j : Int) (bShl 1 (k : Int)))) := if_neg h97
            rw [e9] at ihk
            exact ihk
  · intro m2 hinv
    obtain ⟨hR2, hF2, hZ2⟩ := hinv
    have hM2 := hM9.fr hF2 (by decide)
    refine tz_iload1 (n := 7) (g_at ck_X11_laysBeds 4 rfl) rfl ?_
    refine tz_sipush (n := 10) (g_at ck_X11_laysBeds 5 rfl) rfl rfl ?_
    refine tz_icmp_ge (n := 13) (tgt := 35) (g_at ck_X11_laysBeds 6 rfl) rfl rfl (by omega) (fun h10 => absurd h10 (by omega)) (fun h10 => ?_)
    refine tz_aload0 (n := 14) (g_at ck_X11_laysBeds 7 rfl) rfl (g_ne kd_84) ?_
    refine tz_getAv (n := 17) (a := 113) fk_X11_105 kd_84 (ly_84_55 hL) (g_at ck_X11_laysBeds 8 rfl) rfl ?_
    refine tz_sipush (n := 20) (g_at ck_X11_laysBeds 9 rfl) rfl rfl ?_
    refine tz_aload0 (n := 21) (g_at ck_X11_laysBeds 10 rfl) rfl (g_ne kd_84) ?_
    refine tz_getIw (n := 24) (kz := 2) fk_X11_305 kd_84 (g_at ck_X11_laysBeds 11 rfl) rfl rfl ?_
    rw [hM2.2.1]
    refine tz_imul (n := 25) (g_at ck_X11_laysBeds 12 rfl) rfl ?_
    refine tz_iload1 (n := 26) (g_at ck_X11_laysBeds 13 rfl) rfl ?_
    refine tz_iadd (n := 27) (g_at ck_X11_laysBeds 14 rfl) rfl ?_
    refine tz_iconst (n := 28) (g_at ck_X11_laysBeds 15 rfl) rfl ?_
    refine tz_iastr (n := 29) kd_113 (by omega) (g_at ck_X11_laysBeds 16 rfl) rfl hR2 ⟨(by decide), (by decide)⟩ (fun hR6 => ?_)
    refine tz_iinc1 (n := 32) (g_at ck_X11_laysBeds 17 rfl) rfl (by decide) g_hpR ?_
    refine tz_goto (tgt := 6) (g_at ck_X11_laysBeds 18 rfl) rfl ?_
    exact ihi _ ⟨hR6, hF2.wrc, fun t h8 h9 => by rw [wr_at]; by_cases e9 : t = (i : Int); rw [if_pos (by omega)]; rw [if_neg (by omega)]; exact hZ2 t h8 (by omega)⟩
