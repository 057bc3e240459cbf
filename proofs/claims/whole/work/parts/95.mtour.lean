/-! The reference: the tour's calls. -/
theorem RF.f5 {N : Int} {m m9 ω : Mm} (h : RF N m ω) (hF : Fr [115] m m9) : RF N m9 ω := fun a z h1 h2 h3 h4 => by
  rw [hF 110 (by decide), hF 111 (by decide)]
  exact h a z h1 h2 h3 h4
def RT (m Λ : Mm) (s : Int → Int) (lo : Int) : Prop := ∀ t, lo < t → t ≤ whl Λ → ∀ a, 0 ≤ a → a < Λ 0 0 → m 115 (9 * t + a) = tr9 (tvT Λ s (t * 9 + a))
def RS (m Λ : Mm) (s : Int → Int) (t : Int) (j : Int) : Prop := ∀ a, 0 ≤ a → a < j → m 115 (9 * t + a) = tr9 (tvT Λ s (t * 9 + a))
theorem RT.w {m Λ : Mm} {s : Int → Int} {t j v : Int} (hW : WL Λ) (h : RT m Λ s t) (hj : 0 ≤ j ∧ j < 9) : RT (wr m 115 (9 * t + j) v) Λ s t := fun t' h1 h2 a a1 a2 => by
  have h0 := hW.1
  rw [wr_at, if_neg (by omega)]
  exact h t' h1 h2 a a1 a2
theorem RS.w {m Λ : Mm} {s : Int → Int} {t j v : Int} (h : RS m Λ s t j) (hv : v = tr9 (tvT Λ s (t * 9 + j))) : RS (wr m 115 (9 * t + j) v) Λ s t (j + 1) := fun a a1 a2 => by
  rw [wr_at]
  by_cases e : a = j
  · rw [if_pos (by omega), e]; exact hv
  · rw [if_neg (by omega)]
    exact h a a1 (by omega)
theorem RT.n {m Λ : Mm} {s : Int → Int} {t : Int} (h : RT m Λ s t) (k : RS m Λ s t (Λ 0 0)) : RT m Λ s (t + -1) := fun t' h1 h2 a a1 a2 => by
  by_cases e : t' = t
  · rw [e]; exact k a a1 a2
  · exact h t' (by omega) h2 a a1 a2
theorem whl_rg {Λ : Mm} (hW : WL Λ) : 0 ≤ whl Λ ∧ whl Λ < 512 := by
  have h0 := hW.1
  have p9 : 2 ^ (Λ 0 0).toNat ≤ 2 ^ 9 := Nat.pow_le_pow_right (by decide) (by omega)
  have p0 : 0 < 2 ^ (Λ 0 0).toNat := Nat.pow_pos (by decide)
  unfold whl
  omega
theorem lesF_9 {v : Int} (h : v ≤ 9999) : lesF v 9999 = v := by
  unfold lesF
  split <;> omega
theorem mp_onBy {l : Launch} {γ : Gh} {ρ m : Mm} {t a z : Int} {s : Int → Int} {Λ : Mm} (hL : LY ρ) (hR : MR m) (hW : WL Λ) (hr : RF (Λ 0 0) m (wyW Λ s)) (hT : RT m Λ s t) (ht : 0 ≤ t ∧ t ≤ whl Λ) (ha : 0 ≤ a ∧ a < Λ 0 0) (hz : 0 ≤ z ∧ z < Λ 0 0) (hb : bAnd (bShr t z) 1 = 0) : gE l γ μX11_onBy 0 0 0 (rI KK fun x ρ9 m9 => ρ = ρ9 ∧ MR m9 ∧ (tr9 (wyW Λ s 1 (a * 9 + z)) + tr9 (tvT Λ s (bOr t (bShl 1 z) * 9 + z))) = x ∧ m = m9) xN KK ρ m [vR 84, vI t, vI a, vI z] := by
  refine gE.ofw cl_X11.2 ?_ rfl rfl (Nat.le_of_ble_eq_true rfl)
  show gT l γ μX11_onBy 0 0 0 _ _ KK ρ m 0 [some (vR 84), some (vI t), some (vI a), some (vI z)] []
  have hn1 := hW.1
  have hwh := whl_rg hW
  have ho := orI hW ht hz hb
  refine tz_aload0 (n := 1) (g_at ck_X11_onBy 0 rfl) rfl (g_ne kd_84) ?_
  refine tz_getAv (n := 4) (a := 111) fk_X11_99 kd_84 (ly_84_53 hL) (g_at ck_X11_onBy 1 rfl) rfl ?_
  refine tz_bipush (n := 6) (g_at ck_X11_onBy 2 rfl) rfl rfl ?_
  refine tz_iload2 (n := 7) (g_at ck_X11_onBy 3 rfl) rfl ?_
  refine tz_imul (n := 8) (g_at ck_X11_onBy 4 rfl) rfl ?_
  refine tz_iload3 (n := 9) (g_at ck_X11_onBy 5 rfl) rfl ?_
  refine tz_iadd (n := 10) (g_at ck_X11_onBy 6 rfl) rfl ?_
  refine tz_iald (n := 11) kd_111 (by omega) (g_at ck_X11_onBy 7 rfl) rfl ?_
  rw [(hr a z ha.1 ha.2 hz.1 hz.2).2]
  refine tz_aload0 (n := 12) (g_at ck_X11_onBy 8 rfl) rfl (g_ne kd_84) ?_
  refine tz_getAv (n := 15) (a := 115) fk_X11_111 kd_84 (ly_84_57 hL) (g_at ck_X11_onBy 9 rfl) rfl ?_
  refine tz_bipush (n := 17) (g_at ck_X11_onBy 10 rfl) rfl rfl ?_
  refine tz_iload1 (n := 18) (g_at ck_X11_onBy 11 rfl) rfl ?_
  refine tz_iconst (n := 19) (g_at ck_X11_onBy 12 rfl) rfl ?_
  refine tz_iload3 (n := 20) (g_at ck_X11_onBy 13 rfl) rfl ?_
  refine tz_ishl (n := 21) (g_at ck_X11_onBy 14 rfl) rfl ?_
  refine tz_ior (n := 22) (g_at ck_X11_onBy 15 rfl) rfl ?_
  refine tz_imul (n := 23) (g_at ck_X11_onBy 16 rfl) rfl ?_
  refine tz_iload3 (n := 24) (g_at ck_X11_onBy 17 rfl) rfl ?_
  refine tz_iadd (n := 25) (g_at ck_X11_onBy 18 rfl) rfl ?_
  refine tz_iald (n := 26) kd_115 (by omega) (g_at ck_X11_onBy 19 rfl) rfl ?_
  rw [hT _ ho.1 ho.2.1 z hz.1 hz.2]
  refine tz_iadd (n := 27) (g_at ck_X11_onBy 20 rfl) rfl ?_
  exact tz_iret (g_at ck_X11_onBy 21 rfl) rfl (rI_mk ⟨rfl, hR, rfl, rfl⟩)
theorem mp_laysTour {l : Launch} {γ : Gh} {ρ m : Mm} {s : Int → Int} {Λ : Mm} {hl tl : List Int} (hL : LY ρ) (hR : MR m) (hW : WL Λ) (hM : MLand m Λ hl tl) (hs : MRow m s) (hσ : WS Λ 0 (sig0 s)) (hz : m 84 51 = 0) (h0 : 0 < Λ 0 0) : gE l γ μX11_laysTour 2 0 0 (rV KK fun ρ9 m9 => ρ = ρ9 ∧ MR m9 ∧ Fr [110, 111, 115] m m9 ∧ RF (Λ 0 0) m9 (wyW Λ s) ∧ W2 4608 (wyW Λ s) ∧ RT m9 Λ s 0) xN KK ρ m [vR 84] := by
  refine gE.ofw cl_X11.2 ?_ rfl rfl (Nat.le_of_ble_eq_true rfl)
  show gT l γ μX11_laysTour 2 0 0 _ _ KK ρ m 0 [some (vR 84), none, none, none, none, none] []
  have hn1 := hW.1
  have hsh := shN hn1
  have hwh := whl_rg hW
  have hw9 : bShl 1 (Λ 0 0) - 1 = whl Λ := by rw [hsh.1]; rfl
  refine tz_aload0 (n := 1) (g_at ck_X11_laysTour 0 rfl) rfl (g_ne kd_84) ?_
  refine tz_cvV0 (n := 4) (μ' := μX11_laysWays) (cb' := 0) (sb' := 0) ml_X11_365 mo_X11_laysWays mv_X11_laysWays np_X11_laysWays kd_84 (g_at ck_X11_laysTour 1 rfl) (mp_laysWays hL hR hW hM hs hσ hz) rfl rfl rfl ⟨by decide, by decide⟩ (Nat.le_of_ble_eq_true rfl) (by decide) (by decide) (fun ρ9 m1 hq => ?_)
  obtain ⟨rfl, hR1, hF1, hr1, hw1⟩ := hq
  have hM9 := hM.fr hF1 (by decide)
  refine tz_iconst (n := 5) (g_at ck_X11_laysTour 2 rfl) rfl ?_
  refine tz_aload0 (n := 6) (g_at ck_X11_laysTour 3 rfl) rfl (g_ne kd_84) ?_
  refine tz_getIw (n := 9) (kz := 1) fk_X11_302 kd_84 (g_at ck_X11_laysTour 4 rfl) rfl rfl ?_
  rw [hM9.1]
  refine tz_ishl (n := 10) (g_at ck_X11_laysTour 5 rfl) rfl ?_
  refine tz_iconst (n := 11) (g_at ck_X11_laysTour 6 rfl) rfl ?_
  refine tz_isub (n := 12) (g_at ck_X11_laysTour 7 rfl) rfl ?_
  rw [hw9]
  refine tz_istore1 (n := 13) (g_at ck_X11_laysTour 8 rfl) rfl (by decide) g_hpR ?_
  refine tz_iload1 (n := 14) (g_at ck_X11_laysTour 9 rfl) rfl ?_
  refine tz_istore2 (n := 15) (g_at ck_X11_laysTour 10 rfl) rfl (by decide) g_hpI ?_
  suffices hlp : ∀ i : Nat, i ≤ (whl Λ).toNat → ∀ m3 : Mm, (MR m3 ∧ Fr [115] m1 m3 ∧ RT m3 Λ s (whl Λ - (i : Int))) → gT l γ μX11_laysTour 2 0 0 _ _ KK ρ m3 15 [some (vR 84), some (vI (whl Λ)), some (vI (whl Λ - (i : Int))), none, none, none] [] by
    have h0 := hlp 0 (Nat.zero_le _)
    rw [show whl Λ - ((0 : Nat) : Int) = whl Λ by omega] at h0
    exact h0 _ ⟨hR1, Fr.rf, fun t h8 h9 => absurd h9 (by omega)⟩
  refine g_for (fun i : Nat => ∀ m3 : Mm, (MR m3 ∧ Fr [115] m1 m3 ∧ RT m3 Λ s (whl Λ - (i : Int))) → gT l γ μX11_laysTour 2 0 0 _ _ KK ρ m3 15 [some (vR 84), some (vI (whl Λ)), some (vI (whl Λ - (i : Int))), none, none, none] []) (whl Λ).toNat ?_ (fun i hi ihi => ?_)
  · intro m3 hinv
    obtain ⟨hR3, hF3, hT3⟩ := hinv
    have hTz : RT m3 Λ s 0 := by rw [show (0 : Int) = whl Λ - (((whl Λ).toNat : Nat) : Int) by omega]; exact hT3
    refine tz_iload2 (n := 16) (g_at ck_X11_laysTour 11 rfl) rfl ?_
    refine tz_if_le (n := 19) (tgt := 124) (g_at ck_X11_laysTour 12 rfl) rfl rfl (by omega) (fun h16 => ?_) (fun h16 => absurd h16 (by omega))
    exact tz_vret (g_at ck_X11_laysTour 68 rfl) rfl (rV_mk ⟨rfl, hR3, (hF1.sub (by decide)).tr (hF3.sub (by decide)), hr1.f5 hF3, hw1, hTz⟩)
  · intro m3 hinv
    obtain ⟨hR3, hF3, hT3⟩ := hinv
    refine tz_iload2 (n := 16) (g_at ck_X11_laysTour 11 rfl) rfl ?_
    refine tz_if_le (n := 19) (tgt := 124) (g_at ck_X11_laysTour 12 rfl) rfl rfl (by omega) (fun h16 => absurd h16 (by omega)) (fun h16 => ?_)
    refine tz_iconst (n := 20) (g_at ck_X11_laysTour 13 rfl) rfl ?_
    refine tz_istore3 (n := 21) (g_at ck_X11_laysTour 14 rfl) rfl (by decide) g_hpI ?_
    refine g_for (fun j : Nat => ∀ m4 : Mm, (MR m4 ∧ Fr [115] m1 m4 ∧ RT m4 Λ s (whl Λ - (i : Int)) ∧ RS m4 Λ s (whl Λ - (i : Int)) (j : Int)) → gT l γ μX11_laysTour 2 0 0 _ _ KK ρ m4 21 [some (vR 84), some (vI (whl Λ)), some (vI (whl Λ - (i : Int))), some (vI (j : Int)), none, none] []) (Λ 0 0).toNat ?_ (fun j hj ihj => ?_) 0 (Nat.zero_le _) _ ⟨hR3, hF3, hT3, fun a h8 h9 => absurd h9 (by omega)⟩
    · intro m4 hinv
      obtain ⟨hR4, hF4, hT4, hS4⟩ := hinv
      have hM4 := hM9.fr hF4 (by decide)
      refine tz_iload3 (n := 22) (g_at ck_X11_laysTour 15 rfl) rfl ?_
      refine tz_aload0 (n := 23) (g_at ck_X11_laysTour 16 rfl) rfl (g_ne kd_84) ?_
      refine tz_getIw (n := 26) (kz := 1) fk_X11_302 kd_84 (g_at ck_X11_laysTour 17 rfl) rfl rfl ?_
      rw [hM4.1]
      refine tz_icmp_ge (n := 29) (tgt := 118) (g_at ck_X11_laysTour 18 rfl) rfl rfl (by omega) (fun h26 => ?_) (fun h26 => absurd h26 (by omega))
      refine tz_iinc2 (n := 121) (g_at ck_X11_laysTour 66 rfl) rfl (by decide) g_hpI ?_
      refine tz_goto (tgt := 15) (g_at ck_X11_laysTour 67 rfl) rfl ?_
      refine tz_drop3 ?_
      rw [show whl Λ - (i : Int) + -1 = whl Λ - ((i + 1 : Nat) : Int) by omega]
      exact ihi _ ⟨hR4, hF4, by rw [show whl Λ - ((i + 1 : Nat) : Int) = whl Λ - (i : Int) + -1 by omega]; exact hT4.n (by rw [show Λ 0 0 = ((Λ 0 0).toNat : Int) by omega]; exact hS4)⟩
    · intro m4 hinv
      obtain ⟨hR4, hF4, hT4, hS4⟩ := hinv
      have hM4 := hM9.fr hF4 (by decide)
      have hr4 := hr1.f5 hF4
      have gc := tr_rg (hw1 ((j : Int) * 9 + 0)).2 (Int.le_refl _)
      refine tz_iload3 (n := 22) (g_at ck_X11_laysTour 15 rfl) rfl ?_
      refine tz_aload0 (n := 23) (g_at ck_X11_laysTour 16 rfl) rfl (g_ne kd_84) ?_
      refine tz_getIw (n := 26) (kz := 1) fk_X11_302 kd_84 (g_at ck_X11_laysTour 17 rfl) rfl rfl ?_
      rw [hM4.1]
      refine tz_icmp_ge (n := 29) (tgt := 118) (g_at ck_X11_laysTour 18 rfl) rfl rfl (by omega) (fun h26 => absurd h26 (by omega)) (fun h26 => ?_)
      refine tz_iload2 (n := 30) (g_at ck_X11_laysTour 19 rfl) rfl ?_
      refine tz_iload1 (n := 31) (g_at ck_X11_laysTour 20 rfl) rfl ?_
      refine tz_icmp_ne (n := 34) (tgt := 46) (g_at ck_X11_laysTour 21 rfl) rfl rfl (by omega) (fun h31 => ?_) (fun h31 => ?_)
      · skip
        refine tz_sipush (n := 49) (g_at ck_X11_laysTour 29 rfl) rfl rfl ?_
        refine tz_istore4 (n := 51) (g_at ck_X11_laysTour 30 rfl) rfl (by decide) g_hpI ?_
        refine tz_iconst (n := 52) (g_at ck_X11_laysTour 31 rfl) rfl ?_
        refine tz_istore5 (n := 54) (g_at ck_X11_laysTour 32 rfl) rfl (by decide) g_hpI ?_
        suffices hlp : ∀ k : Nat, k ≤ (Λ 0 0).toNat → gT l γ μX11_laysTour 2 0 0 _ _ KK ρ m4 54 [some (vR 84), some (vI (whl Λ)), some (vI (whl Λ - (i : Int))), some (vI (j : Int)), some (vI (mvN Λ s (whl Λ - (i : Int)) (j : Int) k)), some (vI (k : Int))] [] by
          have h0 := hlp 0 (Nat.zero_le _)
          rw [show mvN Λ s (whl Λ - (i : Int)) (j : Int) 0 = (9999 : Int) from if_neg h31] at h0
          exact h0
        refine g_for (fun k : Nat => gT l γ μX11_laysTour 2 0 0 _ _ KK ρ m4 54 [some (vR 84), some (vI (whl Λ)), some (vI (whl Λ - (i : Int))), some (vI (j : Int)), some (vI (mvN Λ s (whl Λ - (i : Int)) (j : Int) k)), some (vI (k : Int))] []) (Λ 0 0).toNat ?_ (fun k hk ihk => ?_)
        · skip
          have hmf := mv_fin (s := s) hW (t := (whl Λ - (i : Int))) (a := (j : Int)) (by omega) (by omega)
          have hmr := mv_rg (s := s) hW (t := (whl Λ - (i : Int))) (a := (j : Int)) (by omega) (by omega) (Λ 0 0).toNat (by omega)
          refine tz_iload5 (n := 56) (g_at ck_X11_laysTour 33 rfl) rfl ?_
          refine tz_aload0 (n := 57) (g_at ck_X11_laysTour 34 rfl) rfl (g_ne kd_84) ?_
          refine tz_getIw (n := 60) (kz := 1) fk_X11_302 kd_84 (g_at ck_X11_laysTour 35 rfl) rfl rfl ?_
          rw [hM4.1]
          refine tz_icmp_ge (n := 63) (tgt := 93) (g_at ck_X11_laysTour 36 rfl) rfl rfl (by omega) (fun h60 => ?_) (fun h60 => absurd h60 (by omega))
          refine tz_aload0 (n := 94) (g_at ck_X11_laysTour 53 rfl) rfl (g_ne kd_84) ?_
          refine tz_getAv (n := 97) (a := 115) fk_X11_111 kd_84 (ly_84_57 hL) (g_at ck_X11_laysTour 54 rfl) rfl ?_
          refine tz_bipush (n := 99) (g_at ck_X11_laysTour 55 rfl) rfl rfl ?_
          refine tz_iload2 (n := 100) (g_at ck_X11_laysTour 56 rfl) rfl ?_
          refine tz_imul (n := 101) (g_at ck_X11_laysTour 57 rfl) rfl ?_
          refine tz_iload3 (n := 102) (g_at ck_X11_laysTour 58 rfl) rfl ?_
          refine tz_iadd (n := 103) (g_at ck_X11_laysTour 59 rfl) rfl ?_
          refine tz_iload4 (n := 105) (g_at ck_X11_laysTour 60 rfl) rfl ?_
          refine tz_sipush (n := 108) (g_at ck_X11_laysTour 61 rfl) rfl rfl ?_
          refine tz_csI2 (n := 111) (μ' := μX11_lesser) (cb' := 0) (sb' := 0) ml_X11_362 mo_X11_lesser ms_X11_lesser np_X11_lesser (g_at ck_X11_laysTour 62 rfl) (mp_lesser hR4 (by omega) (by omega)) rfl rfl ⟨by decide, by decide⟩ (Nat.le_of_ble_eq_true rfl) (by decide) (by decide) (fun x108 ρ9 m108 hq => ?_)
          obtain ⟨rfl, hR2, rfl, rfl⟩ := hq
          rw [lesF_9 (by omega), hmf]
          refine tz_iastr (n := 112) kd_115 (by omega) (g_at ck_X11_laysTour 63 rfl) rfl hR2 ⟨(by omega), (by omega)⟩ (fun hR3 => ?_)
          refine tz_iinc3 (n := 115) (g_at ck_X11_laysTour 64 rfl) rfl (by decide) g_hpI ?_
          refine tz_goto (tgt := 21) (g_at ck_X11_laysTour 65 rfl) rfl ?_
          refine tz_drop4 ?_
          refine tz_drop5 ?_
          exact ihj _ ⟨hR3, hF4.wrc, hT4.w hW (by omega), hS4.w rfl⟩
        · skip
          have hmr := mv_rg (s := s) hW (t := (whl Λ - (i : Int))) (a := (j : Int)) (by omega) (by omega) k (by omega)
          refine tz_iload5 (n := 56) (g_at ck_X11_laysTour 33 rfl) rfl ?_
          refine tz_aload0 (n := 57) (g_at ck_X11_laysTour 34 rfl) rfl (g_ne kd_84) ?_
          refine tz_getIw (n := 60) (kz := 1) fk_X11_302 kd_84 (g_at ck_X11_laysTour 35 rfl) rfl rfl ?_
          rw [hM4.1]
          refine tz_icmp_ge (n := 63) (tgt := 93) (g_at ck_X11_laysTour 36 rfl) rfl rfl (by omega) (fun h60 => absurd h60 (by omega)) (fun h60 => ?_)
          refine tz_iload2 (n := 64) (g_at ck_X11_laysTour 37 rfl) rfl ?_
          refine tz_iload5 (n := 66) (g_at ck_X11_laysTour 38 rfl) rfl ?_
          refine tz_ishr (n := 67) (g_at ck_X11_laysTour 39 rfl) rfl ?_
          refine tz_iconst (n := 68) (g_at ck_X11_laysTour 40 rfl) rfl ?_
          refine tz_iand (n := 69) (g_at ck_X11_laysTour 41 rfl) rfl ?_
          refine tz_if_ne (n := 72) (tgt := 87) (g_at ck_X11_laysTour 42 rfl) rfl rfl (bAnd_rg _ _) (fun h69 => ?_) (fun h69 => ?_)
          · skip
            refine tz_iinc5 (n := 90) (g_at ck_X11_laysTour 51 rfl) rfl (by decide) g_hpI ?_
            refine tz_goto (tgt := 54) (g_at ck_X11_laysTour 52 rfl) rfl ?_
            have e9 : mvN Λ s (whl Λ - (i : Int)) (j : Int) (k + 1) = (mvN Λ s (whl Λ - (i : Int)) (j : Int) k) := if_neg h69
            rw [e9] at ihk
            exact ihk
          · skip
            refine tz_iload4 (n := 74) (g_at ck_X11_laysTour 43 rfl) rfl ?_
            refine tz_aload0 (n := 75) (g_at ck_X11_laysTour 44 rfl) rfl (g_ne kd_84) ?_
            refine tz_iload2 (n := 76) (g_at ck_X11_laysTour 45 rfl) rfl ?_
            refine tz_iload3 (n := 77) (g_at ck_X11_laysTour 46 rfl) rfl ?_
            refine tz_iload5 (n := 79) (g_at ck_X11_laysTour 47 rfl) rfl ?_
            refine tz_cvI3 (n := 82) (μ' := μX11_onBy) (cb' := 0) (sb' := 0) ml_X11_459 mo_X11_onBy mv_X11_onBy np_X11_onBy kd_84 (g_at ck_X11_laysTour 48 rfl) (mp_onBy hL hR4 hW hr4 hT4 (by omega) (by omega) (by omega) h69) rfl rfl rfl ⟨by decide, by decide⟩ (Nat.le_of_ble_eq_true rfl) (by decide) (by decide) (fun x79 ρ9 m79 hq => ?_)
            obtain ⟨rfl, hR4, rfl, rfl⟩ := hq
            have oI := orI hW (t := (whl Λ - (i : Int))) (z := (k : Int)) (by omega) (by omega) h69
            have g8 := tr_rg ((tvT_b (s := s) hW (t := bOr (whl Λ - (i : Int)) (bShl 1 (k : Int))) (a := (k : Int)) (by omega) (by omega)).up (by decide)) (Int.le_refl _)
            have g7 := tr_rg (hw1 ((j : Int) * 9 + (k : Int))).2 (Int.le_refl _)
            refine tz_csI2 (n := 85) (μ' := μX11_lesser) (cb' := 0) (sb' := 0) ml_X11_362 mo_X11_lesser ms_X11_lesser np_X11_lesser (g_at ck_X11_laysTour 49 rfl) (mp_lesser hR4 (by omega) (by omega)) rfl rfl ⟨by decide, by decide⟩ (Nat.le_of_ble_eq_true rfl) (by decide) (by decide) (fun x82 ρ9 m82 hq => ?_)
            obtain ⟨rfl, hR5, rfl, rfl⟩ := hq
            refine tz_istore4 (n := 87) (g_at ck_X11_laysTour 50 rfl) rfl (by decide) g_hpI ?_
            refine tz_iinc5 (n := 90) (g_at ck_X11_laysTour 51 rfl) rfl (by decide) g_hpI ?_
            refine tz_goto (tgt := 54) (g_at ck_X11_laysTour 52 rfl) rfl ?_
            have e9 : mvN Λ s (whl Λ - (i : Int)) (j : Int) (k + 1) = lesF (mvN Λ s (whl Λ - (i : Int)) (j : Int) k) (tr9 (wyW Λ s 1 ((j : Int) * 9 + (k : Int))) + tr9 (tvT Λ s (bOr (whl Λ - (i : Int)) (bShl 1 (k : Int)) * 9 + (k : Int)))) := if_pos h69
            rw [e9] at ihk
            exact ihk
      · skip
        refine tz_aload0 (n := 35) (g_at ck_X11_laysTour 22 rfl) rfl (g_ne kd_84) ?_
        refine tz_getAv (n := 38) (a := 111) fk_X11_99 kd_84 (ly_84_53 hL) (g_at ck_X11_laysTour 23 rfl) rfl ?_
        refine tz_bipush (n := 40) (g_at ck_X11_laysTour 24 rfl) rfl rfl ?_
        refine tz_iload3 (n := 41) (g_at ck_X11_laysTour 25 rfl) rfl ?_
        refine tz_imul (n := 42) (g_at ck_X11_laysTour 26 rfl) rfl ?_
        refine tz_iald (n := 43) kd_111 (by omega) (g_at ck_X11_laysTour 27 rfl) rfl ?_
        have rc9 := (hr4 (j : Int) 0 (by omega) (by omega) (by omega) (by omega)).2
        rw [show 10 * (j : Int) + 0 = 10 * (j : Int) by omega] at rc9
        rw [rc9]
        refine tz_goto (tgt := 49) (g_at ck_X11_laysTour 28 rfl) rfl ?_
        refine tz_istore4 (n := 51) (g_at ck_X11_laysTour 30 rfl) rfl (by decide) g_hpI ?_
        refine tz_iconst (n := 52) (g_at ck_X11_laysTour 31 rfl) rfl ?_
        refine tz_istore5 (n := 54) (g_at ck_X11_laysTour 32 rfl) rfl (by decide) g_hpI ?_
        rw [show tr9 (wyW Λ s 1 ((j : Int) * 9 + 0)) = mvN Λ s (whl Λ - (i : Int)) (j : Int) 0 from (if_pos h31).symm]
        suffices hlp : ∀ k : Nat, k ≤ (Λ 0 0).toNat → gT l γ μX11_laysTour 2 0 0 _ _ KK ρ m4 54 [some (vR 84), some (vI (whl Λ)), some (vI (whl Λ - (i : Int))), some (vI (j : Int)), some (vI (mvN Λ s (whl Λ - (i : Int)) (j : Int) k)), some (vI (k : Int))] [] by
          have h0 := hlp 0 (Nat.zero_le _)
          exact h0
        refine g_for (fun k : Nat => gT l γ μX11_laysTour 2 0 0 _ _ KK ρ m4 54 [some (vR 84), some (vI (whl Λ)), some (vI (whl Λ - (i : Int))), some (vI (j : Int)), some (vI (mvN Λ s (whl Λ - (i : Int)) (j : Int) k)), some (vI (k : Int))] []) (Λ 0 0).toNat ?_ (fun k hk ihk => ?_)
        · skip
          have hmf := mv_fin (s := s) hW (t := (whl Λ - (i : Int))) (a := (j : Int)) (by omega) (by omega)
          have hmr := mv_rg (s := s) hW (t := (whl Λ - (i : Int))) (a := (j : Int)) (by omega) (by omega) (Λ 0 0).toNat (by omega)
          refine tz_iload5 (n := 56) (g_at ck_X11_laysTour 33 rfl) rfl ?_
          refine tz_aload0 (n := 57) (g_at ck_X11_laysTour 34 rfl) rfl (g_ne kd_84) ?_
          refine tz_getIw (n := 60) (kz := 1) fk_X11_302 kd_84 (g_at ck_X11_laysTour 35 rfl) rfl rfl ?_
          rw [hM4.1]
          refine tz_icmp_ge (n := 63) (tgt := 93) (g_at ck_X11_laysTour 36 rfl) rfl rfl (by omega) (fun h60 => ?_) (fun h60 => absurd h60 (by omega))
          refine tz_aload0 (n := 94) (g_at ck_X11_laysTour 53 rfl) rfl (g_ne kd_84) ?_
          refine tz_getAv (n := 97) (a := 115) fk_X11_111 kd_84 (ly_84_57 hL) (g_at ck_X11_laysTour 54 rfl) rfl ?_
          refine tz_bipush (n := 99) (g_at ck_X11_laysTour 55 rfl) rfl rfl ?_
          refine tz_iload2 (n := 100) (g_at ck_X11_laysTour 56 rfl) rfl ?_
          refine tz_imul (n := 101) (g_at ck_X11_laysTour 57 rfl) rfl ?_
          refine tz_iload3 (n := 102) (g_at ck_X11_laysTour 58 rfl) rfl ?_
          refine tz_iadd (n := 103) (g_at ck_X11_laysTour 59 rfl) rfl ?_
          refine tz_iload4 (n := 105) (g_at ck_X11_laysTour 60 rfl) rfl ?_
          refine tz_sipush (n := 108) (g_at ck_X11_laysTour 61 rfl) rfl rfl ?_
          refine tz_csI2 (n := 111) (μ' := μX11_lesser) (cb' := 0) (sb' := 0) ml_X11_362 mo_X11_lesser ms_X11_lesser np_X11_lesser (g_at ck_X11_laysTour 62 rfl) (mp_lesser hR4 (by omega) (by omega)) rfl rfl ⟨by decide, by decide⟩ (Nat.le_of_ble_eq_true rfl) (by decide) (by decide) (fun x108 ρ9 m108 hq => ?_)
          obtain ⟨rfl, hR6, rfl, rfl⟩ := hq
          rw [lesF_9 (by omega), hmf]
          refine tz_iastr (n := 112) kd_115 (by omega) (g_at ck_X11_laysTour 63 rfl) rfl hR6 ⟨(by omega), (by omega)⟩ (fun hR7 => ?_)
          refine tz_iinc3 (n := 115) (g_at ck_X11_laysTour 64 rfl) rfl (by decide) g_hpI ?_
          refine tz_goto (tgt := 21) (g_at ck_X11_laysTour 65 rfl) rfl ?_
          refine tz_drop4 ?_
          refine tz_drop5 ?_
          exact ihj _ ⟨hR7, hF4.wrc, hT4.w hW (by omega), hS4.w rfl⟩
        · skip
          have hmr := mv_rg (s := s) hW (t := (whl Λ - (i : Int))) (a := (j : Int)) (by omega) (by omega) k (by omega)
          refine tz_iload5 (n := 56) (g_at ck_X11_laysTour 33 rfl) rfl ?_
          refine tz_aload0 (n := 57) (g_at ck_X11_laysTour 34 rfl) rfl (g_ne kd_84) ?_
          refine tz_getIw (n := 60) (kz := 1) fk_X11_302 kd_84 (g_at ck_X11_laysTour 35 rfl) rfl rfl ?_
          rw [hM4.1]
          refine tz_icmp_ge (n := 63) (tgt := 93) (g_at ck_X11_laysTour 36 rfl) rfl rfl (by omega) (fun h60 => absurd h60 (by omega)) (fun h60 => ?_)
          refine tz_iload2 (n := 64) (g_at ck_X11_laysTour 37 rfl) rfl ?_
          refine tz_iload5 (n := 66) (g_at ck_X11_laysTour 38 rfl) rfl ?_
          refine tz_ishr (n := 67) (g_at ck_X11_laysTour 39 rfl) rfl ?_
          refine tz_iconst (n := 68) (g_at ck_X11_laysTour 40 rfl) rfl ?_
          refine tz_iand (n := 69) (g_at ck_X11_laysTour 41 rfl) rfl ?_
          refine tz_if_ne (n := 72) (tgt := 87) (g_at ck_X11_laysTour 42 rfl) rfl rfl (bAnd_rg _ _) (fun h69 => ?_) (fun h69 => ?_)
          · skip
            refine tz_iinc5 (n := 90) (g_at ck_X11_laysTour 51 rfl) rfl (by decide) g_hpI ?_
            refine tz_goto (tgt := 54) (g_at ck_X11_laysTour 52 rfl) rfl ?_
            have e9 : mvN Λ s (whl Λ - (i : Int)) (j : Int) (k + 1) = (mvN Λ s (whl Λ - (i : Int)) (j : Int) k) := if_neg h69
            rw [e9] at ihk
            exact ihk
          · skip
            refine tz_iload4 (n := 74) (g_at ck_X11_laysTour 43 rfl) rfl ?_
            refine tz_aload0 (n := 75) (g_at ck_X11_laysTour 44 rfl) rfl (g_ne kd_84) ?_
            refine tz_iload2 (n := 76) (g_at ck_X11_laysTour 45 rfl) rfl ?_
            refine tz_iload3 (n := 77) (g_at ck_X11_laysTour 46 rfl) rfl ?_
            refine tz_iload5 (n := 79) (g_at ck_X11_laysTour 47 rfl) rfl ?_
            refine tz_cvI3 (n := 82) (μ' := μX11_onBy) (cb' := 0) (sb' := 0) ml_X11_459 mo_X11_onBy mv_X11_onBy np_X11_onBy kd_84 (g_at ck_X11_laysTour 48 rfl) (mp_onBy hL hR4 hW hr4 hT4 (by omega) (by omega) (by omega) h69) rfl rfl rfl ⟨by decide, by decide⟩ (Nat.le_of_ble_eq_true rfl) (by decide) (by decide) (fun x79 ρ9 m79 hq => ?_)
            obtain ⟨rfl, hR8, rfl, rfl⟩ := hq
            have oI := orI hW (t := (whl Λ - (i : Int))) (z := (k : Int)) (by omega) (by omega) h69
            have g8 := tr_rg ((tvT_b (s := s) hW (t := bOr (whl Λ - (i : Int)) (bShl 1 (k : Int))) (a := (k : Int)) (by omega) (by omega)).up (by decide)) (Int.le_refl _)
            have g7 := tr_rg (hw1 ((j : Int) * 9 + (k : Int))).2 (Int.le_refl _)
            refine tz_csI2 (n := 85) (μ' := μX11_lesser) (cb' := 0) (sb' := 0) ml_X11_362 mo_X11_lesser ms_X11_lesser np_X11_lesser (g_at ck_X11_laysTour 49 rfl) (mp_lesser hR8 (by omega) (by omega)) rfl rfl ⟨by decide, by decide⟩ (Nat.le_of_ble_eq_true rfl) (by decide) (by decide) (fun x82 ρ9 m82 hq => ?_)
            obtain ⟨rfl, hR9, rfl, rfl⟩ := hq
            refine tz_istore4 (n := 87) (g_at ck_X11_laysTour 50 rfl) rfl (by decide) g_hpI ?_
            refine tz_iinc5 (n := 90) (g_at ck_X11_laysTour 51 rfl) rfl (by decide) g_hpI ?_
            refine tz_goto (tgt := 54) (g_at ck_X11_laysTour 52 rfl) rfl ?_
            have e9 : mvN Λ s (whl Λ - (i : Int)) (j : Int) (k + 1) = lesF (mvN Λ s (whl Λ - (i : Int)) (j : Int) k) (tr9 (wyW Λ s 1 ((j : Int) * 9 + (k : Int))) + tr9 (tvT Λ s (bOr (whl Λ - (i : Int)) (bShl 1 (k : Int)) * 9 + (k : Int)))) := if_pos h69
            rw [e9] at ihk
            exact ihk
