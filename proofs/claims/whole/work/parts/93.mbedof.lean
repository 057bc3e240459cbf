/-! The reference: whose bed; how many lie. -/
theorem tb_2N {Λ : Mm} {s : Int → Int} {T : Int → Int} (hW : WL Λ) (hO : LodgeOK Λ s T) {n : Nat} (hn : (n : Int) ≤ Λ 0 1) : 0 ≤ (tbN Λ s T n).1 ∧ (tbN Λ s T n).1 < ((2 ^ (Λ 0 0).toNat : Nat) : Int) := by
  have h0 := hW.1
  have r := (tbN_rg hW hO n hn).1.1
  have hN : abN Λ (Λ 0 0).toNat < 2 ^ (Λ 0 0).toNat := bmN_lt _ _
  rw [abI_N hW _ (by omega)] at r
  omega
def bdL (Λ : Mm) (s : Int → Int) : Nat → Int
  | 0 => -1
  | k + 1 => itN Λ s (k : Int) (tbN Λ s (tM Λ s) k).1 (Λ 0 0).toNat
theorem bdL_e {Λ : Mm} {s : Int → Int} (hW : WL Λ) {p : Int} (hp : 0 ≤ p ∧ p < Λ 0 1) : bdP Λ s (tM Λ s) p = bdL Λ s (p + 1).toNat := by
  have r := tb_2N (s := s) hW (tM_ok hW) (n := p.toNat) (by omega)
  have h0 := hW.1
  have p9 : 2 ^ (Λ 0 0).toNat ≤ 2 ^ 9 := Nat.pow_le_pow_right (by decide) (by omega)
  rw [show (p + 1).toNat = p.toNat + 1 by omega]
  show _ = itN Λ s ((p.toNat : Nat) : Int) (tbN Λ s (tM Λ s) p.toNat).1 (Λ 0 0).toNat
  rw [it_bb hW (by omega) (by omega), show ((p.toNat : Nat) : Int) = p by omega]
  rfl
theorem mp_bedOf {l : Launch} {γ : Gh} {ρ m : Mm} {p : Int} {s : Int → Int} {Λ : Mm} {hl tl : List Int} (hL : LY ρ) (hR : MR m) (hW : WL Λ) (hM : MLand m Λ hl tl) (hs : MRow m s) (hσ : WS Λ 0 (sig0 s)) (hz : m 84 51 = 0) (hp : 0 ≤ p ∧ p < Λ 0 1) : gE l γ μX11_bedOf 3 0 0 (rI KK fun x ρ9 m9 => ρ = ρ9 ∧ MR m9 ∧ Fr [110, 111, 113] m m9 ∧ bdP Λ s (tM Λ s) p = x) xN KK ρ m [vR 84, vI p] := by
  refine gE.ofw cl_X11.2 ?_ rfl rfl (Nat.le_of_ble_eq_true rfl)
  show gT l γ μX11_bedOf 3 0 0 _ _ KK ρ m 0 [some (vR 84), some (vI p), none, none, none, none] []
  have hn1 := hW.1
  have hn8 := hW.2.1
  have hsh := shN hn1
  have hok := tM_ok (s := s) hW
  refine tz_aload0 (n := 1) (g_at ck_X11_bedOf 0 rfl) rfl (g_ne kd_84) ?_
  refine tz_cvV0 (n := 4) (μ' := μX11_laysBeds) (cb' := 0) (sb' := 0) ml_X11_444 mo_X11_laysBeds mv_X11_laysBeds np_X11_laysBeds kd_84 (g_at ck_X11_bedOf 1 rfl) (mp_laysBeds hL hR hW hM hs hσ hz) rfl rfl rfl ⟨by decide, by decide⟩ (Nat.le_of_ble_eq_true rfl) (by decide) (by decide) (fun ρ9 m1 hq => ?_)
  obtain ⟨rfl, hR1, hF1, hr1, hw1, hT1⟩ := hq
  have hM9 := hM.fr hF1 (by decide)
  have hs9 : MRow m1 s := (mK.l hF1 (by decide)).row hs
  refine tz_iconst (n := 5) (g_at ck_X11_bedOf 2 rfl) rfl ?_
  refine tz_istore2 (n := 6) (g_at ck_X11_bedOf 3 rfl) rfl (by decide) g_hpI ?_
  refine tz_iconst (n := 7) (g_at ck_X11_bedOf 4 rfl) rfl ?_
  refine tz_istore3 (n := 8) (g_at ck_X11_bedOf 5 rfl) rfl (by decide) g_hpI ?_
  refine tz_iconst (n := 9) (g_at ck_X11_bedOf 6 rfl) rfl ?_
  refine tz_istore4 (n := 11) (g_at ck_X11_bedOf 7 rfl) rfl (by decide) g_hpI ?_
  refine g_for (fun i : Nat => gT l γ μX11_bedOf 3 0 0 _ _ KK ρ m1 11 [some (vR 84), some (vI p), some (vI (tbN Λ s (tM Λ s) i).1), some (vI (bdL Λ s i)), some (vI (i : Int)), none] []) (p + 1).toNat ?_ (fun i hi ihi => ?_) 0 (Nat.zero_le _)
  · skip
    have hbe := bdL_e (s := s) hW hp
    refine tz_iload4 (n := 13) (g_at ck_X11_bedOf 8 rfl) rfl ?_
    refine tz_iload1 (n := 14) (g_at ck_X11_bedOf 9 rfl) rfl ?_
    refine tz_icmp_gt (n := 17) (tgt := 95) (g_at ck_X11_bedOf 10 rfl) rfl rfl (by omega) (fun h14 => ?_) (fun h14 => absurd h14 (by omega))
    refine tz_iload3 (n := 96) (g_at ck_X11_bedOf 55 rfl) rfl ?_
    exact tz_iret (g_at ck_X11_bedOf 56 rfl) rfl (rI_mk ⟨rfl, hR1, hF1, hbe⟩)
  · skip
    have h2N := tb_2N (s := s) hW hok (n := i) (by omega)
    refine tz_iload4 (n := 13) (g_at ck_X11_bedOf 8 rfl) rfl ?_
    refine tz_iload1 (n := 14) (g_at ck_X11_bedOf 9 rfl) rfl ?_
    refine tz_icmp_gt (n := 17) (tgt := 95) (g_at ck_X11_bedOf 10 rfl) rfl rfl (by omega) (fun h14 => absurd h14 (by omega)) (fun h14 => ?_)
    refine tz_iconst (n := 18) (g_at ck_X11_bedOf 11 rfl) rfl ?_
    refine tz_istore3 (n := 19) (g_at ck_X11_bedOf 12 rfl) rfl (by decide) g_hpI ?_
    refine tz_aload0 (n := 20) (g_at ck_X11_bedOf 13 rfl) rfl (g_ne kd_84) ?_
    refine tz_getIw (n := 23) (kz := 1) fk_X11_302 kd_84 (g_at ck_X11_bedOf 14 rfl) rfl rfl ?_
    rw [hM9.1]
    refine tz_iconst (n := 24) (g_at ck_X11_bedOf 15 rfl) rfl ?_
    refine tz_isub (n := 25) (g_at ck_X11_bedOf 16 rfl) rfl ?_
    refine tz_istore5 (n := 27) (g_at ck_X11_bedOf 17 rfl) rfl (by decide) g_hpI ?_
    suffices hlp : ∀ j : Nat, j ≤ (Λ 0 0).toNat → gT l γ μX11_bedOf 3 0 0 _ _ KK ρ m1 27 [some (vR 84), some (vI p), some (vI (tbN Λ s (tM Λ s) i).1), some (vI (itN Λ s (i : Int) (tbN Λ s (tM Λ s) i).1 j)), some (vI (i : Int)), some (vI (Λ 0 0 - 1 - (j : Int)))] [] by
      have h0 := hlp 0 (Nat.zero_le _)
      rw [show Λ 0 0 - 1 - ((0 : Nat) : Int) = Λ 0 0 - 1 by omega] at h0
      exact h0
    refine g_for (fun j : Nat => gT l γ μX11_bedOf 3 0 0 _ _ KK ρ m1 27 [some (vR 84), some (vI p), some (vI (tbN Λ s (tM Λ s) i).1), some (vI (itN Λ s (i : Int) (tbN Λ s (tM Λ s) i).1 j)), some (vI (i : Int)), some (vI (Λ 0 0 - 1 - (j : Int)))] []) (Λ 0 0).toNat ?_ (fun j hj ihj => ?_)
    · skip
      have hit := it_bb (s := s) (p := (i : Int)) (t := (tbN Λ s (tM Λ s) i).1) hW (by omega) (by omega)
      have hir : -1 ≤ itN Λ s (i : Int) (tbN Λ s (tM Λ s) i).1 (Λ 0 0).toNat ∧ itN Λ s (i : Int) (tbN Λ s (tM Λ s) i).1 (Λ 0 0).toNat < 9 := by rcases it_1 (Λ := Λ) (s := s) (p := (i : Int)) (t := (tbN Λ s (tM Λ s) i).1) (Λ 0 0).toNat with h9 | h9 <;> omega
      refine tz_iload5 (n := 29) (g_at ck_X11_bedOf 18 rfl) rfl ?_
      refine tz_if_lt (n := 32) (tgt := 78) (g_at ck_X11_bedOf 19 rfl) rfl rfl (by omega) (fun h29 => ?_) (fun h29 => absurd h29 (by omega))
      refine tz_iload3 (n := 79) (g_at ck_X11_bedOf 44 rfl) rfl ?_
      refine tz_iconst (n := 80) (g_at ck_X11_bedOf 45 rfl) rfl ?_
      refine tz_icmp_eq (n := 83) (tgt := 89) (g_at ck_X11_bedOf 46 rfl) rfl rfl (by omega) (fun h80 => ?_) (fun h80 => ?_)
      · skip
        refine tz_iinc4 (n := 92) (g_at ck_X11_bedOf 53 rfl) rfl (by decide) g_hpI ?_
        refine tz_goto (tgt := 11) (g_at ck_X11_bedOf 54 rfl) rfl ?_
        refine tz_drop5 ?_
        have e9 : (tbN Λ s (tM Λ s) (i + 1)).1 = (tbN Λ s (tM Λ s) i).1 := congrArg Prod.fst (if_pos (hit.symm.trans h80))
        rw [e9] at ihi
        exact ihi
      · skip
        refine tz_iload2 (n := 84) (g_at ck_X11_bedOf 47 rfl) rfl ?_
        refine tz_iconst (n := 85) (g_at ck_X11_bedOf 48 rfl) rfl ?_
        refine tz_iload3 (n := 86) (g_at ck_X11_bedOf 49 rfl) rfl ?_
        refine tz_ishl (n := 87) (g_at ck_X11_bedOf 50 rfl) rfl ?_
        refine tz_ior (n := 88) (g_at ck_X11_bedOf 51 rfl) rfl ?_
        refine tz_istore2 (n := 89) (g_at ck_X11_bedOf 52 rfl) rfl (by decide) g_hpI ?_
        refine tz_iinc4 (n := 92) (g_at ck_X11_bedOf 53 rfl) rfl (by decide) g_hpI ?_
        refine tz_goto (tgt := 11) (g_at ck_X11_bedOf 54 rfl) rfl ?_
        refine tz_drop5 ?_
        have e9 : (tbN Λ s (tM Λ s) (i + 1)).1 = bOr (tbN Λ s (tM Λ s) i).1 (bShl 1 (itN Λ s (i : Int) (tbN Λ s (tM Λ s) i).1 (Λ 0 0).toNat)) := (congrArg Prod.fst (if_neg (fun h9 => h80 (hit.trans h9)))).trans (by rw [hit]; rfl)
        rw [e9] at ihi
        exact ihi
    · skip
      have hbo := bor_lt (t := (tbN Λ s (tM Λ s) i).1.toNat) (z := (Λ 0 0 - 1 - (j : Int)).toNat) (n := (Λ 0 0).toNat) (by omega) (by omega) (by omega)
      rw [show (((tbN Λ s (tM Λ s) i).1.toNat : Nat) : Int) = (tbN Λ s (tM Λ s) i).1 by omega, show (((Λ 0 0 - 1 - (j : Int)).toNat : Nat) : Int) = (Λ 0 0 - 1 - (j : Int)) by omega] at hbo
      have il9 := lsF_rg (s := s) hW (Λ 0 1 - ((i : Int) + 1)).toNat (bOr (tbN Λ s (tM Λ s) i).1 (bShl 1 (Λ 0 0 - 1 - (j : Int))))
      have il8 := lsF_rg (s := s) hW (Λ 0 1 - (i : Int)).toNat (tbN Λ s (tM Λ s) i).1
      have wb9 := (hw1 (s (1 + (i : Int)) * 9 + (Λ 0 0 - 1 - (j : Int)))).2
      unfold Bd at wb9
      refine tz_iload5 (n := 29) (g_at ck_X11_bedOf 18 rfl) rfl ?_
      refine tz_if_lt (n := 32) (tgt := 78) (g_at ck_X11_bedOf 19 rfl) rfl rfl (by omega) (fun h29 => absurd h29 (by omega)) (fun h29 => ?_)
      refine tz_aload0 (n := 33) (g_at ck_X11_bedOf 20 rfl) rfl (g_ne kd_84) ?_
      refine tz_iload4 (n := 35) (g_at ck_X11_bedOf 21 rfl) rfl ?_
      refine tz_iload5 (n := 37) (g_at ck_X11_bedOf 22 rfl) rfl ?_
      refine tz_iload2 (n := 38) (g_at ck_X11_bedOf 23 rfl) rfl ?_
      refine tz_cvI3 (n := 41) (μ' := μX11_canLie) (cb' := 0) (sb' := 0) ml_X11_438 mo_X11_canLie mv_X11_canLie np_X11_canLie kd_84 (g_at ck_X11_bedOf 24 rfl) (mp_canLie hL hR1 hW hM9 hs9 hσ hr1 hw1 (by omega) (by omega)) rfl rfl rfl ⟨by decide, by decide⟩ (Nat.le_of_ble_eq_true rfl) (by decide) (by decide) (fun x38 ρ9 m38 hq => ?_)
      obtain ⟨rfl, hR2, rfl, rfl⟩ := hq
      have c01 := csP_01 (Λ := Λ) (s := s) (p := (i : Int)) (t := (tbN Λ s (tM Λ s) i).1) (b := (Λ 0 0 - 1 - (j : Int)))
      refine tz_if_eq (n := 44) (tgt := 72) (g_at ck_X11_bedOf 25 rfl) rfl rfl (by omega) (fun h41 => ?_) (fun h41 => ?_)
      · skip
        refine tz_iinc5 (n := 75) (g_at ck_X11_bedOf 42 rfl) rfl (by decide) g_hpI ?_
        refine tz_goto (tgt := 27) (g_at ck_X11_bedOf 43 rfl) rfl ?_
        have e9 : itN Λ s (i : Int) (tbN Λ s (tM Λ s) i).1 (j + 1) = (itN Λ s (i : Int) (tbN Λ s (tM Λ s) i).1 j) := if_pos h41
        rw [e9, show Λ 0 0 - 1 - ((j + 1 : Nat) : Int) = Λ 0 0 - 1 - (j : Int) + -1 by omega] at ihj
        exact ihj
      · skip
        refine tz_aload0 (n := 45) (g_at ck_X11_bedOf 26 rfl) rfl (g_ne kd_84) ?_
        refine tz_iload4 (n := 47) (g_at ck_X11_bedOf 27 rfl) rfl ?_
        refine tz_iload5 (n := 49) (g_at ck_X11_bedOf 28 rfl) rfl ?_
        refine tz_iload2 (n := 50) (g_at ck_X11_bedOf 29 rfl) rfl ?_
        refine tz_cvI3 (n := 53) (μ' := μX11_lies) (cb' := 0) (sb' := 0) ml_X11_441 mo_X11_lies mv_X11_lies np_X11_lies kd_84 (g_at ck_X11_bedOf 30 rfl) (mp_lies hL hR2 hW hM9 hs9 hσ hr1 hw1 (by omega) (by omega) (by omega) h41) rfl rfl rfl ⟨by decide, by decide⟩ (Nat.le_of_ble_eq_true rfl) (by decide) (by decide) (fun x50 ρ9 m50 hq => ?_)
        obtain ⟨rfl, hR3, rfl, rfl⟩ := hq
        rw [hT1 ((i : Int) + 1) (by omega) (by omega) _ hbo.1 hbo.2]
        refine tz_aload0 (n := 54) (g_at ck_X11_bedOf 31 rfl) rfl (g_ne kd_84) ?_
        refine tz_getAv (n := 57) (a := 113) fk_X11_105 kd_84 (ly_84_55 hL) (g_at ck_X11_bedOf 32 rfl) rfl ?_
        refine tz_sipush (n := 60) (g_at ck_X11_bedOf 33 rfl) rfl rfl ?_
        refine tz_iload4 (n := 62) (g_at ck_X11_bedOf 34 rfl) rfl ?_
        refine tz_imul (n := 63) (g_at ck_X11_bedOf 35 rfl) rfl ?_
        refine tz_iload2 (n := 64) (g_at ck_X11_bedOf 36 rfl) rfl ?_
        refine tz_iadd (n := 65) (g_at ck_X11_bedOf 37 rfl) rfl ?_
        refine tz_iald (n := 66) kd_113 (by omega) (g_at ck_X11_bedOf 38 rfl) rfl ?_
        rw [hT1 (i : Int) (by omega) (by omega) _ h2N.1 h2N.2]
        refine tz_icmp_ne (n := 69) (tgt := 72) (g_at ck_X11_bedOf 39 rfl) rfl rfl (by omega) (fun h66 => ?_) (fun h66 => ?_)
        · skip
          refine tz_iinc5 (n := 75) (g_at ck_X11_bedOf 42 rfl) rfl (by decide) g_hpI ?_
          refine tz_goto (tgt := 27) (g_at ck_X11_bedOf 43 rfl) rfl ?_
          have e9 : itN Λ s (i : Int) (tbN Λ s (tM Λ s) i).1 (j + 1) = (itN Λ s (i : Int) (tbN Λ s (tM Λ s) i).1 j) := (if_neg h41).trans (if_neg h66)
          rw [e9, show Λ 0 0 - 1 - ((j + 1 : Nat) : Int) = Λ 0 0 - 1 - (j : Int) + -1 by omega] at ihj
          exact ihj
        · skip
          refine tz_iload5 (n := 71) (g_at ck_X11_bedOf 40 rfl) rfl ?_
          refine tz_istore3 (n := 72) (g_at ck_X11_bedOf 41 rfl) rfl (by decide) g_hpI ?_
          refine tz_iinc5 (n := 75) (g_at ck_X11_bedOf 42 rfl) rfl (by decide) g_hpI ?_
          refine tz_goto (tgt := 27) (g_at ck_X11_bedOf 43 rfl) rfl ?_
          have e9 : itN Λ s (i : Int) (tbN Λ s (tM Λ s) i).1 (j + 1) = (Λ 0 0 - 1 - (j : Int)) := (if_neg h41).trans (if_pos h66)
          rw [e9, show Λ 0 0 - 1 - ((j + 1 : Nat) : Int) = Λ 0 0 - 1 - (j : Int) + -1 by omega] at ihj
          exact ihj
theorem mp_lodged {l : Launch} {γ : Gh} {ρ m : Mm} {w : Int} (hw : -2147483648 ≤ w ∧ w < 2147483648) {s : Int → Int} {Λ : Mm} {hl tl : List Int} (hL : LY ρ) (hR : MR m) (hW : WL Λ) (hM : MLand m Λ hl tl) (hs : MRow m s) (hσ : WS Λ 0 (sig0 s)) (hz : m 84 51 = 0) : gE l γ μX11_lodged 3 0 0 (rI KK fun x ρ9 m9 => ρ = ρ9 ∧ MR m9 ∧ mK m m9 ∧ m9 84 0 = cdW w 1 ∧ (cdW w 1 = 0 → ∃ T : Int → Int, LodgeOK Λ s T ∧ (if w = 0 then (tbN Λ s T (Λ 0 1).toNat).2.1 else (tbN Λ s T (Λ 0 1).toNat).2.2) = x)) xN KK ρ m [vR 84, vI w] := by
  refine gE.ofw cl_X11.2 ?_ rfl rfl (Nat.le_of_ble_eq_true rfl)
  show gT l γ μX11_lodged 3 0 0 _ _ KK ρ m 0 [some (vR 84), some (vI w)] []
  have hn1 := hW.1
  have hn8 := hW.2.1
  refine tz_aload0 (n := 1) (g_at ck_X11_lodged 0 rfl) rfl (g_ne kd_84) ?_
  refine tz_iconst (n := 2) (g_at ck_X11_lodged 1 rfl) rfl ?_
  refine tz_putIr (n := 5) (kz := 0) fk_X11_132 kd_84 (g_at ck_X11_lodged 2 rfl) rfl hR ⟨(by decide), (by decide)⟩ rfl (fun hR1 => ?_)
  obtain ⟨m0, e0⟩ : ∃ m0, m0 = wr m 84 0 0 := ⟨_, rfl⟩
  rw [← e0] at hR1 ⊢
  have hk0 : mK m m0 := by rw [e0]; exact mK.w0
  have hM0 := hk0.land hM
  have hs0 := hk0.row hs
  have hz0 : m0 84 51 = 0 := hk0.w51.trans hz
  have h00 : m0 84 0 = 0 := by rw [e0, wr_same]
  have hw0 := hw_0 hz0
  refine tz_aload0 (n := 6) (g_at ck_X11_lodged 3 rfl) rfl (g_ne kd_84) ?_
  refine tz_iload1 (n := 7) (g_at ck_X11_lodged 4 rfl) rfl ?_
  refine tz_iconst (n := 8) (g_at ck_X11_lodged 5 rfl) rfl ?_
  refine tz_cvI2 (n := 11) (μ' := μX11_isWhat) (cb' := 0) (sb' := 0) ml_X11_396 mo_X11_isWhat mv_X11_isWhat np_X11_isWhat kd_84 (g_at ck_X11_lodged 6 rfl) (mp_isWhat hw (by decide) hL hR1 h00) rfl rfl rfl ⟨by decide, by decide⟩ (Nat.le_of_ble_eq_true rfl) (by decide) (by decide) (fun x8 ρ9 m8 hq => ?_)
  obtain ⟨rfl, hR2, hq8⟩ := hq
  refine tz_if_ne (n := 14) (tgt := 16) (g_at ck_X11_lodged 7 rfl) rfl rfl (by rcases hq8.b01 with h9 | h9 <;> omega) (fun h11 => ?_) (fun h11 => ?_)
  · skip
    obtain ⟨hc0, rfl⟩ := hq8.ok h11
    have hi0 := cdW_i hc0
    refine tz_aload0 (n := 17) (g_at ck_X11_lodged 10 rfl) rfl (g_ne kd_84) ?_
    refine tz_cvV0 (n := 20) (μ' := μX11_laysBeds) (cb' := 0) (sb' := 0) ml_X11_444 mo_X11_laysBeds mv_X11_laysBeds np_X11_laysBeds kd_84 (g_at ck_X11_lodged 11 rfl) (mp_laysBeds hL hR2 hW hM0 hs0 hσ hz0) rfl rfl rfl ⟨by decide, by decide⟩ (Nat.le_of_ble_eq_true rfl) (by decide) (by decide) (fun ρ9 m17 hq => ?_)
    obtain ⟨rfl, hR3, hF17, hr17, hw17, hT17⟩ := hq
    have hM9 := hM0.fr hF17 (by decide)
    have p29 := Nat.pow_pos (a := 2) (n := (Λ 0 0).toNat) (by decide)
    have hl0 := hT17 0 (by omega) (by omega) 0 (by omega) (by omega)
    rw [show (512 : Int) * 0 + 0 = 0 by decide, show Λ 0 1 - 0 = Λ 0 1 by omega] at hl0
    have hfin := lodge_fin hW hσ
    refine tz_iload1 (n := 21) (g_at ck_X11_lodged 12 rfl) rfl ?_
    refine tz_if_ne (n := 24) (tgt := 42) (g_at ck_X11_lodged 13 rfl) rfl rfl hw (fun h21 => ?_) (fun h21 => ?_)
    · skip
      refine tz_aload0 (n := 43) (g_at ck_X11_lodged 24 rfl) rfl (g_ne kd_84) ?_
      refine tz_getAv (n := 46) (a := 113) fk_X11_105 kd_84 (ly_84_55 hL) (g_at ck_X11_lodged 25 rfl) rfl ?_
      refine tz_iconst (n := 47) (g_at ck_X11_lodged 26 rfl) rfl ?_
      refine tz_iald (n := 48) kd_113 (by omega) (g_at ck_X11_lodged 27 rfl) rfl ?_
      rw [hl0]
      refine tz_sipush (n := 51) (g_at ck_X11_lodged 28 rfl) rfl rfl ?_
      refine tz_irem (n := 52) (g_at ck_X11_lodged 29 rfl) rfl (by omega) ?_
      exact tz_iret (g_at ck_X11_lodged 30 rfl) rfl (rI_mk ⟨rfl, hR3, hk0.tr (mK.l hF17 (by decide)), by rw [hF17 84 (by decide), h00, hc0], fun _ => ⟨tM Λ s, tM_ok hW, (if_neg h21).trans hfin.2.symm⟩⟩)
    · skip
      refine tz_aload0 (n := 25) (g_at ck_X11_lodged 14 rfl) rfl (g_ne kd_84) ?_
      refine tz_getIw (n := 28) (kz := 2) fk_X11_305 kd_84 (g_at ck_X11_lodged 15 rfl) rfl rfl ?_
      rw [hM9.2.1]
      refine tz_aload0 (n := 29) (g_at ck_X11_lodged 16 rfl) rfl (g_ne kd_84) ?_
      refine tz_getAv (n := 32) (a := 113) fk_X11_105 kd_84 (ly_84_55 hL) (g_at ck_X11_lodged 17 rfl) rfl ?_
      refine tz_iconst (n := 33) (g_at ck_X11_lodged 18 rfl) rfl ?_
      refine tz_iald (n := 34) kd_113 (by omega) (g_at ck_X11_lodged 19 rfl) rfl ?_
      rw [hl0]
      refine tz_sipush (n := 37) (g_at ck_X11_lodged 20 rfl) rfl rfl ?_
      refine tz_idiv (n := 38) (g_at ck_X11_lodged 21 rfl) rfl (by omega) ?_
      refine tz_isub (n := 39) (g_at ck_X11_lodged 22 rfl) rfl ?_
      refine tz_goto (tgt := 52) (g_at ck_X11_lodged 23 rfl) rfl ?_
      exact tz_iret (g_at ck_X11_lodged 30 rfl) rfl (rI_mk ⟨rfl, hR3, hk0.tr (mK.l hF17 (by decide)), by rw [hF17 84 (by decide), h00, hc0], fun _ => ⟨tM Λ s, tM_ok hW, (if_pos h21).trans hfin.1.symm⟩⟩)
  · skip
    refine tz_iconst (n := 15) (g_at ck_X11_lodged 8 rfl) rfl ?_
    exact tz_iret (g_at ck_X11_lodged 9 rfl) rfl (rI_mk ⟨rfl, hR2, by rw [(hq8.no h11).2]; exact hk0.tr mK.w0, by rw [(hq8.no h11).2, wr_same], fun h9 => absurd h9 (by rw [show (0:Int) = 0 from rfl]; exact (hq8.no h11).1)⟩)
