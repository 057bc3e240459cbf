/-! The reference: tour. -/
theorem tv_or {x : Int} (h : Bd 720 x) : (tr9 x < 9999 ↔ x < 10000) ∧ (tr9 x < 9999 → orN x = tr9 x) ∧ (¬ tr9 x < 9999 → orN x = -1) := by
  unfold Bd at h
  unfold tr9 orN
  repeat' split
  all_goals omega
theorem mp_tour {l : Launch} {γ : Gh} {ρ m : Mm} {y : Int} (hy : -2147483648 ≤ y ∧ y < 2147483648) {s : Int → Int} {Λ : Mm} {hl tl : List Int} (hL : LY ρ) (hR : MR m) (hW : WL Λ) (hM : MLand m Λ hl tl) (hs : MRow m s) (hσ : WS Λ 0 (sig0 s)) (hz : m 84 51 = 0) : gE l γ μX11_tour 3 0 0 (rI KK fun x ρ9 m9 => ρ = ρ9 ∧ MR m9 ∧ mK m m9 ∧ m9 84 0 = cdI Λ y ∧ (cdI Λ y = 0 → (Λ 0 0 = 0 → x = -1) ∧ (Λ 0 0 ≠ 0 → ∃ T : Int → Int, TourOK Λ s T 0 ∧ (if y = 0 ∨ 10000 ≤ T 9 then orN (T 9) else (tsN Λ s T y.toNat).2) = x))) xN KK ρ m [vR 84, vI y] := by
  refine gE.ofw cl_X11.2 ?_ rfl rfl (Nat.le_of_ble_eq_true rfl)
  show gT l γ μX11_tour 3 0 0 _ _ KK ρ m 0 [some (vR 84), some (vI y), none, none, none, none, none, none] []
  have hn1 := hW.1
  have hn8 := hW.2.1
  have hwh := whl_rg hW
  refine tz_aload0 (n := 1) (g_at ck_X11_tour 0 rfl) rfl (g_ne kd_84) ?_
  refine tz_iconst (n := 2) (g_at ck_X11_tour 1 rfl) rfl ?_
  refine tz_putIr (n := 5) (kz := 0) fk_X11_132 kd_84 (g_at ck_X11_tour 2 rfl) rfl hR ⟨(by decide), (by decide)⟩ rfl (fun hR1 => ?_)
  obtain ⟨m0, e0⟩ : ∃ m0, m0 = wr m 84 0 0 := ⟨_, rfl⟩
  rw [← e0] at hR1 ⊢
  have hk0 : mK m m0 := by rw [e0]; exact mK.w0
  have hM0 := hk0.land hM
  have hs0 := hk0.row hs
  have hz0 : m0 84 51 = 0 := hk0.w51.trans hz
  have h00 : m0 84 0 = 0 := by rw [e0, wr_same]
  have hw0 := hw_0 hz0
  refine tz_aload0 (n := 6) (g_at ck_X11_tour 3 rfl) rfl (g_ne kd_84) ?_
  refine tz_iload1 (n := 7) (g_at ck_X11_tour 4 rfl) rfl ?_
  refine tz_if_eq (n := 10) (tgt := 22) (g_at ck_X11_tour 5 rfl) rfl rfl hy (fun h7 => ?_) (fun h7 => ?_)
  · skip
    refine tz_iconst (n := 23) (g_at ck_X11_tour 12 rfl) rfl ?_
    refine tz_goto (tgt := 27) (g_at ck_X11_tour 13 rfl) rfl ?_
    refine tz_iconst (n := 28) (g_at ck_X11_tour 15 rfl) rfl ?_
    refine tz_cvI2 (n := 31) (μ' := μX11_right) (cb' := 0) (sb' := 0) ml_X11_295 mo_X11_right mv_X11_right np_X11_right kd_84 (g_at ck_X11_tour 16 rfl) (mp_right hR1 h00 (by decide) (by decide)) rfl rfl rfl ⟨by decide, by decide⟩ (Nat.le_of_ble_eq_true rfl) (by decide) (by decide) (fun x28 ρ9 m28 hq => ?_)
    obtain ⟨rfl, hR2, rfl, rfl⟩ := hq
    rw [show (if (1 : Int) = 0 then wr m0 84 0 1 else m0) = m0 from if_neg (by decide)] at hR2 ⊢
    refine tz_if_eq (n := 34) (tgt := 41) (g_at ck_X11_tour 17 rfl) rfl rfl (by decide) (fun h31 => absurd h31 (by omega)) (fun h31 => ?_)
    refine tz_aload0 (n := 35) (g_at ck_X11_tour 18 rfl) rfl (g_ne kd_84) ?_
    refine tz_getIw (n := 38) (kz := 1) fk_X11_302 kd_84 (g_at ck_X11_tour 19 rfl) rfl rfl ?_
    rw [hM0.1]
    refine tz_if_ne (n := 41) (tgt := 54) (g_at ck_X11_tour 20 rfl) rfl rfl (by omega) (fun h38 => ?_) (fun h38 => ?_)
    · skip
      refine tz_aload0 (n := 55) (g_at ck_X11_tour 28 rfl) rfl (g_ne kd_84) ?_
      refine tz_cvV0 (n := 58) (μ' := μX11_laysTour) (cb' := 0) (sb' := 0) ml_X11_462 mo_X11_laysTour mv_X11_laysTour np_X11_laysTour kd_84 (g_at ck_X11_tour 29 rfl) (mp_laysTour hL hR2 hW hM0 hs0 hσ hz0 (by omega)) rfl rfl rfl ⟨by decide, by decide⟩ (Nat.le_of_ble_eq_true rfl) (by decide) (by decide) (fun ρ9 m55 hq => ?_)
      obtain ⟨rfl, hR3, hF55, hr55, hw55, hT55⟩ := hq
      have hM9 := hM0.fr hF55 (by decide)
      have w1 : 1 ≤ whl Λ := by have p1 : 2 ^ 1 ≤ 2 ^ (Λ 0 0).toNat := Nat.pow_le_pow_right (by decide) (by omega); unfold whl; omega
      have ht9 := hT55 1 (by decide) w1 0 (by omega) (by omega)
      rw [show (9 : Int) * 1 + 0 = 9 by decide, show (1 : Int) * 9 + 0 = 9 by decide] at ht9
      have hb9 := tvT_b (s := s) hW (t := 1) (a := 0) (by omega) (by omega)
      rw [show (1 : Int) * 9 + 0 = 9 by decide] at hb9
      have hv9 := tv_or hb9
      have hg9 := tr_rg (hb9.up (by decide)) (Int.le_refl _)
      unfold Bd at hb9
      refine tz_aload0 (n := 59) (g_at ck_X11_tour 30 rfl) rfl (g_ne kd_84) ?_
      refine tz_getAv (n := 62) (a := 115) fk_X11_111 kd_84 (ly_84_57 hL) (g_at ck_X11_tour 31 rfl) rfl ?_
      refine tz_bipush (n := 64) (g_at ck_X11_tour 32 rfl) rfl rfl ?_
      refine tz_iald (n := 65) kd_115 (by omega) (g_at ck_X11_tour 33 rfl) rfl ?_
      rw [ht9]
      refine tz_istore2 (n := 66) (g_at ck_X11_tour 34 rfl) rfl (by decide) g_hpI ?_
      refine tz_iload2 (n := 67) (g_at ck_X11_tour 35 rfl) rfl ?_
      refine tz_sipush (n := 70) (g_at ck_X11_tour 36 rfl) rfl rfl ?_
      refine tz_icmp_lt (n := 73) (tgt := 75) (g_at ck_X11_tour 37 rfl) rfl rfl (by omega) (fun h70 => ?_) (fun h70 => ?_)
      · skip
        refine tz_iload1 (n := 76) (g_at ck_X11_tour 40 rfl) rfl ?_
        refine tz_if_ne (n := 79) (tgt := 81) (g_at ck_X11_tour 41 rfl) rfl rfl hy (fun h76 => ?_) (fun h76 => ?_)
        · skip
          refine tz_iconst (n := 82) (g_at ck_X11_tour 44 rfl) rfl ?_
          refine tz_istore3 (n := 83) (g_at ck_X11_tour 45 rfl) rfl (by decide) g_hpI ?_
          refine tz_iconst (n := 84) (g_at ck_X11_tour 46 rfl) rfl ?_
          refine tz_istore4 (n := 86) (g_at ck_X11_tour 47 rfl) rfl (by decide) g_hpI ?_
          refine tz_iconst (n := 87) (g_at ck_X11_tour 48 rfl) rfl ?_
          refine tz_istore5 (n := 89) (g_at ck_X11_tour 49 rfl) rfl (by decide) g_hpI ?_
          have hf9 := hv9.1.mp h70
          have y1 : 0 < y ∧ y < Λ 0 0 := by omega
          refine g_for (fun i : Nat => gT l γ μX11_tour 3 0 0 _ _ KK ρ m55 89 [some (vR 84), some (vI y), some (vI (tr9 (tvT Λ s 9))), some (vI (tsN Λ s (tvT Λ s) i).1), some (vI (tsN Λ s (tvT Λ s) i).2), some (vI (i : Int)), none, none] []) y.toNat ?_ (fun i hi ihi => ?_) 0 (Nat.zero_le _)
          · skip
            refine tz_iload5 (n := 91) (g_at ck_X11_tour 50 rfl) rfl ?_
            refine tz_iload1 (n := 92) (g_at ck_X11_tour 51 rfl) rfl ?_
            refine tz_icmp_ge (n := 95) (tgt := 171) (g_at ck_X11_tour 52 rfl) rfl rfl (by omega) (fun h92 => ?_) (fun h92 => absurd h92 (by omega))
            refine tz_iload4 (n := 173) (g_at ck_X11_tour 96 rfl) rfl ?_
            exact tz_iret (g_at ck_X11_tour 97 rfl) rfl (rI_mk ⟨rfl, hR3, hk0.tr (mK.l hF55 (by decide)), by rw [hF55 84 (by decide), h00, show cdI Λ y = 0 from if_neg (by omega)], fun _ => ⟨fun h9 => absurd h9 h38, fun _ => ⟨tvT Λ s, tvT_ok hW, if_neg (by omega)⟩⟩⟩)
          · skip
            have hgo := ts_go (s := s) hW (by omega) hf9 i (by omega)
            have hts := ts_s (s := s) hW (by omega) hf9 (k := i) (by omega)
            have ht1 := (tsN_rg hW (tvT_ok (s := s) hW) (by omega) i).1.1
            refine tz_iload5 (n := 91) (g_at ck_X11_tour 50 rfl) rfl ?_
            refine tz_iload1 (n := 92) (g_at ck_X11_tour 51 rfl) rfl ?_
            refine tz_icmp_ge (n := 95) (tgt := 171) (g_at ck_X11_tour 52 rfl) rfl rfl (by omega) (fun h92 => absurd h92 (by omega)) (fun h92 => ?_)
            refine tz_iconst (n := 96) (g_at ck_X11_tour 53 rfl) rfl ?_
            refine tz_istore6 (n := 98) (g_at ck_X11_tour 54 rfl) rfl (by decide) g_hpI ?_
            refine tz_aload0 (n := 99) (g_at ck_X11_tour 55 rfl) rfl (g_ne kd_84) ?_
            refine tz_getIw (n := 102) (kz := 1) fk_X11_302 kd_84 (g_at ck_X11_tour 56 rfl) rfl rfl ?_
            rw [hM9.1]
            refine tz_iconst (n := 103) (g_at ck_X11_tour 57 rfl) rfl ?_
            refine tz_isub (n := 104) (g_at ck_X11_tour 58 rfl) rfl ?_
            refine tz_istore7 (n := 106) (g_at ck_X11_tour 59 rfl) rfl (by decide) g_hpI ?_
            suffices hlp : ∀ j : Nat, j ≤ (Λ 0 0).toNat → gT l γ μX11_tour 3 0 0 _ _ KK ρ m55 106 [some (vR 84), some (vI y), some (vI (tr9 (tvT Λ s 9))), some (vI (tsN Λ s (tvT Λ s) i).1), some (vI (tsN Λ s (tvT Λ s) i).2), some (vI (i : Int)), some (vI (itT Λ s (tsN Λ s (tvT Λ s) i).1 (tsN Λ s (tvT Λ s) i).2 j)), some (vI (Λ 0 0 - 1 - (j : Int)))] [] by
              have h0 := hlp 0 (Nat.zero_le _)
              rw [show Λ 0 0 - 1 - ((0 : Nat) : Int) = Λ 0 0 - 1 by omega] at h0
              exact h0
            refine g_for (fun j : Nat => gT l γ μX11_tour 3 0 0 _ _ KK ρ m55 106 [some (vR 84), some (vI y), some (vI (tr9 (tvT Λ s 9))), some (vI (tsN Λ s (tvT Λ s) i).1), some (vI (tsN Λ s (tvT Λ s) i).2), some (vI (i : Int)), some (vI (itT Λ s (tsN Λ s (tvT Λ s) i).1 (tsN Λ s (tvT Λ s) i).2 j)), some (vI (Λ 0 0 - 1 - (j : Int)))] []) (Λ 0 0).toNat ?_ (fun j hj ihj => ?_)
            · skip
              refine tz_iload7 (n := 108) (g_at ck_X11_tour 60 rfl) rfl ?_
              refine tz_if_lt (n := 111) (tgt := 154) (g_at ck_X11_tour 61 rfl) rfl rfl (by omega) (fun h108 => ?_) (fun h108 => absurd h108 (by omega))
              refine tz_iload3 (n := 155) (g_at ck_X11_tour 86 rfl) rfl ?_
              refine tz_iconst (n := 156) (g_at ck_X11_tour 87 rfl) rfl ?_
              refine tz_iload6 (n := 158) (g_at ck_X11_tour 88 rfl) rfl ?_
              refine tz_ishl (n := 159) (g_at ck_X11_tour 89 rfl) rfl ?_
              refine tz_ior (n := 160) (g_at ck_X11_tour 90 rfl) rfl ?_
              refine tz_istore3 (n := 161) (g_at ck_X11_tour 91 rfl) rfl (by decide) g_hpI ?_
              refine tz_iload6 (n := 163) (g_at ck_X11_tour 92 rfl) rfl ?_
              refine tz_istore4 (n := 165) (g_at ck_X11_tour 93 rfl) rfl (by decide) g_hpI ?_
              refine tz_iinc5 (n := 168) (g_at ck_X11_tour 94 rfl) rfl (by decide) g_hpI ?_
              refine tz_goto (tgt := 89) (g_at ck_X11_tour 95 rfl) rfl ?_
              refine tz_drop6 ?_
              refine tz_drop7 ?_
              exact gT_eq ihi rfl (by rw [hts.1]; rfl)
            · skip
              refine tz_iload7 (n := 108) (g_at ck_X11_tour 60 rfl) rfl ?_
              refine tz_if_lt (n := 111) (tgt := 154) (g_at ck_X11_tour 61 rfl) rfl rfl (by omega) (fun h108 => absurd h108 (by omega)) (fun h108 => ?_)
              refine tz_iload3 (n := 112) (g_at ck_X11_tour 62 rfl) rfl ?_
              refine tz_iload7 (n := 114) (g_at ck_X11_tour 63 rfl) rfl ?_
              refine tz_ishr (n := 115) (g_at ck_X11_tour 64 rfl) rfl ?_
              refine tz_iconst (n := 116) (g_at ck_X11_tour 65 rfl) rfl ?_
              refine tz_iand (n := 117) (g_at ck_X11_tour 66 rfl) rfl ?_
              refine tz_if_ne (n := 120) (tgt := 148) (g_at ck_X11_tour 67 rfl) rfl rfl (bAnd_rg _ _) (fun h117 => ?_) (fun h117 => ?_)
              · skip
                refine tz_iinc7 (n := 151) (g_at ck_X11_tour 84 rfl) rfl (by decide) g_hpI ?_
                refine tz_goto (tgt := 106) (g_at ck_X11_tour 85 rfl) rfl ?_
                have e9 : itT Λ s (tsN Λ s (tvT Λ s) i).1 (tsN Λ s (tvT Λ s) i).2 (j + 1) = (itT Λ s (tsN Λ s (tvT Λ s) i).1 (tsN Λ s (tvT Λ s) i).2 j) := if_neg h117
                rw [e9, show Λ 0 0 - 1 - ((j + 1 : Nat) : Int) = Λ 0 0 - 1 - (j : Int) + -1 by omega] at ihj
                exact ihj
              · skip
                refine tz_aload0 (n := 121) (g_at ck_X11_tour 68 rfl) rfl (g_ne kd_84) ?_
                refine tz_iload3 (n := 122) (g_at ck_X11_tour 69 rfl) rfl ?_
                refine tz_iload4 (n := 124) (g_at ck_X11_tour 70 rfl) rfl ?_
                refine tz_iload7 (n := 126) (g_at ck_X11_tour 71 rfl) rfl ?_
                refine tz_cvI3 (n := 129) (μ' := μX11_onBy) (cb' := 0) (sb' := 0) ml_X11_459 mo_X11_onBy mv_X11_onBy np_X11_onBy kd_84 (g_at ck_X11_tour 72 rfl) (mp_onBy hL hR3 hW hr55 (fun t9 k1 k2 => hT55 t9 (by omega) k2) hgo.1 hgo.2.1 (by omega) h117) rfl rfl rfl ⟨by decide, by decide⟩ (Nat.le_of_ble_eq_true rfl) (by decide) (by decide) (fun x126 ρ9 m126 hq => ?_)
                obtain ⟨rfl, hR4, rfl, rfl⟩ := hq
                have oI := orI hW (t := (tsN Λ s (tvT Λ s) i).1) (z := (Λ 0 0 - 1 - (j : Int))) hgo.1 (by omega) h117
                have g8 := tr_rg ((tvT_b (s := s) hW (t := bOr (tsN Λ s (tvT Λ s) i).1 (bShl 1 (Λ 0 0 - 1 - (j : Int)))) (a := (Λ 0 0 - 1 - (j : Int))) (by omega) (by omega)).up (by decide)) (Int.le_refl _)
                have g7 := tr_rg (hw55 ((tsN Λ s (tvT Λ s) i).2 * 9 + (Λ 0 0 - 1 - (j : Int)))).2 (Int.le_refl _)
                have g6 := tr_rg ((tvT_b (s := s) hW (t := (tsN Λ s (tvT Λ s) i).1) (a := (tsN Λ s (tvT Λ s) i).2) hgo.1 hgo.2.1).up (by decide)) (Int.le_refl _)
                refine tz_aload0 (n := 130) (g_at ck_X11_tour 73 rfl) rfl (g_ne kd_84) ?_
                refine tz_getAv (n := 133) (a := 115) fk_X11_111 kd_84 (ly_84_57 hL) (g_at ck_X11_tour 74 rfl) rfl ?_
                refine tz_bipush (n := 135) (g_at ck_X11_tour 75 rfl) rfl rfl ?_
                refine tz_iload3 (n := 136) (g_at ck_X11_tour 76 rfl) rfl ?_
                refine tz_imul (n := 137) (g_at ck_X11_tour 77 rfl) rfl ?_
                refine tz_iload4 (n := 139) (g_at ck_X11_tour 78 rfl) rfl ?_
                refine tz_iadd (n := 140) (g_at ck_X11_tour 79 rfl) rfl ?_
                refine tz_iald (n := 141) kd_115 (by omega) (g_at ck_X11_tour 80 rfl) rfl ?_
                rw [hT55 (tsN Λ s (tvT Λ s) i).1 (by omega) hgo.1.2 (tsN Λ s (tvT Λ s) i).2 hgo.2.1.1 hgo.2.1.2]
                refine tz_icmp_ne (n := 144) (tgt := 148) (g_at ck_X11_tour 81 rfl) rfl rfl (by omega) (fun h141 => ?_) (fun h141 => ?_)
                · skip
                  refine tz_iinc7 (n := 151) (g_at ck_X11_tour 84 rfl) rfl (by decide) g_hpI ?_
                  refine tz_goto (tgt := 106) (g_at ck_X11_tour 85 rfl) rfl ?_
                  have e9 : itT Λ s (tsN Λ s (tvT Λ s) i).1 (tsN Λ s (tvT Λ s) i).2 (j + 1) = (itT Λ s (tsN Λ s (tvT Λ s) i).1 (tsN Λ s (tvT Λ s) i).2 j) := (if_pos h117).trans (if_neg h141)
                  rw [e9, show Λ 0 0 - 1 - ((j + 1 : Nat) : Int) = Λ 0 0 - 1 - (j : Int) + -1 by omega] at ihj
                  exact ihj
                · skip
                  refine tz_iload7 (n := 146) (g_at ck_X11_tour 82 rfl) rfl ?_
                  refine tz_istore6 (n := 148) (g_at ck_X11_tour 83 rfl) rfl (by decide) g_hpI ?_
                  refine tz_iinc7 (n := 151) (g_at ck_X11_tour 84 rfl) rfl (by decide) g_hpI ?_
                  refine tz_goto (tgt := 106) (g_at ck_X11_tour 85 rfl) rfl ?_
                  have e9 : itT Λ s (tsN Λ s (tvT Λ s) i).1 (tsN Λ s (tvT Λ s) i).2 (j + 1) = (Λ 0 0 - 1 - (j : Int)) := (if_pos h117).trans (if_pos h141)
                  rw [e9, show Λ 0 0 - 1 - ((j + 1 : Nat) : Int) = Λ 0 0 - 1 - (j : Int) + -1 by omega] at ihj
                  exact ihj
        · skip
          refine tz_iload2 (n := 80) (g_at ck_X11_tour 42 rfl) rfl ?_
          exact tz_iret (g_at ck_X11_tour 43 rfl) rfl (rI_mk ⟨rfl, hR3, hk0.tr (mK.l hF55 (by decide)), by rw [hF55 84 (by decide), h00, show cdI Λ y = 0 from if_neg (by omega)], fun _ => ⟨fun h9 => absurd h9 h38, fun _ => ⟨tvT Λ s, tvT_ok hW, (if_pos (Or.inl h76)).trans (hv9.2.1 h70)⟩⟩⟩)
      · skip
        refine tz_iconst (n := 74) (g_at ck_X11_tour 38 rfl) rfl ?_
        exact tz_iret (g_at ck_X11_tour 39 rfl) rfl (rI_mk ⟨rfl, hR3, hk0.tr (mK.l hF55 (by decide)), by rw [hF55 84 (by decide), h00, show cdI Λ y = 0 from if_neg (by omega)], fun _ => ⟨fun h9 => absurd h9 h38, fun _ => ⟨tvT Λ s, tvT_ok hW, (if_pos (Or.inr (by have := hv9.1; omega))).trans (hv9.2.2 h70)⟩⟩⟩)
    · skip
      refine tz_aload0 (n := 42) (g_at ck_X11_tour 21 rfl) rfl (g_ne kd_84) ?_
      refine tz_getIw (n := 45) (kz := 0) fk_X11_132 kd_84 (g_at ck_X11_tour 22 rfl) rfl rfl ?_
      rw [h00]
      refine tz_if_ne (n := 48) (tgt := 52) (g_at ck_X11_tour 23 rfl) rfl rfl (by decide) (fun h45 => absurd h45 (by omega)) (fun h45 => ?_)
      refine tz_iconst (n := 49) (g_at ck_X11_tour 24 rfl) rfl ?_
      refine tz_goto (tgt := 53) (g_at ck_X11_tour 25 rfl) rfl ?_
      exact tz_iret (g_at ck_X11_tour 27 rfl) rfl (rI_mk ⟨rfl, hR2, hk0, by rw [h00, show cdI Λ y = 0 from if_neg (by omega)], fun _ => ⟨fun _ => rfl, fun h9 => absurd h38 h9⟩⟩)
  · skip
    refine tz_iload1 (n := 11) (g_at ck_X11_tour 6 rfl) rfl ?_
    refine tz_if_le (n := 14) (tgt := 26) (g_at ck_X11_tour 7 rfl) rfl rfl hy (fun h11 => ?_) (fun h11 => ?_)
    · skip
      refine tz_iconst (n := 27) (g_at ck_X11_tour 14 rfl) rfl ?_
      refine tz_iconst (n := 28) (g_at ck_X11_tour 15 rfl) rfl ?_
      refine tz_cvI2 (n := 31) (μ' := μX11_right) (cb' := 0) (sb' := 0) ml_X11_295 mo_X11_right mv_X11_right np_X11_right kd_84 (g_at ck_X11_tour 16 rfl) (mp_right hR1 h00 (by decide) (by decide)) rfl rfl rfl ⟨by decide, by decide⟩ (Nat.le_of_ble_eq_true rfl) (by decide) (by decide) (fun x28 ρ9 m28 hq => ?_)
      obtain ⟨rfl, hR5, rfl, rfl⟩ := hq
      rw [show (if (0 : Int) = 0 then wr m0 84 0 1 else m0) = wr m0 84 0 1 from if_pos rfl] at hR5 ⊢
      refine tz_if_eq (n := 34) (tgt := 41) (g_at ck_X11_tour 17 rfl) rfl rfl (by decide) (fun h31 => ?_) (fun h31 => absurd h31 (by omega))
      refine tz_aload0 (n := 42) (g_at ck_X11_tour 21 rfl) rfl (g_ne kd_84) ?_
      refine tz_getIw (n := 45) (kz := 0) fk_X11_132 kd_84 (g_at ck_X11_tour 22 rfl) rfl rfl ?_
      rw [wr_same]
      refine tz_if_ne (n := 48) (tgt := 52) (g_at ck_X11_tour 23 rfl) rfl rfl (by decide) (fun h45 => ?_) (fun h45 => absurd h45 (by omega))
      refine tz_iconst (n := 53) (g_at ck_X11_tour 26 rfl) rfl ?_
      exact tz_iret (g_at ck_X11_tour 27 rfl) rfl (rI_mk ⟨rfl, hR5, hk0.tr mK.w0, by rw [wr_same, show cdI Λ y = 1 from if_pos (by omega)], fun h9 => absurd h9 (by rw [show cdI Λ y = 1 from if_pos (by omega)]; decide)⟩)
    · skip
      refine tz_iload1 (n := 15) (g_at ck_X11_tour 8 rfl) rfl ?_
      refine tz_aload0 (n := 16) (g_at ck_X11_tour 9 rfl) rfl (g_ne kd_84) ?_
      refine tz_getIw (n := 19) (kz := 1) fk_X11_302 kd_84 (g_at ck_X11_tour 10 rfl) rfl rfl ?_
      rw [hM0.1]
      refine tz_icmp_ge (n := 22) (tgt := 26) (g_at ck_X11_tour 11 rfl) rfl rfl (by omega) (fun h19 => ?_) (fun h19 => ?_)
      · skip
        refine tz_iconst (n := 27) (g_at ck_X11_tour 14 rfl) rfl ?_
        refine tz_iconst (n := 28) (g_at ck_X11_tour 15 rfl) rfl ?_
        refine tz_cvI2 (n := 31) (μ' := μX11_right) (cb' := 0) (sb' := 0) ml_X11_295 mo_X11_right mv_X11_right np_X11_right kd_84 (g_at ck_X11_tour 16 rfl) (mp_right hR1 h00 (by decide) (by decide)) rfl rfl rfl ⟨by decide, by decide⟩ (Nat.le_of_ble_eq_true rfl) (by decide) (by decide) (fun x28 ρ9 m28 hq => ?_)
        obtain ⟨rfl, hR6, rfl, rfl⟩ := hq
        rw [show (if (0 : Int) = 0 then wr m0 84 0 1 else m0) = wr m0 84 0 1 from if_pos rfl] at hR6 ⊢
        refine tz_if_eq (n := 34) (tgt := 41) (g_at ck_X11_tour 17 rfl) rfl rfl (by decide) (fun h31 => ?_) (fun h31 => absurd h31 (by omega))
        refine tz_aload0 (n := 42) (g_at ck_X11_tour 21 rfl) rfl (g_ne kd_84) ?_
        refine tz_getIw (n := 45) (kz := 0) fk_X11_132 kd_84 (g_at ck_X11_tour 22 rfl) rfl rfl ?_
        rw [wr_same]
        refine tz_if_ne (n := 48) (tgt := 52) (g_at ck_X11_tour 23 rfl) rfl rfl (by decide) (fun h45 => ?_) (fun h45 => absurd h45 (by omega))
        refine tz_iconst (n := 53) (g_at ck_X11_tour 26 rfl) rfl ?_
        exact tz_iret (g_at ck_X11_tour 27 rfl) rfl (rI_mk ⟨rfl, hR6, hk0.tr mK.w0, by rw [wr_same, show cdI Λ y = 1 from if_pos (by omega)], fun h9 => absurd h9 (by rw [show cdI Λ y = 1 from if_pos (by omega)]; decide)⟩)
      · skip
        refine tz_iconst (n := 23) (g_at ck_X11_tour 12 rfl) rfl ?_
        refine tz_goto (tgt := 27) (g_at ck_X11_tour 13 rfl) rfl ?_
        refine tz_iconst (n := 28) (g_at ck_X11_tour 15 rfl) rfl ?_
        refine tz_cvI2 (n := 31) (μ' := μX11_right) (cb' := 0) (sb' := 0) ml_X11_295 mo_X11_right mv_X11_right np_X11_right kd_84 (g_at ck_X11_tour 16 rfl) (mp_right hR1 h00 (by decide) (by decide)) rfl rfl rfl ⟨by decide, by decide⟩ (Nat.le_of_ble_eq_true rfl) (by decide) (by decide) (fun x28 ρ9 m28 hq => ?_)
        obtain ⟨rfl, hR7, rfl, rfl⟩ := hq
        rw [show (if (1 : Int) = 0 then wr m0 84 0 1 else m0) = m0 from if_neg (by decide)] at hR7 ⊢
        refine tz_if_eq (n := 34) (tgt := 41) (g_at ck_X11_tour 17 rfl) rfl rfl (by decide) (fun h31 => absurd h31 (by omega)) (fun h31 => ?_)
        refine tz_aload0 (n := 35) (g_at ck_X11_tour 18 rfl) rfl (g_ne kd_84) ?_
        refine tz_getIw (n := 38) (kz := 1) fk_X11_302 kd_84 (g_at ck_X11_tour 19 rfl) rfl rfl ?_
        rw [hM0.1]
        refine tz_if_ne (n := 41) (tgt := 54) (g_at ck_X11_tour 20 rfl) rfl rfl (by omega) (fun h38 => ?_) (fun h38 => ?_)
        · skip
          refine tz_aload0 (n := 55) (g_at ck_X11_tour 28 rfl) rfl (g_ne kd_84) ?_
          refine tz_cvV0 (n := 58) (μ' := μX11_laysTour) (cb' := 0) (sb' := 0) ml_X11_462 mo_X11_laysTour mv_X11_laysTour np_X11_laysTour kd_84 (g_at ck_X11_tour 29 rfl) (mp_laysTour hL hR7 hW hM0 hs0 hσ hz0 (by omega)) rfl rfl rfl ⟨by decide, by decide⟩ (Nat.le_of_ble_eq_true rfl) (by decide) (by decide) (fun ρ9 m55 hq => ?_)
          obtain ⟨rfl, hR8, hF55, hr55, hw55, hT55⟩ := hq
          have hM9 := hM0.fr hF55 (by decide)
          have w1 : 1 ≤ whl Λ := by have p1 : 2 ^ 1 ≤ 2 ^ (Λ 0 0).toNat := Nat.pow_le_pow_right (by decide) (by omega); unfold whl; omega
          have ht9 := hT55 1 (by decide) w1 0 (by omega) (by omega)
          rw [show (9 : Int) * 1 + 0 = 9 by decide, show (1 : Int) * 9 + 0 = 9 by decide] at ht9
          have hb9 := tvT_b (s := s) hW (t := 1) (a := 0) (by omega) (by omega)
          rw [show (1 : Int) * 9 + 0 = 9 by decide] at hb9
          have hv9 := tv_or hb9
          have hg9 := tr_rg (hb9.up (by decide)) (Int.le_refl _)
          unfold Bd at hb9
          refine tz_aload0 (n := 59) (g_at ck_X11_tour 30 rfl) rfl (g_ne kd_84) ?_
          refine tz_getAv (n := 62) (a := 115) fk_X11_111 kd_84 (ly_84_57 hL) (g_at ck_X11_tour 31 rfl) rfl ?_
          refine tz_bipush (n := 64) (g_at ck_X11_tour 32 rfl) rfl rfl ?_
          refine tz_iald (n := 65) kd_115 (by omega) (g_at ck_X11_tour 33 rfl) rfl ?_
          rw [ht9]
          refine tz_istore2 (n := 66) (g_at ck_X11_tour 34 rfl) rfl (by decide) g_hpI ?_
          refine tz_iload2 (n := 67) (g_at ck_X11_tour 35 rfl) rfl ?_
          refine tz_sipush (n := 70) (g_at ck_X11_tour 36 rfl) rfl rfl ?_
          refine tz_icmp_lt (n := 73) (tgt := 75) (g_at ck_X11_tour 37 rfl) rfl rfl (by omega) (fun h70 => ?_) (fun h70 => ?_)
          · skip
            refine tz_iload1 (n := 76) (g_at ck_X11_tour 40 rfl) rfl ?_
            refine tz_if_ne (n := 79) (tgt := 81) (g_at ck_X11_tour 41 rfl) rfl rfl hy (fun h76 => ?_) (fun h76 => ?_)
            · skip
              refine tz_iconst (n := 82) (g_at ck_X11_tour 44 rfl) rfl ?_
              refine tz_istore3 (n := 83) (g_at ck_X11_tour 45 rfl) rfl (by decide) g_hpI ?_
              refine tz_iconst (n := 84) (g_at ck_X11_tour 46 rfl) rfl ?_
              refine tz_istore4 (n := 86) (g_at ck_X11_tour 47 rfl) rfl (by decide) g_hpI ?_
              refine tz_iconst (n := 87) (g_at ck_X11_tour 48 rfl) rfl ?_
              refine tz_istore5 (n := 89) (g_at ck_X11_tour 49 rfl) rfl (by decide) g_hpI ?_
              have hf9 := hv9.1.mp h70
              have y1 : 0 < y ∧ y < Λ 0 0 := by omega
              refine g_for (fun i : Nat => gT l γ μX11_tour 3 0 0 _ _ KK ρ m55 89 [some (vR 84), some (vI y), some (vI (tr9 (tvT Λ s 9))), some (vI (tsN Λ s (tvT Λ s) i).1), some (vI (tsN Λ s (tvT Λ s) i).2), some (vI (i : Int)), none, none] []) y.toNat ?_ (fun i hi ihi => ?_) 0 (Nat.zero_le _)
              · skip
                refine tz_iload5 (n := 91) (g_at ck_X11_tour 50 rfl) rfl ?_
                refine tz_iload1 (n := 92) (g_at ck_X11_tour 51 rfl) rfl ?_
                refine tz_icmp_ge (n := 95) (tgt := 171) (g_at ck_X11_tour 52 rfl) rfl rfl (by omega) (fun h92 => ?_) (fun h92 => absurd h92 (by omega))
                refine tz_iload4 (n := 173) (g_at ck_X11_tour 96 rfl) rfl ?_
                exact tz_iret (g_at ck_X11_tour 97 rfl) rfl (rI_mk ⟨rfl, hR8, hk0.tr (mK.l hF55 (by decide)), by rw [hF55 84 (by decide), h00, show cdI Λ y = 0 from if_neg (by omega)], fun _ => ⟨fun h9 => absurd h9 h38, fun _ => ⟨tvT Λ s, tvT_ok hW, if_neg (by omega)⟩⟩⟩)
              · skip
                have hgo := ts_go (s := s) hW (by omega) hf9 i (by omega)
                have hts := ts_s (s := s) hW (by omega) hf9 (k := i) (by omega)
                have ht1 := (tsN_rg hW (tvT_ok (s := s) hW) (by omega) i).1.1
                refine tz_iload5 (n := 91) (g_at ck_X11_tour 50 rfl) rfl ?_
                refine tz_iload1 (n := 92) (g_at ck_X11_tour 51 rfl) rfl ?_
                refine tz_icmp_ge (n := 95) (tgt := 171) (g_at ck_X11_tour 52 rfl) rfl rfl (by omega) (fun h92 => absurd h92 (by omega)) (fun h92 => ?_)
                refine tz_iconst (n := 96) (g_at ck_X11_tour 53 rfl) rfl ?_
                refine tz_istore6 (n := 98) (g_at ck_X11_tour 54 rfl) rfl (by decide) g_hpI ?_
                refine tz_aload0 (n := 99) (g_at ck_X11_tour 55 rfl) rfl (g_ne kd_84) ?_
                refine tz_getIw (n := 102) (kz := 1) fk_X11_302 kd_84 (g_at ck_X11_tour 56 rfl) rfl rfl ?_
                rw [hM9.1]
                refine tz_iconst (n := 103) (g_at ck_X11_tour 57 rfl) rfl ?_
                refine tz_isub (n := 104) (g_at ck_X11_tour 58 rfl) rfl ?_
                refine tz_istore7 (n := 106) (g_at ck_X11_tour 59 rfl) rfl (by decide) g_hpI ?_
                suffices hlp : ∀ j : Nat, j ≤ (Λ 0 0).toNat → gT l γ μX11_tour 3 0 0 _ _ KK ρ m55 106 [some (vR 84), some (vI y), some (vI (tr9 (tvT Λ s 9))), some (vI (tsN Λ s (tvT Λ s) i).1), some (vI (tsN Λ s (tvT Λ s) i).2), some (vI (i : Int)), some (vI (itT Λ s (tsN Λ s (tvT Λ s) i).1 (tsN Λ s (tvT Λ s) i).2 j)), some (vI (Λ 0 0 - 1 - (j : Int)))] [] by
                  have h0 := hlp 0 (Nat.zero_le _)
                  rw [show Λ 0 0 - 1 - ((0 : Nat) : Int) = Λ 0 0 - 1 by omega] at h0
                  exact h0
                refine g_for (fun j : Nat => gT l γ μX11_tour 3 0 0 _ _ KK ρ m55 106 [some (vR 84), some (vI y), some (vI (tr9 (tvT Λ s 9))), some (vI (tsN Λ s (tvT Λ s) i).1), some (vI (tsN Λ s (tvT Λ s) i).2), some (vI (i : Int)), some (vI (itT Λ s (tsN Λ s (tvT Λ s) i).1 (tsN Λ s (tvT Λ s) i).2 j)), some (vI (Λ 0 0 - 1 - (j : Int)))] []) (Λ 0 0).toNat ?_ (fun j hj ihj => ?_)
                · skip
                  refine tz_iload7 (n := 108) (g_at ck_X11_tour 60 rfl) rfl ?_
                  refine tz_if_lt (n := 111) (tgt := 154) (g_at ck_X11_tour 61 rfl) rfl rfl (by omega) (fun h108 => ?_) (fun h108 => absurd h108 (by omega))
                  refine tz_iload3 (n := 155) (g_at ck_X11_tour 86 rfl) rfl ?_
                  refine tz_iconst (n := 156) (g_at ck_X11_tour 87 rfl) rfl ?_
                  refine tz_iload6 (n := 158) (g_at ck_X11_tour 88 rfl) rfl ?_
                  refine tz_ishl (n := 159) (g_at ck_X11_tour 89 rfl) rfl ?_
                  refine tz_ior (n := 160) (g_at ck_X11_tour 90 rfl) rfl ?_
                  refine tz_istore3 (n := 161) (g_at ck_X11_tour 91 rfl) rfl (by decide) g_hpI ?_
                  refine tz_iload6 (n := 163) (g_at ck_X11_tour 92 rfl) rfl ?_
                  refine tz_istore4 (n := 165) (g_at ck_X11_tour 93 rfl) rfl (by decide) g_hpI ?_
                  refine tz_iinc5 (n := 168) (g_at ck_X11_tour 94 rfl) rfl (by decide) g_hpI ?_
                  refine tz_goto (tgt := 89) (g_at ck_X11_tour 95 rfl) rfl ?_
                  refine tz_drop6 ?_
                  refine tz_drop7 ?_
                  exact gT_eq ihi rfl (by rw [hts.1]; rfl)
                · skip
                  refine tz_iload7 (n := 108) (g_at ck_X11_tour 60 rfl) rfl ?_
                  refine tz_if_lt (n := 111) (tgt := 154) (g_at ck_X11_tour 61 rfl) rfl rfl (by omega) (fun h108 => absurd h108 (by omega)) (fun h108 => ?_)
                  refine tz_iload3 (n := 112) (g_at ck_X11_tour 62 rfl) rfl ?_
                  refine tz_iload7 (n := 114) (g_at ck_X11_tour 63 rfl) rfl ?_
                  refine tz_ishr (n := 115) (g_at ck_X11_tour 64 rfl) rfl ?_
                  refine tz_iconst (n := 116) (g_at ck_X11_tour 65 rfl) rfl ?_
                  refine tz_iand (n := 117) (g_at ck_X11_tour 66 rfl) rfl ?_
                  refine tz_if_ne (n := 120) (tgt := 148) (g_at ck_X11_tour 67 rfl) rfl rfl (bAnd_rg _ _) (fun h117 => ?_) (fun h117 => ?_)
                  · skip
                    refine tz_iinc7 (n := 151) (g_at ck_X11_tour 84 rfl) rfl (by decide) g_hpI ?_
                    refine tz_goto (tgt := 106) (g_at ck_X11_tour 85 rfl) rfl ?_
                    have e9 : itT Λ s (tsN Λ s (tvT Λ s) i).1 (tsN Λ s (tvT Λ s) i).2 (j + 1) = (itT Λ s (tsN Λ s (tvT Λ s) i).1 (tsN Λ s (tvT Λ s) i).2 j) := if_neg h117
                    rw [e9, show Λ 0 0 - 1 - ((j + 1 : Nat) : Int) = Λ 0 0 - 1 - (j : Int) + -1 by omega] at ihj
                    exact ihj
                  · skip
                    refine tz_aload0 (n := 121) (g_at ck_X11_tour 68 rfl) rfl (g_ne kd_84) ?_
                    refine tz_iload3 (n := 122) (g_at ck_X11_tour 69 rfl) rfl ?_
                    refine tz_iload4 (n := 124) (g_at ck_X11_tour 70 rfl) rfl ?_
                    refine tz_iload7 (n := 126) (g_at ck_X11_tour 71 rfl) rfl ?_
                    refine tz_cvI3 (n := 129) (μ' := μX11_onBy) (cb' := 0) (sb' := 0) ml_X11_459 mo_X11_onBy mv_X11_onBy np_X11_onBy kd_84 (g_at ck_X11_tour 72 rfl) (mp_onBy hL hR8 hW hr55 (fun t9 k1 k2 => hT55 t9 (by omega) k2) hgo.1 hgo.2.1 (by omega) h117) rfl rfl rfl ⟨by decide, by decide⟩ (Nat.le_of_ble_eq_true rfl) (by decide) (by decide) (fun x126 ρ9 m126 hq => ?_)
                    obtain ⟨rfl, hR9, rfl, rfl⟩ := hq
                    have oI := orI hW (t := (tsN Λ s (tvT Λ s) i).1) (z := (Λ 0 0 - 1 - (j : Int))) hgo.1 (by omega) h117
                    have g8 := tr_rg ((tvT_b (s := s) hW (t := bOr (tsN Λ s (tvT Λ s) i).1 (bShl 1 (Λ 0 0 - 1 - (j : Int)))) (a := (Λ 0 0 - 1 - (j : Int))) (by omega) (by omega)).up (by decide)) (Int.le_refl _)
                    have g7 := tr_rg (hw55 ((tsN Λ s (tvT Λ s) i).2 * 9 + (Λ 0 0 - 1 - (j : Int)))).2 (Int.le_refl _)
                    have g6 := tr_rg ((tvT_b (s := s) hW (t := (tsN Λ s (tvT Λ s) i).1) (a := (tsN Λ s (tvT Λ s) i).2) hgo.1 hgo.2.1).up (by decide)) (Int.le_refl _)
                    refine tz_aload0 (n := 130) (g_at ck_X11_tour 73 rfl) rfl (g_ne kd_84) ?_
                    refine tz_getAv (n := 133) (a := 115) fk_X11_111 kd_84 (ly_84_57 hL) (g_at ck_X11_tour 74 rfl) rfl ?_
                    refine tz_bipush (n := 135) (g_at ck_X11_tour 75 rfl) rfl rfl ?_
                    refine tz_iload3 (n := 136) (g_at ck_X11_tour 76 rfl) rfl ?_
                    refine tz_imul (n := 137) (g_at ck_X11_tour 77 rfl) rfl ?_
                    refine tz_iload4 (n := 139) (g_at ck_X11_tour 78 rfl) rfl ?_
                    refine tz_iadd (n := 140) (g_at ck_X11_tour 79 rfl) rfl ?_
                    refine tz_iald (n := 141) kd_115 (by omega) (g_at ck_X11_tour 80 rfl) rfl ?_
                    rw [hT55 (tsN Λ s (tvT Λ s) i).1 (by omega) hgo.1.2 (tsN Λ s (tvT Λ s) i).2 hgo.2.1.1 hgo.2.1.2]
                    refine tz_icmp_ne (n := 144) (tgt := 148) (g_at ck_X11_tour 81 rfl) rfl rfl (by omega) (fun h141 => ?_) (fun h141 => ?_)
                    · skip
                      refine tz_iinc7 (n := 151) (g_at ck_X11_tour 84 rfl) rfl (by decide) g_hpI ?_
                      refine tz_goto (tgt := 106) (g_at ck_X11_tour 85 rfl) rfl ?_
                      have e9 : itT Λ s (tsN Λ s (tvT Λ s) i).1 (tsN Λ s (tvT Λ s) i).2 (j + 1) = (itT Λ s (tsN Λ s (tvT Λ s) i).1 (tsN Λ s (tvT Λ s) i).2 j) := (if_pos h117).trans (if_neg h141)
                      rw [e9, show Λ 0 0 - 1 - ((j + 1 : Nat) : Int) = Λ 0 0 - 1 - (j : Int) + -1 by omega] at ihj
                      exact ihj
                    · skip
                      refine tz_iload7 (n := 146) (g_at ck_X11_tour 82 rfl) rfl ?_
                      refine tz_istore6 (n := 148) (g_at ck_X11_tour 83 rfl) rfl (by decide) g_hpI ?_
                      refine tz_iinc7 (n := 151) (g_at ck_X11_tour 84 rfl) rfl (by decide) g_hpI ?_
                      refine tz_goto (tgt := 106) (g_at ck_X11_tour 85 rfl) rfl ?_
                      have e9 : itT Λ s (tsN Λ s (tvT Λ s) i).1 (tsN Λ s (tvT Λ s) i).2 (j + 1) = (Λ 0 0 - 1 - (j : Int)) := (if_pos h117).trans (if_pos h141)
                      rw [e9, show Λ 0 0 - 1 - ((j + 1 : Nat) : Int) = Λ 0 0 - 1 - (j : Int) + -1 by omega] at ihj
                      exact ihj
            · skip
              refine tz_iload2 (n := 80) (g_at ck_X11_tour 42 rfl) rfl ?_
              exact tz_iret (g_at ck_X11_tour 43 rfl) rfl (rI_mk ⟨rfl, hR8, hk0.tr (mK.l hF55 (by decide)), by rw [hF55 84 (by decide), h00, show cdI Λ y = 0 from if_neg (by omega)], fun _ => ⟨fun h9 => absurd h9 h38, fun _ => ⟨tvT Λ s, tvT_ok hW, (if_pos (Or.inl h76)).trans (hv9.2.1 h70)⟩⟩⟩)
          · skip
            refine tz_iconst (n := 74) (g_at ck_X11_tour 38 rfl) rfl ?_
            exact tz_iret (g_at ck_X11_tour 39 rfl) rfl (rI_mk ⟨rfl, hR8, hk0.tr (mK.l hF55 (by decide)), by rw [hF55 84 (by decide), h00, show cdI Λ y = 0 from if_neg (by omega)], fun _ => ⟨fun h9 => absurd h9 h38, fun _ => ⟨tvT Λ s, tvT_ok hW, (if_pos (Or.inr (by have := hv9.1; omega))).trans (hv9.2.2 h70)⟩⟩⟩)
        · skip
          refine tz_aload0 (n := 42) (g_at ck_X11_tour 21 rfl) rfl (g_ne kd_84) ?_
          refine tz_getIw (n := 45) (kz := 0) fk_X11_132 kd_84 (g_at ck_X11_tour 22 rfl) rfl rfl ?_
          rw [h00]
          refine tz_if_ne (n := 48) (tgt := 52) (g_at ck_X11_tour 23 rfl) rfl rfl (by decide) (fun h45 => absurd h45 (by omega)) (fun h45 => ?_)
          refine tz_iconst (n := 49) (g_at ck_X11_tour 24 rfl) rfl ?_
          refine tz_goto (tgt := 53) (g_at ck_X11_tour 25 rfl) rfl ?_
          exact tz_iret (g_at ck_X11_tour 27 rfl) rfl (rI_mk ⟨rfl, hR7, hk0, by rw [h00, show cdI Λ y = 0 from if_neg (by omega)], fun _ => ⟨fun _ => rfl, fun h9 => absurd h38 h9⟩⟩)
