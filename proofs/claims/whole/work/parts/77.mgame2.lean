/-! The reference: game, years. -/
theorem mp_game {l : Launch} {γ : Gh} {ρ m : Mm} {p o w : Int} (hp : -2147483648 ≤ p ∧ p < 2147483648) (ho : -2147483648 ≤ o ∧ o < 2147483648) (hw : -2147483648 ≤ w ∧ w < 2147483648) {s : Int → Int} {Λ : Mm} {hl tl : List Int} (hL : LY ρ) (hR : MR m) (hW : WL Λ) (hM : MLand m Λ hl tl) (hs : MRow m s) (hσ : WS Λ 0 (sig0 s)) (hz : m 84 51 = 0) : gE l γ μX11_game 7 0 0 (rI KK fun x ρ9 m9 => ρ = ρ9 ∧ MR m9 ∧ mK m m9 ∧ m9 84 0 = sq (cdP Λ p) (sq (cdP Λ o) (sq (cdW w 1) (cdE p o))) ∧ (sq (cdP Λ p) (sq (cdP Λ o) (sq (cdW w 1) (cdE p o))) = 0 → (if s (1 + p) = Λ 5 p ∨ s (1 + o) = Λ 5 o then -1 else if w = 0 then (rsN (gmA Λ hl tl s p o) (gmB Λ hl tl s p o) 4).1 else (rsN (gmA Λ hl tl s p o) (gmB Λ hl tl s p o) 4).2) = x)) xN KK ρ m [vR 84, vI p, vI o, vI w] := by
  refine gE.ofw cl_X11.2 ?_ rfl rfl (Nat.le_of_ble_eq_true rfl)
  show gT l γ μX11_game 7 0 0 _ _ KK ρ m 0 [some (vR 84), some (vI p), some (vI o), some (vI w), none, none, none, none, none] []
  have hn1 := hW.1
  have hn8 := hW.2.1
  refine tz_aload0 (n := 1) (g_at ck_X11_game 0 rfl) rfl (g_ne kd_84) ?_
  refine tz_iconst (n := 2) (g_at ck_X11_game 1 rfl) rfl ?_
  refine tz_putIr (n := 5) (kz := 0) fk_X11_132 kd_84 (g_at ck_X11_game 2 rfl) rfl hR ⟨(by decide), (by decide)⟩ rfl (fun hR1 => ?_)
  obtain ⟨m0, e0⟩ : ∃ m0, m0 = wr m 84 0 0 := ⟨_, rfl⟩
  rw [← e0] at hR1 ⊢
  have hk0 : mK m m0 := by rw [e0]; exact mK.w0
  have hM0 := hk0.land hM
  have hs0 := hk0.row hs
  have hz0 : m0 84 51 = 0 := hk0.w51.trans hz
  have h00 : m0 84 0 = 0 := by rw [e0, wr_same]
  have hw0 := hw_0 hz0
  refine tz_aload0 (n := 6) (g_at ck_X11_game 3 rfl) rfl (g_ne kd_84) ?_
  refine tz_iload1 (n := 7) (g_at ck_X11_game 4 rfl) rfl ?_
  refine tz_cvI1 (n := 10) (μ' := μX11_isPerson) (cb' := 0) (sb' := 0) ml_X11_405 mo_X11_isPerson mv_X11_isPerson np_X11_isPerson kd_84 (g_at ck_X11_game 5 rfl) (mp_isPerson hp hL hR1 hW hM0 h00) rfl rfl rfl ⟨by decide, by decide⟩ (Nat.le_of_ble_eq_true rfl) (by decide) (by decide) (fun x7 ρ9 m7 hq => ?_)
  obtain ⟨rfl, hR2, hq7⟩ := hq
  refine tz_if_eq (n := 13) (tgt := 48) (g_at ck_X11_game 6 rfl) rfl rfl (by rcases hq7.b01 with h9 | h9 <;> omega) (fun h10 => ?_) (fun h10 => ?_)
  · skip
    refine tz_iconst (n := 49) (g_at ck_X11_game 26 rfl) rfl ?_
    exact tz_iret (g_at ck_X11_game 27 rfl) rfl (rI_mk ⟨rfl, hR2, by rw [(hq7.no h10).2]; exact hk0.tr mK.w0, by rw [(hq7.no h10).2, wr_same, sqn (hq7.no h10).1], fun h9 => absurd h9 (by rw [sqn (hq7.no h10).1]; exact (hq7.no h10).1)⟩)
  · skip
    obtain ⟨hc0, rfl⟩ := hq7.ok h10
    have hi0 := cdP_i hc0
    refine tz_aload0 (n := 14) (g_at ck_X11_game 7 rfl) rfl (g_ne kd_84) ?_
    refine tz_iload2 (n := 15) (g_at ck_X11_game 8 rfl) rfl ?_
    refine tz_cvI1 (n := 18) (μ' := μX11_isPerson) (cb' := 0) (sb' := 0) ml_X11_405 mo_X11_isPerson mv_X11_isPerson np_X11_isPerson kd_84 (g_at ck_X11_game 9 rfl) (mp_isPerson ho hL hR2 hW hM0 h00) rfl rfl rfl ⟨by decide, by decide⟩ (Nat.le_of_ble_eq_true rfl) (by decide) (by decide) (fun x15 ρ9 m15 hq => ?_)
    obtain ⟨rfl, hR3, hq15⟩ := hq
    refine tz_if_eq (n := 21) (tgt := 48) (g_at ck_X11_game 10 rfl) rfl rfl (by rcases hq15.b01 with h9 | h9 <;> omega) (fun h18 => ?_) (fun h18 => ?_)
    · skip
      refine tz_iconst (n := 49) (g_at ck_X11_game 26 rfl) rfl ?_
      exact tz_iret (g_at ck_X11_game 27 rfl) rfl (rI_mk ⟨rfl, hR3, by rw [(hq15.no h18).2]; exact hk0.tr mK.w0, by rw [(hq15.no h18).2, wr_same, hc0, sq0, sqn (hq15.no h18).1], fun h9 => absurd h9 (by rw [hc0, sq0, sqn (hq15.no h18).1]; exact (hq15.no h18).1)⟩)
    · skip
      obtain ⟨hc1, rfl⟩ := hq15.ok h18
      have hi1 := cdP_i hc1
      refine tz_aload0 (n := 22) (g_at ck_X11_game 11 rfl) rfl (g_ne kd_84) ?_
      refine tz_iload3 (n := 23) (g_at ck_X11_game 12 rfl) rfl ?_
      refine tz_iconst (n := 24) (g_at ck_X11_game 13 rfl) rfl ?_
      refine tz_cvI2 (n := 27) (μ' := μX11_isWhat) (cb' := 0) (sb' := 0) ml_X11_396 mo_X11_isWhat mv_X11_isWhat np_X11_isWhat kd_84 (g_at ck_X11_game 14 rfl) (mp_isWhat hw (by decide) hL hR3 h00) rfl rfl rfl ⟨by decide, by decide⟩ (Nat.le_of_ble_eq_true rfl) (by decide) (by decide) (fun x24 ρ9 m24 hq => ?_)
      obtain ⟨rfl, hR4, hq24⟩ := hq
      refine tz_if_eq (n := 30) (tgt := 48) (g_at ck_X11_game 15 rfl) rfl rfl (by rcases hq24.b01 with h9 | h9 <;> omega) (fun h27 => ?_) (fun h27 => ?_)
      · skip
        refine tz_iconst (n := 49) (g_at ck_X11_game 26 rfl) rfl ?_
        exact tz_iret (g_at ck_X11_game 27 rfl) rfl (rI_mk ⟨rfl, hR4, by rw [(hq24.no h27).2]; exact hk0.tr mK.w0, by rw [(hq24.no h27).2, wr_same, hc0, hc1, sq0, sq0, sqn (hq24.no h27).1], fun h9 => absurd h9 (by rw [hc0, hc1, sq0, sq0, sqn (hq24.no h27).1]; exact (hq24.no h27).1)⟩)
      · skip
        obtain ⟨hc2, rfl⟩ := hq24.ok h27
        have hi2 := cdW_i hc2
        refine tz_aload0 (n := 31) (g_at ck_X11_game 16 rfl) rfl (g_ne kd_84) ?_
        refine tz_iload1 (n := 32) (g_at ck_X11_game 17 rfl) rfl ?_
        refine tz_iload2 (n := 33) (g_at ck_X11_game 18 rfl) rfl ?_
        refine tz_icmp_eq (n := 36) (tgt := 40) (g_at ck_X11_game 19 rfl) rfl rfl ⟨hp.1, hp.2, ho.1, ho.2⟩ (fun h33 => ?_) (fun h33 => ?_)
        · skip
          refine tz_iconst (n := 41) (g_at ck_X11_game 22 rfl) rfl ?_
          refine tz_iconst (n := 42) (g_at ck_X11_game 23 rfl) rfl ?_
          refine tz_cvI2 (n := 45) (μ' := μX11_right) (cb' := 0) (sb' := 0) ml_X11_295 mo_X11_right mv_X11_right np_X11_right kd_84 (g_at ck_X11_game 24 rfl) (mp_right hR4 h00 (by decide) (by decide)) rfl rfl rfl ⟨by decide, by decide⟩ (Nat.le_of_ble_eq_true rfl) (by decide) (by decide) (fun x42 ρ9 m42 hq => ?_)
          obtain ⟨rfl, hR5, rfl, rfl⟩ := hq
          refine tz_if_ne (n := 48) (tgt := 50) (g_at ck_X11_game 25 rfl) rfl rfl (by decide) (fun h45 => absurd h45 (by omega)) (fun h45 => ?_)
          refine tz_iconst (n := 49) (g_at ck_X11_game 26 rfl) rfl ?_
          exact tz_iret (g_at ck_X11_game 27 rfl) rfl (rI_mk ⟨rfl, hR5, by rw [if_pos rfl]; exact hk0.tr mK.w0, by rw [if_pos rfl, wr_same, hc0, hc1, hc2, sq0, sq0, sq0, show cdE p o = 2 from if_pos h33], fun h9 => absurd h9 (by rw [hc0, hc1, hc2, sq0, sq0, sq0, show cdE p o = 2 from if_pos h33]; decide)⟩)
        · skip
          refine tz_iconst (n := 37) (g_at ck_X11_game 20 rfl) rfl ?_
          refine tz_goto (tgt := 41) (g_at ck_X11_game 21 rfl) rfl ?_
          refine tz_iconst (n := 42) (g_at ck_X11_game 23 rfl) rfl ?_
          refine tz_cvI2 (n := 45) (μ' := μX11_right) (cb' := 0) (sb' := 0) ml_X11_295 mo_X11_right mv_X11_right np_X11_right kd_84 (g_at ck_X11_game 24 rfl) (mp_right hR4 h00 (by decide) (by decide)) rfl rfl rfl ⟨by decide, by decide⟩ (Nat.le_of_ble_eq_true rfl) (by decide) (by decide) (fun x42 ρ9 m42 hq => ?_)
          obtain ⟨rfl, hR6, rfl, rfl⟩ := hq
          refine tz_if_ne (n := 48) (tgt := 50) (g_at ck_X11_game 25 rfl) rfl rfl (by decide) (fun h45 => ?_) (fun h45 => absurd h45 (by omega))
          have hc3 : cdE p o = 0 := if_neg h33
          rw [show (if (1 : Int) = 0 then wr m0 84 0 2 else m0) = m0 from if_neg (by decide)]
          rw [show (if (1 : Int) = 0 then wr m0 84 0 2 else m0) = m0 from if_neg (by decide)] at hR6
          refine tz_aload0 (n := 51) (g_at ck_X11_game 28 rfl) rfl (g_ne kd_84) ?_
          refine tz_iconst (n := 52) (g_at ck_X11_game 29 rfl) rfl ?_
          refine tz_iload1 (n := 53) (g_at ck_X11_game 30 rfl) rfl ?_
          refine tz_cvI2 (n := 56) (μ' := μX11_isHome) (cb' := 0) (sb' := 0) ml_X11_345 mo_X11_isHome mv_X11_isHome np_X11_isHome kd_84 (g_at ck_X11_game 31 rfl) (mp_isHome hL hR6 (Or.inl rfl) (by omega)) rfl rfl rfl ⟨by decide, by decide⟩ (Nat.le_of_ble_eq_true rfl) (by decide) (by decide) (fun x53 ρ9 m53 hq => ?_)
          obtain ⟨rfl, hR7, rfl, rfl⟩ := hq
          rw [show (0 : Int) + 1 + p = 1 + p by omega, hs0 (1 + p) (by omega) (by omega), hM0.2.2.2.2.1 p (by omega) (by omega)]
          have gp := hmB_01 (s (1 + p)) (Λ 5 p)
          refine tz_if_ne (n := 59) (tgt := 68) (g_at ck_X11_game 32 rfl) rfl rfl (by omega) (fun h56 => ?_) (fun h56 => ?_)
          · skip
            refine tz_iconst (n := 69) (g_at ck_X11_game 38 rfl) rfl ?_
            exact tz_iret (g_at ck_X11_game 39 rfl) rfl (rI_mk ⟨rfl, hR7, hk0.tr (mK.fd (FD.rf (b := 35) (x := m0))), by rw [(FD.rf (b := 35) (x := m0)).1 84 (by decide), h00, hc0, hc1, hc2, hc3]; rfl, fun _ => if_pos (Or.inl (hmB_1 h56))⟩)
          · skip
            refine tz_aload0 (n := 60) (g_at ck_X11_game 33 rfl) rfl (g_ne kd_84) ?_
            refine tz_iconst (n := 61) (g_at ck_X11_game 34 rfl) rfl ?_
            refine tz_iload2 (n := 62) (g_at ck_X11_game 35 rfl) rfl ?_
            refine tz_cvI2 (n := 65) (μ' := μX11_isHome) (cb' := 0) (sb' := 0) ml_X11_345 mo_X11_isHome mv_X11_isHome np_X11_isHome kd_84 (g_at ck_X11_game 36 rfl) (mp_isHome hL hR7 (Or.inl rfl) (by omega)) rfl rfl rfl ⟨by decide, by decide⟩ (Nat.le_of_ble_eq_true rfl) (by decide) (by decide) (fun x62 ρ9 m62 hq => ?_)
            obtain ⟨rfl, hR8, rfl, rfl⟩ := hq
            rw [show (0 : Int) + 1 + o = 1 + o by omega, hs0 (1 + o) (by omega) (by omega), hM0.2.2.2.2.1 o (by omega) (by omega)]
            have go := hmB_01 (s (1 + o)) (Λ 5 o)
            refine tz_if_eq (n := 68) (tgt := 70) (g_at ck_X11_game 37 rfl) rfl rfl (by omega) (fun h65 => ?_) (fun h65 => ?_)
            · skip
              refine tz_iconst (n := 71) (g_at ck_X11_game 40 rfl) rfl ?_
              refine tz_istore4 (n := 73) (g_at ck_X11_game 41 rfl) rfl (by decide) g_hpI ?_
              refine tz_iconst (n := 74) (g_at ck_X11_game 42 rfl) rfl ?_
              refine tz_istore5 (n := 76) (g_at ck_X11_game 43 rfl) rfl (by decide) g_hpI ?_
              refine tz_iconst (n := 77) (g_at ck_X11_game 44 rfl) rfl ?_
              refine tz_istore6 (n := 79) (g_at ck_X11_game 45 rfl) rfl (by decide) g_hpI ?_
              refine g_for (fun i : Nat => ∀ m1 : Mm, (MR m1 ∧ FD 35 m0 m1) → gT l γ μX11_game 7 0 0 _ _ KK ρ m1 79 [some (vR 84), some (vI p), some (vI o), some (vI w), some (vI (rsN (gmA Λ hl tl s p o) (gmB Λ hl tl s p o) i).1), some (vI (rsN (gmA Λ hl tl s p o) (gmB Λ hl tl s p o) i).2), some (vI (i : Int)), none, none] []) 4 ?_ (fun i hi ihi => ?_) 0 (Nat.zero_le _) _ ⟨hR8, FD.rf⟩
              · intro m1 hinv
                obtain ⟨hRi, hDi⟩ := hinv
                refine tz_iload6 (n := 81) (g_at ck_X11_game 46 rfl) rfl ?_
                refine tz_iconst (n := 82) (g_at ck_X11_game 47 rfl) rfl ?_
                refine tz_icmp_ge (n := 85) (tgt := 175) (g_at ck_X11_game 48 rfl) rfl rfl ⟨(by omega), (by omega), (by decide), (by decide)⟩ (fun h82 => ?_) (fun h82 => absurd h82 (by omega))
                refine tz_iload3 (n := 176) (g_at ck_X11_game 100 rfl) rfl ?_
                refine tz_if_ne (n := 179) (tgt := 184) (g_at ck_X11_game 101 rfl) rfl rfl hw (fun h176 => ?_) (fun h176 => ?_)
                · skip
                  refine tz_iload5 (n := 186) (g_at ck_X11_game 104 rfl) rfl ?_
                  exact tz_iret (g_at ck_X11_game 105 rfl) rfl (rI_mk ⟨rfl, hRi, hk0.tr (mK.fd hDi), by rw [hDi.1 84 (by decide), h00, hc0, hc1, hc2, hc3]; rfl, fun _ => by rw [if_neg (fun h9 => h9.elim (hmB_0 h56) (hmB_0 h65)), if_neg h176]⟩)
                · skip
                  refine tz_iload4 (n := 181) (g_at ck_X11_game 102 rfl) rfl ?_
                  refine tz_goto (tgt := 186) (g_at ck_X11_game 103 rfl) rfl ?_
                  exact tz_iret (g_at ck_X11_game 105 rfl) rfl (rI_mk ⟨rfl, hRi, hk0.tr (mK.fd hDi), by rw [hDi.1 84 (by decide), h00, hc0, hc1, hc2, hc3]; rfl, fun _ => by rw [if_neg (fun h9 => h9.elim (hmB_0 h56) (hmB_0 h65)), if_pos h176]⟩)
              · intro m1 hinv
                obtain ⟨hRi, hDi⟩ := hinv
                have hri := rs_inv (A := gmA Λ hl tl s p o) (B := gmB Λ hl tl s p o) i (by omega)
                have hrs := rs_iff (Λ := Λ) (hl := hl) (tl := tl) (s := s) (p := p) (o := o) (k := (i : Int)) (by omega)
                refine tz_iload6 (n := 81) (g_at ck_X11_game 46 rfl) rfl ?_
                refine tz_iconst (n := 82) (g_at ck_X11_game 47 rfl) rfl ?_
                refine tz_icmp_ge (n := 85) (tgt := 175) (g_at ck_X11_game 48 rfl) rfl rfl ⟨(by omega), (by omega), (by decide), (by decide)⟩ (fun h82 => absurd h82 (by omega)) (fun h82 => ?_)
                refine tz_iload6 (n := 87) (g_at ck_X11_game 49 rfl) rfl ?_
                refine tz_iconst (n := 88) (g_at ck_X11_game 50 rfl) rfl ?_
                refine tz_idiv (n := 89) (g_at ck_X11_game 51 rfl) rfl (by omega) ?_
                rw [bDiv_nn (by omega) (by decide)]
                refine tz_istore7 (n := 91) (g_at ck_X11_game 52 rfl) rfl (by decide) g_hpI ?_
                refine tz_iload6 (n := 93) (g_at ck_X11_game 53 rfl) rfl ?_
                refine tz_iconst (n := 94) (g_at ck_X11_game 54 rfl) rfl ?_
                refine tz_irem (n := 95) (g_at ck_X11_game 55 rfl) rfl (by omega) ?_
                rw [bRem_nn (by omega) (by decide)]
                refine tz_istore8 (n := 97) (g_at ck_X11_game 56 rfl) rfl (by decide) g_hpI ?_
                refine tz_aload0 (n := 98) (g_at ck_X11_game 57 rfl) rfl (g_ne kd_84) ?_
                refine tz_iload1 (n := 99) (g_at ck_X11_game 58 rfl) rfl ?_
                refine tz_iload2 (n := 100) (g_at ck_X11_game 59 rfl) rfl ?_
                refine tz_iconst (n := 101) (g_at ck_X11_game 60 rfl) rfl ?_
                refine tz_iload7 (n := 103) (g_at ck_X11_game 61 rfl) rfl ?_
                refine tz_isub (n := 104) (g_at ck_X11_game 62 rfl) rfl ?_
                refine tz_iload8 (n := 106) (g_at ck_X11_game 63 rfl) rfl ?_
                refine tz_cvI4 (n := 109) (μ' := μX11_gains) (cb' := 0) (sb' := 0) ml_X11_474 mo_X11_gains mv_X11_gains np_X11_gains kd_84 (g_at ck_X11_game 64 rfl) (mp_gains hL hRi hW (hM0.fr (hDi).1 mDay_91) ((mK.fd (hDi)).row hs0) hσ (by rw [(hDi).1 84 (by decide)]; exact hz0) hi0 hi1 (by omega) (by omega)) rfl rfl rfl ⟨by decide, by decide⟩ (Nat.le_of_ble_eq_true rfl) (by decide) (by decide) (fun x106 ρ9 m106 hq => ?_)
                obtain ⟨rfl, hR9, hD106, hx106⟩ := hq
                have hD106x := (hDi).tr hD106
                have hg106 := gnV_rg (hl := hl) (tl := tl) (x := (1 - (i : Int) / 2)) (y := ((i : Int) % 2)) hW hσ hi0 hi1 (by omega)
                rw [hx106] at hg106
                refine tz_aload0 (n := 110) (g_at ck_X11_game 65 rfl) rfl (g_ne kd_84) ?_
                refine tz_iload1 (n := 111) (g_at ck_X11_game 66 rfl) rfl ?_
                refine tz_iload2 (n := 112) (g_at ck_X11_game 67 rfl) rfl ?_
                refine tz_iload7 (n := 114) (g_at ck_X11_game 68 rfl) rfl ?_
                refine tz_iload8 (n := 116) (g_at ck_X11_game 69 rfl) rfl ?_
                refine tz_cvI4 (n := 119) (μ' := μX11_gains) (cb' := 0) (sb' := 0) ml_X11_474 mo_X11_gains mv_X11_gains np_X11_gains kd_84 (g_at ck_X11_game 70 rfl) (mp_gains hL hR9 hW (hM0.fr (hD106x).1 mDay_91) ((mK.fd (hD106x)).row hs0) hσ (by rw [(hD106x).1 84 (by decide)]; exact hz0) hi0 hi1 (by omega) (by omega)) rfl rfl rfl ⟨by decide, by decide⟩ (Nat.le_of_ble_eq_true rfl) (by decide) (by decide) (fun x116 ρ9 m116 hq => ?_)
                obtain ⟨rfl, hR10, hD116, hx116⟩ := hq
                have hD116x := (hD106x).tr hD116
                have hg116 := gnV_rg (hl := hl) (tl := tl) (x := ((i : Int) / 2)) (y := ((i : Int) % 2)) hW hσ hi0 hi1 (by omega)
                rw [hx116] at hg116
                refine tz_icmp_gt (n := 122) (tgt := 169) (g_at ck_X11_game 71 rfl) rfl rfl (by omega) (fun h119 => ?_) (fun h119 => ?_)
                · skip
                  refine tz_iinc6 (n := 172) (g_at ck_X11_game 98 rfl) rfl (by decide) g_hpI ?_
                  refine tz_goto (tgt := 79) (g_at ck_X11_game 99 rfl) rfl ?_
                  refine tz_drop7 ?_
                  refine tz_drop8 ?_
                  have e9 : (rsN (gmA Λ hl tl s p o) (gmB Λ hl tl s p o) (i + 1)) = (rsN (gmA Λ hl tl s p o) (gmB Λ hl tl s p o) i) := if_pos (Classical.byContradiction fun h9 => absurd (hrs.mp h9).1 (by rw [hx106, hx116]; omega))
                  rw [e9] at ihi
                  exact ihi _ ⟨hR10, hD116x⟩
                · skip
                  refine tz_aload0 (n := 123) (g_at ck_X11_game 72 rfl) rfl (g_ne kd_84) ?_
                  refine tz_iload2 (n := 124) (g_at ck_X11_game 73 rfl) rfl ?_
                  refine tz_iload1 (n := 125) (g_at ck_X11_game 74 rfl) rfl ?_
                  refine tz_iconst (n := 126) (g_at ck_X11_game 75 rfl) rfl ?_
                  refine tz_iload8 (n := 128) (g_at ck_X11_game 76 rfl) rfl ?_
                  refine tz_isub (n := 129) (g_at ck_X11_game 77 rfl) rfl ?_
                  refine tz_iload7 (n := 131) (g_at ck_X11_game 78 rfl) rfl ?_
                  refine tz_cvI4 (n := 134) (μ' := μX11_gains) (cb' := 0) (sb' := 0) ml_X11_474 mo_X11_gains mv_X11_gains np_X11_gains kd_84 (g_at ck_X11_game 79 rfl) (mp_gains hL hR10 hW (hM0.fr (hD116x).1 mDay_91) ((mK.fd (hD116x)).row hs0) hσ (by rw [(hD116x).1 84 (by decide)]; exact hz0) hi1 hi0 (by omega) (by omega)) rfl rfl rfl ⟨by decide, by decide⟩ (Nat.le_of_ble_eq_true rfl) (by decide) (by decide) (fun x131 ρ9 m131 hq => ?_)
                  obtain ⟨rfl, hR11, hD131, hx131⟩ := hq
                  have hD131x := (hD116x).tr hD131
                  have hg131 := gnV_rg (hl := hl) (tl := tl) (x := (1 - (i : Int) % 2)) (y := ((i : Int) / 2)) hW hσ hi1 hi0 (by omega)
                  rw [hx131] at hg131
                  refine tz_aload0 (n := 135) (g_at ck_X11_game 80 rfl) rfl (g_ne kd_84) ?_
                  refine tz_iload2 (n := 136) (g_at ck_X11_game 81 rfl) rfl ?_
                  refine tz_iload1 (n := 137) (g_at ck_X11_game 82 rfl) rfl ?_
                  refine tz_iload8 (n := 139) (g_at ck_X11_game 83 rfl) rfl ?_
                  refine tz_iload7 (n := 141) (g_at ck_X11_game 84 rfl) rfl ?_
                  refine tz_cvI4 (n := 144) (μ' := μX11_gains) (cb' := 0) (sb' := 0) ml_X11_474 mo_X11_gains mv_X11_gains np_X11_gains kd_84 (g_at ck_X11_game 85 rfl) (mp_gains hL hR11 hW (hM0.fr (hD131x).1 mDay_91) ((mK.fd (hD131x)).row hs0) hσ (by rw [(hD131x).1 84 (by decide)]; exact hz0) hi1 hi0 (by omega) (by omega)) rfl rfl rfl ⟨by decide, by decide⟩ (Nat.le_of_ble_eq_true rfl) (by decide) (by decide) (fun x141 ρ9 m141 hq => ?_)
                  obtain ⟨rfl, hR12, hD141, hx141⟩ := hq
                  have hD141x := (hD131x).tr hD141
                  have hg141 := gnV_rg (hl := hl) (tl := tl) (x := ((i : Int) % 2)) (y := ((i : Int) / 2)) hW hσ hi1 hi0 (by omega)
                  rw [hx141] at hg141
                  refine tz_icmp_le (n := 147) (tgt := 150) (g_at ck_X11_game 86 rfl) rfl rfl (by omega) (fun h144 => ?_) (fun h144 => ?_)
                  · skip
                    refine tz_iinc4 (n := 153) (g_at ck_X11_game 88 rfl) rfl (by decide) g_hpI ?_
                    refine tz_iload5 (n := 155) (g_at ck_X11_game 89 rfl) rfl ?_
                    refine tz_iconst (n := 156) (g_at ck_X11_game 90 rfl) rfl ?_
                    refine tz_icmp_ne (n := 159) (tgt := 169) (g_at ck_X11_game 91 rfl) rfl rfl (by omega) (fun h156 => ?_) (fun h156 => ?_)
                    · skip
                      refine tz_iinc6 (n := 172) (g_at ck_X11_game 98 rfl) rfl (by decide) g_hpI ?_
                      refine tz_goto (tgt := 79) (g_at ck_X11_game 99 rfl) rfl ?_
                      refine tz_drop7 ?_
                      refine tz_drop8 ?_
                      have hrb := hrs.mpr ⟨by rw [hx106, hx116]; omega, by rw [hx131, hx141]; omega⟩
                      have e9 : (rsN (gmA Λ hl tl s p o) (gmB Λ hl tl s p o) (i + 1)) = ((rsN (gmA Λ hl tl s p o) (gmB Λ hl tl s p o) i).1 + 1, (rsN (gmA Λ hl tl s p o) (gmB Λ hl tl s p o) i).2) := rsS_2 hrb (fun h9 => h156 (hri.2.2.1.mp h9))
                      rw [e9] at ihi
                      exact ihi _ ⟨hR12, hD141x⟩
                    · skip
                      refine tz_bipush (n := 161) (g_at ck_X11_game 92 rfl) rfl rfl ?_
                      refine tz_iload7 (n := 163) (g_at ck_X11_game 93 rfl) rfl ?_
                      refine tz_imul (n := 164) (g_at ck_X11_game 94 rfl) rfl ?_
                      refine tz_iload8 (n := 166) (g_at ck_X11_game 95 rfl) rfl ?_
                      refine tz_iadd (n := 167) (g_at ck_X11_game 96 rfl) rfl ?_
                      refine tz_istore5 (n := 169) (g_at ck_X11_game 97 rfl) rfl (by decide) g_hpI ?_
                      refine tz_iinc6 (n := 172) (g_at ck_X11_game 98 rfl) rfl (by decide) g_hpI ?_
                      refine tz_goto (tgt := 79) (g_at ck_X11_game 99 rfl) rfl ?_
                      refine tz_drop7 ?_
                      refine tz_drop8 ?_
                      have hrb := hrs.mpr ⟨by rw [hx106, hx116]; omega, by rw [hx131, hx141]; omega⟩
                      have e9 : (rsN (gmA Λ hl tl s p o) (gmB Λ hl tl s p o) (i + 1)) = ((rsN (gmA Λ hl tl s p o) (gmB Λ hl tl s p o) i).1 + 1, 10 * ((i : Int) / 2) + (i : Int) % 2) := (rsS_1 hrb (hri.2.2.1.mpr h156)).trans (by rw [rs_d (by omega)])
                      rw [e9] at ihi
                      exact ihi _ ⟨hR12, hD141x⟩
                  · skip
                    refine tz_goto (tgt := 169) (g_at ck_X11_game 87 rfl) rfl ?_
                    refine tz_iinc6 (n := 172) (g_at ck_X11_game 98 rfl) rfl (by decide) g_hpI ?_
                    refine tz_goto (tgt := 79) (g_at ck_X11_game 99 rfl) rfl ?_
                    refine tz_drop7 ?_
                    refine tz_drop8 ?_
                    have e9 : (rsN (gmA Λ hl tl s p o) (gmB Λ hl tl s p o) (i + 1)) = (rsN (gmA Λ hl tl s p o) (gmB Λ hl tl s p o) i) := if_pos (Classical.byContradiction fun h9 => absurd (hrs.mp h9).2 (by rw [hx131, hx141]; omega))
                    rw [e9] at ihi
                    exact ihi _ ⟨hR12, hD141x⟩
            · skip
              refine tz_iconst (n := 69) (g_at ck_X11_game 38 rfl) rfl ?_
              exact tz_iret (g_at ck_X11_game 39 rfl) rfl (rI_mk ⟨rfl, hR8, hk0.tr (mK.fd (FD.rf (b := 35) (x := m0))), by rw [(FD.rf (b := 35) (x := m0)).1 84 (by decide), h00, hc0, hc1, hc2, hc3]; rfl, fun _ => if_pos (Or.inr (hmB_1 h65))⟩)
theorem dr1_rg (x : Int) : -2147483648 ≤ dr1 x ∧ dr1 x < 2147483648 := w32_rg _
