/-! The reference: looks ahead day by day. -/
theorem mp_areBoth {l : Launch} {γ : Gh} {ρ m : Mm} {p o : Int} (hL : LY ρ) (hR : MR m) (hp : 0 ≤ p ∧ p < 8) (ho : 0 ≤ o ∧ o < 8) : gE l γ μX11_areBoth 0 0 0 (rI KK fun x ρ9 m9 => ρ = ρ9 ∧ MR m9 ∧ hmB (m 103 (36 + p)) (m 103 (36 + o)) = x ∧ m = m9) xN KK ρ m [vR 84, vI p, vI o] := by
  refine gE.ofw cl_X11.2 ?_ rfl rfl (Nat.le_of_ble_eq_true rfl)
  show gT l γ μX11_areBoth 0 0 0 _ _ KK ρ m 0 [some (vR 84), some (vI p), some (vI o)] []
  refine tz_aload0 (n := 1) (g_at ck_X11_areBoth 0 rfl) rfl (g_ne kd_84) ?_
  refine tz_getAv (n := 4) (a := 103) fk_X11_75 kd_84 (ly_84_43 hL) (g_at ck_X11_areBoth 1 rfl) rfl ?_
  refine tz_bipush (n := 6) (g_at ck_X11_areBoth 2 rfl) rfl rfl ?_
  refine tz_iload1 (n := 7) (g_at ck_X11_areBoth 3 rfl) rfl ?_
  refine tz_iadd (n := 8) (g_at ck_X11_areBoth 4 rfl) rfl ?_
  refine tz_iald (n := 9) kd_103 (by omega) (g_at ck_X11_areBoth 5 rfl) rfl ?_
  refine tz_aload0 (n := 10) (g_at ck_X11_areBoth 6 rfl) rfl (g_ne kd_84) ?_
  refine tz_getAv (n := 13) (a := 103) fk_X11_75 kd_84 (ly_84_43 hL) (g_at ck_X11_areBoth 7 rfl) rfl ?_
  refine tz_bipush (n := 15) (g_at ck_X11_areBoth 8 rfl) rfl rfl ?_
  refine tz_iload2 (n := 16) (g_at ck_X11_areBoth 9 rfl) rfl ?_
  refine tz_iadd (n := 17) (g_at ck_X11_areBoth 10 rfl) rfl ?_
  refine tz_iald (n := 18) kd_103 (by omega) (g_at ck_X11_areBoth 11 rfl) rfl ?_
  refine tz_icmp_ne (n := 21) (tgt := 25) (g_at ck_X11_areBoth 12 rfl) rfl rfl ⟨(hR _ _).1, (hR _ _).2, (hR _ _).1, (hR _ _).2⟩ (fun h18 => ?_) (fun h18 => ?_)
  · skip
    refine tz_iconst (n := 26) (g_at ck_X11_areBoth 15 rfl) rfl ?_
    exact tz_bret (g_at ck_X11_areBoth 16 rfl) rfl (by decide) (rI_mk ⟨rfl, hR, if_neg h18, rfl⟩)
  · skip
    refine tz_iconst (n := 22) (g_at ck_X11_areBoth 13 rfl) rfl ?_
    refine tz_goto (tgt := 26) (g_at ck_X11_areBoth 14 rfl) rfl ?_
    exact tz_bret (g_at ck_X11_areBoth 16 rfl) rfl (by decide) (rI_mk ⟨rfl, hR, if_pos h18, rfl⟩)
theorem mp_comes {l : Launch} {γ : Gh} {ρ m : Mm} {p c : Int} (hp : -2147483648 ≤ p ∧ p < 2147483648) (hc : -2147483648 ≤ c ∧ c < 2147483648) {s : Int → Int} {Λ : Mm} {hl tl : List Int} (hL : LY ρ) (hR : MR m) (hW : WL Λ) (hM : MLand m Λ hl tl) (hs : MRow m s) (hσ : WS Λ 0 (sig0 s)) (hz : m 84 51 = 0) : gE l γ μX11_comes 6 0 0 (rI KK fun x ρ9 m9 => ρ = ρ9 ∧ MR m9 ∧ mK m m9 ∧ m9 84 0 = sq (cdP Λ p) (cdC Λ c) ∧ (sq (cdP Λ p) (cdC Λ c) = 0 → isFN (fun j => daysP Λ hl tl (sig0 s) (j) 0 (1 + p) = c) 101 x)) xN KK ρ m [vR 84, vI p, vI c] := by
  refine gE.ofw cl_X11.2 ?_ rfl rfl (Nat.le_of_ble_eq_true rfl)
  show gT l γ μX11_comes 6 0 0 _ _ KK ρ m 0 [some (vR 84), some (vI p), some (vI c), none] []
  have hn1 := hW.1
  have hn8 := hW.2.1
  refine tz_aload0 (n := 1) (g_at ck_X11_comes 0 rfl) rfl (g_ne kd_84) ?_
  refine tz_iconst (n := 2) (g_at ck_X11_comes 1 rfl) rfl ?_
  refine tz_putIr (n := 5) (kz := 0) fk_X11_132 kd_84 (g_at ck_X11_comes 2 rfl) rfl hR ⟨(by decide), (by decide)⟩ rfl (fun hR1 => ?_)
  obtain ⟨m0, e0⟩ : ∃ m0, m0 = wr m 84 0 0 := ⟨_, rfl⟩
  rw [← e0] at hR1 ⊢
  have hk0 : mK m m0 := by rw [e0]; exact mK.w0
  have hM0 := hk0.land hM
  have hs0 := hk0.row hs
  have hz0 : m0 84 51 = 0 := hk0.w51.trans hz
  have h00 : m0 84 0 = 0 := by rw [e0, wr_same]
  have hw0 := hw_0 hz0
  refine tz_aload0 (n := 6) (g_at ck_X11_comes 3 rfl) rfl (g_ne kd_84) ?_
  refine tz_iload1 (n := 7) (g_at ck_X11_comes 4 rfl) rfl ?_
  refine tz_cvI1 (n := 10) (μ' := μX11_isPerson) (cb' := 0) (sb' := 0) ml_X11_405 mo_X11_isPerson mv_X11_isPerson np_X11_isPerson kd_84 (g_at ck_X11_comes 5 rfl) (mp_isPerson hp hL hR1 hW hM0 h00) rfl rfl rfl ⟨by decide, by decide⟩ (Nat.le_of_ble_eq_true rfl) (by decide) (by decide) (fun x7 ρ9 m7 hq => ?_)
  obtain ⟨rfl, hR2, hq7⟩ := hq
  refine tz_if_eq (n := 13) (tgt := 21) (g_at ck_X11_comes 6 rfl) rfl rfl (by rcases hq7.b01 with h9 | h9 <;> omega) (fun h10 => ?_) (fun h10 => ?_)
  · skip
    refine tz_iconst (n := 22) (g_at ck_X11_comes 11 rfl) rfl ?_
    exact tz_iret (g_at ck_X11_comes 12 rfl) rfl (rI_mk ⟨rfl, hR2, by rw [(hq7.no h10).2]; exact hk0.tr mK.w0, by rw [(hq7.no h10).2, wr_same, sqn (hq7.no h10).1], fun h9 => absurd h9 (by rw [sqn (hq7.no h10).1]; exact (hq7.no h10).1)⟩)
  · skip
    obtain ⟨hc0, rfl⟩ := hq7.ok h10
    have hi0 := cdP_i hc0
    refine tz_aload0 (n := 14) (g_at ck_X11_comes 7 rfl) rfl (g_ne kd_84) ?_
    refine tz_iload2 (n := 15) (g_at ck_X11_comes 8 rfl) rfl ?_
    refine tz_cvI1 (n := 18) (μ' := μX11_isCrossing) (cb' := 0) (sb' := 0) ml_X11_393 mo_X11_isCrossing mv_X11_isCrossing np_X11_isCrossing kd_84 (g_at ck_X11_comes 9 rfl) (mp_isCrossing hc hL hR2 hW hM0 h00) rfl rfl rfl ⟨by decide, by decide⟩ (Nat.le_of_ble_eq_true rfl) (by decide) (by decide) (fun x15 ρ9 m15 hq => ?_)
    obtain ⟨rfl, hR3, hq15⟩ := hq
    refine tz_if_ne (n := 21) (tgt := 23) (g_at ck_X11_comes 10 rfl) rfl rfl (by rcases hq15.b01 with h9 | h9 <;> omega) (fun h18 => ?_) (fun h18 => ?_)
    · skip
      obtain ⟨hc1, rfl⟩ := hq15.ok h18
      have hi1 := cdC_i hc1
      refine tz_aload0 (n := 24) (g_at ck_X11_comes 13 rfl) rfl (g_ne kd_84) ?_
      refine tz_cvV0 (n := 27) (μ' := μX11_tries) (cb' := 0) (sb' := 0) ml_X11_356 mo_X11_tries mv_X11_tries np_X11_tries kd_84 (g_at ck_X11_comes 14 rfl) (mp_tries (Λ := Λ) hL hR3 hs0) rfl rfl rfl ⟨by decide, by decide⟩ (Nat.le_of_ble_eq_true rfl) (by decide) (by decide) (fun ρ9 m24 hq => ?_)
      obtain ⟨rfl, hR4, hT24, hD24⟩ := hq
      refine tz_iconst (n := 28) (g_at ck_X11_comes 15 rfl) rfl ?_
      refine tz_istore3 (n := 29) (g_at ck_X11_comes 16 rfl) rfl (by decide) g_hpI ?_
      refine g_for (fun i : Nat => ∀ m1 : Mm, (MR m1 ∧ MT m1 35 Λ z00 (daysP Λ hl tl (sig0 s) (i)) ∧ FD 35 m0 m1 ∧ (∀ j : Nat, j < i → ¬ (daysP Λ hl tl (sig0 s) (j) 0 (1 + p) = c))) → gT l γ μX11_comes 6 0 0 _ _ KK ρ m1 29 [some (vR 84), some (vI p), some (vI c), some (vI (i : Int))] []) 101 ?_ (fun i hi ihi => ?_) 0 (Nat.zero_le _) _ ⟨hR4, hT24, hD24, fun j h9 => absurd h9 (Nat.not_lt_zero _)⟩
      · intro m1 hinv
        obtain ⟨hRi, hTi, hDi, hno⟩ := hinv
        have hσi := daysP_WS (hl := hl) (tl := tl) hW hσ (Int.le_refl 0) (101)
        refine tz_iload3 (n := 30) (g_at ck_X11_comes 17 rfl) rfl ?_
        refine tz_bipush (n := 32) (g_at ck_X11_comes 18 rfl) rfl rfl ?_
        refine tz_icmp_gt (n := 35) (tgt := 62) (g_at ck_X11_comes 19 rfl) rfl rfl ⟨(by omega), (by omega), (by decide), (by decide)⟩ (fun h32 => ?_) (fun h32 => absurd h32 (by omega))
        refine tz_iconst (n := 63) (g_at ck_X11_comes 35 rfl) rfl ?_
        exact tz_iret (g_at ck_X11_comes 36 rfl) rfl (rI_mk ⟨rfl, hRi, hk0.tr (mK.fd hDi), by rw [hDi.1 84 (by decide), h00, hc0, hc1]; rfl, fun _ => Or.inl ⟨rfl, hno⟩⟩)
      · intro m1 hinv
        obtain ⟨hRi, hTi, hDi, hno⟩ := hinv
        have hσi := daysP_WS (hl := hl) (tl := tl) hW hσ (Int.le_refl 0) i
        have hp1 := hσi.2.1 p hi0.1 hi0.2
        refine tz_iload3 (n := 30) (g_at ck_X11_comes 17 rfl) rfl ?_
        refine tz_bipush (n := 32) (g_at ck_X11_comes 18 rfl) rfl rfl ?_
        refine tz_icmp_gt (n := 35) (tgt := 62) (g_at ck_X11_comes 19 rfl) rfl rfl ⟨(by omega), (by omega), (by decide), (by decide)⟩ (fun h32 => absurd h32 (by omega)) (fun h32 => ?_)
        refine tz_aload0 (n := 36) (g_at ck_X11_comes 20 rfl) rfl (g_ne kd_84) ?_
        refine tz_getAv (n := 39) (a := 103) fk_X11_75 kd_84 (ly_84_43 hL) (g_at ck_X11_comes 21 rfl) rfl ?_
        refine tz_bipush (n := 41) (g_at ck_X11_comes 22 rfl) rfl rfl ?_
        refine tz_iload1 (n := 42) (g_at ck_X11_comes 23 rfl) rfl ?_
        refine tz_iadd (n := 43) (g_at ck_X11_comes 24 rfl) rfl ?_
        refine tz_iald (n := 44) kd_103 (by omega) (g_at ck_X11_comes 25 rfl) rfl ?_
        rw [hTi.r (k := 1 + p) (by omega) (by omega)]
        refine tz_iload2 (n := 45) (g_at ck_X11_comes 26 rfl) rfl ?_
        refine tz_icmp_ne (n := 48) (tgt := 50) (g_at ck_X11_comes 27 rfl) rfl rfl (by omega) (fun h45 => ?_) (fun h45 => ?_)
        · skip
          refine tz_aload0 (n := 51) (g_at ck_X11_comes 30 rfl) rfl (g_ne kd_84) ?_
          refine tz_bipush (n := 53) (g_at ck_X11_comes 31 rfl) rfl rfl ?_
          refine tz_cvV1 (n := 56) (μ' := μX11_dayGoes) (cb' := 0) (sb' := 0) ml_X11_353 mo_X11_dayGoes mv_X11_dayGoes np_X11_dayGoes kd_84 (g_at ck_X11_comes 32 rfl) (mp_dayGoes hL hRi hW (hM0.fr hDi.1 mDay_91) hTi hσi (by omega) (Or.inr rfl) (hw_fr hw0 hDi)) rfl rfl rfl ⟨by decide, by decide⟩ (Nat.le_of_ble_eq_true rfl) (by decide) (by decide) (fun ρ9 m53 hq => ?_)
          obtain ⟨rfl, hR5, hT53, hD53⟩ := hq
          have hT9 : MT m53 35 Λ z00 (daysP Λ hl tl (sig0 s) (i + 1)) := hT53
          have hD9 := hDi.tr hD53
          have hσ9 := daysP_WS (hl := hl) (tl := tl) hW hσ (Int.le_refl 0) (i + 1)
          refine tz_iinc3 (n := 59) (g_at ck_X11_comes 33 rfl) rfl (by decide) g_hpI ?_
          refine tz_goto (tgt := 29) (g_at ck_X11_comes 34 rfl) rfl ?_
          exact ihi _ ⟨hR5, hT9, hD9, no_step hno h45⟩
        · skip
          refine tz_iload3 (n := 49) (g_at ck_X11_comes 28 rfl) rfl ?_
          exact tz_iret (g_at ck_X11_comes 29 rfl) rfl (rI_mk ⟨rfl, hRi, hk0.tr (mK.fd hDi), by rw [hDi.1 84 (by decide), h00, hc0, hc1]; rfl, fun _ => Or.inr ⟨i, rfl, by omega, h45, hno⟩⟩)
    · skip
      refine tz_iconst (n := 22) (g_at ck_X11_comes 11 rfl) rfl ?_
      exact tz_iret (g_at ck_X11_comes 12 rfl) rfl (rI_mk ⟨rfl, hR3, by rw [(hq15.no h18).2]; exact hk0.tr mK.w0, by rw [(hq15.no h18).2, wr_same, hc0, sq0], fun h9 => absurd h9 (by rw [hc0, sq0]; exact (hq15.no h18).1)⟩)
theorem mp_meet {l : Launch} {γ : Gh} {ρ m : Mm} {p o : Int} (hp : -2147483648 ≤ p ∧ p < 2147483648) (ho : -2147483648 ≤ o ∧ o < 2147483648) {s : Int → Int} {Λ : Mm} {hl tl : List Int} (hL : LY ρ) (hR : MR m) (hW : WL Λ) (hM : MLand m Λ hl tl) (hs : MRow m s) (hσ : WS Λ 0 (sig0 s)) (hz : m 84 51 = 0) : gE l γ μX11_meet 6 0 0 (rI KK fun x ρ9 m9 => ρ = ρ9 ∧ MR m9 ∧ mK m m9 ∧ m9 84 0 = sq (cdP Λ p) (cdP Λ o) ∧ (sq (cdP Λ p) (cdP Λ o) = 0 → (p = o → x = -1) ∧ (p ≠ o → isFN (fun j => daysP Λ hl tl (sig0 s) (j) 0 (1 + p) = daysP Λ hl tl (sig0 s) (j) 0 (1 + o)) 101 x))) xN KK ρ m [vR 84, vI p, vI o] := by
  refine gE.ofw cl_X11.2 ?_ rfl rfl (Nat.le_of_ble_eq_true rfl)
  show gT l γ μX11_meet 6 0 0 _ _ KK ρ m 0 [some (vR 84), some (vI p), some (vI o), none] []
  have hn1 := hW.1
  have hn8 := hW.2.1
  refine tz_aload0 (n := 1) (g_at ck_X11_meet 0 rfl) rfl (g_ne kd_84) ?_
  refine tz_iconst (n := 2) (g_at ck_X11_meet 1 rfl) rfl ?_
  refine tz_putIr (n := 5) (kz := 0) fk_X11_132 kd_84 (g_at ck_X11_meet 2 rfl) rfl hR ⟨(by decide), (by decide)⟩ rfl (fun hR1 => ?_)
  obtain ⟨m0, e0⟩ : ∃ m0, m0 = wr m 84 0 0 := ⟨_, rfl⟩
  rw [← e0] at hR1 ⊢
  have hk0 : mK m m0 := by rw [e0]; exact mK.w0
  have hM0 := hk0.land hM
  have hs0 := hk0.row hs
  have hz0 : m0 84 51 = 0 := hk0.w51.trans hz
  have h00 : m0 84 0 = 0 := by rw [e0, wr_same]
  have hw0 := hw_0 hz0
  refine tz_aload0 (n := 6) (g_at ck_X11_meet 3 rfl) rfl (g_ne kd_84) ?_
  refine tz_iload1 (n := 7) (g_at ck_X11_meet 4 rfl) rfl ?_
  refine tz_cvI1 (n := 10) (μ' := μX11_isPerson) (cb' := 0) (sb' := 0) ml_X11_405 mo_X11_isPerson mv_X11_isPerson np_X11_isPerson kd_84 (g_at ck_X11_meet 5 rfl) (mp_isPerson hp hL hR1 hW hM0 h00) rfl rfl rfl ⟨by decide, by decide⟩ (Nat.le_of_ble_eq_true rfl) (by decide) (by decide) (fun x7 ρ9 m7 hq => ?_)
  obtain ⟨rfl, hR2, hq7⟩ := hq
  refine tz_if_eq (n := 13) (tgt := 21) (g_at ck_X11_meet 6 rfl) rfl rfl (by rcases hq7.b01 with h9 | h9 <;> omega) (fun h10 => ?_) (fun h10 => ?_)
  · skip
    refine tz_iconst (n := 22) (g_at ck_X11_meet 11 rfl) rfl ?_
    exact tz_iret (g_at ck_X11_meet 12 rfl) rfl (rI_mk ⟨rfl, hR2, by rw [(hq7.no h10).2]; exact hk0.tr mK.w0, by rw [(hq7.no h10).2, wr_same, sqn (hq7.no h10).1], fun h9 => absurd h9 (by rw [sqn (hq7.no h10).1]; exact (hq7.no h10).1)⟩)
  · skip
    obtain ⟨hc0, rfl⟩ := hq7.ok h10
    have hi0 := cdP_i hc0
    refine tz_aload0 (n := 14) (g_at ck_X11_meet 7 rfl) rfl (g_ne kd_84) ?_
    refine tz_iload2 (n := 15) (g_at ck_X11_meet 8 rfl) rfl ?_
    refine tz_cvI1 (n := 18) (μ' := μX11_isPerson) (cb' := 0) (sb' := 0) ml_X11_405 mo_X11_isPerson mv_X11_isPerson np_X11_isPerson kd_84 (g_at ck_X11_meet 9 rfl) (mp_isPerson ho hL hR2 hW hM0 h00) rfl rfl rfl ⟨by decide, by decide⟩ (Nat.le_of_ble_eq_true rfl) (by decide) (by decide) (fun x15 ρ9 m15 hq => ?_)
    obtain ⟨rfl, hR3, hq15⟩ := hq
    refine tz_if_ne (n := 21) (tgt := 23) (g_at ck_X11_meet 10 rfl) rfl rfl (by rcases hq15.b01 with h9 | h9 <;> omega) (fun h18 => ?_) (fun h18 => ?_)
    · skip
      obtain ⟨hc1, rfl⟩ := hq15.ok h18
      have hi1 := cdP_i hc1
      refine tz_aload0 (n := 24) (g_at ck_X11_meet 13 rfl) rfl (g_ne kd_84) ?_
      refine tz_cvV0 (n := 27) (μ' := μX11_tries) (cb' := 0) (sb' := 0) ml_X11_356 mo_X11_tries mv_X11_tries np_X11_tries kd_84 (g_at ck_X11_meet 14 rfl) (mp_tries (Λ := Λ) hL hR3 hs0) rfl rfl rfl ⟨by decide, by decide⟩ (Nat.le_of_ble_eq_true rfl) (by decide) (by decide) (fun ρ9 m24 hq => ?_)
      obtain ⟨rfl, hR4, hT24, hD24⟩ := hq
      refine tz_iconst (n := 28) (g_at ck_X11_meet 15 rfl) rfl ?_
      refine tz_istore3 (n := 29) (g_at ck_X11_meet 16 rfl) rfl (by decide) g_hpI ?_
      refine g_for (fun i : Nat => ∀ m1 : Mm, (MR m1 ∧ MT m1 35 Λ z00 (daysP Λ hl tl (sig0 s) (i)) ∧ FD 35 m0 m1 ∧ (∀ j : Nat, j < i → ¬ (daysP Λ hl tl (sig0 s) (j) 0 (1 + p) = daysP Λ hl tl (sig0 s) (j) 0 (1 + o))) ∧ (0 < i → p ≠ o)) → gT l γ μX11_meet 6 0 0 _ _ KK ρ m1 29 [some (vR 84), some (vI p), some (vI o), some (vI (i : Int))] []) 101 ?_ (fun i hi ihi => ?_) 0 (Nat.zero_le _) _ ⟨hR4, hT24, hD24, fun j h9 => absurd h9 (Nat.not_lt_zero _), fun h9 => absurd h9 (by decide)⟩
      · intro m1 hinv
        obtain ⟨hRi, hTi, hDi, hno, hpo⟩ := hinv
        have hσi := daysP_WS (hl := hl) (tl := tl) hW hσ (Int.le_refl 0) (101)
        refine tz_iload3 (n := 30) (g_at ck_X11_meet 17 rfl) rfl ?_
        refine tz_bipush (n := 32) (g_at ck_X11_meet 18 rfl) rfl rfl ?_
        refine tz_icmp_gt (n := 35) (tgt := 63) (g_at ck_X11_meet 19 rfl) rfl rfl ⟨(by omega), (by omega), (by decide), (by decide)⟩ (fun h32 => ?_) (fun h32 => absurd h32 (by omega))
        refine tz_iconst (n := 64) (g_at ck_X11_meet 35 rfl) rfl ?_
        exact tz_iret (g_at ck_X11_meet 36 rfl) rfl (rI_mk ⟨rfl, hRi, hk0.tr (mK.fd hDi), by rw [hDi.1 84 (by decide), h00, hc0, hc1]; rfl, fun _ => ⟨fun _ => rfl, fun _ => Or.inl ⟨rfl, hno⟩⟩⟩)
      · intro m1 hinv
        obtain ⟨hRi, hTi, hDi, hno, hpo⟩ := hinv
        have hσi := daysP_WS (hl := hl) (tl := tl) hW hσ (Int.le_refl 0) i
        have hp1 := hσi.2.1 p hi0.1 hi0.2
        refine tz_iload3 (n := 30) (g_at ck_X11_meet 17 rfl) rfl ?_
        refine tz_bipush (n := 32) (g_at ck_X11_meet 18 rfl) rfl rfl ?_
        refine tz_icmp_gt (n := 35) (tgt := 63) (g_at ck_X11_meet 19 rfl) rfl rfl ⟨(by omega), (by omega), (by decide), (by decide)⟩ (fun h32 => absurd h32 (by omega)) (fun h32 => ?_)
        refine tz_iload1 (n := 36) (g_at ck_X11_meet 20 rfl) rfl ?_
        refine tz_iload2 (n := 37) (g_at ck_X11_meet 21 rfl) rfl ?_
        refine tz_icmp_eq (n := 40) (tgt := 63) (g_at ck_X11_meet 22 rfl) rfl rfl ⟨(by omega), (by omega), (by omega), (by omega)⟩ (fun h37 => ?_) (fun h37 => ?_)
        · skip
          refine tz_iconst (n := 64) (g_at ck_X11_meet 35 rfl) rfl ?_
          exact tz_iret (g_at ck_X11_meet 36 rfl) rfl (rI_mk ⟨rfl, hRi, hk0.tr (mK.fd hDi), by rw [hDi.1 84 (by decide), h00, hc0, hc1]; rfl, fun _ => ⟨fun _ => rfl, fun h9 => absurd h37 h9⟩⟩)
        · skip
          refine tz_aload0 (n := 41) (g_at ck_X11_meet 23 rfl) rfl (g_ne kd_84) ?_
          refine tz_iload1 (n := 42) (g_at ck_X11_meet 24 rfl) rfl ?_
          refine tz_iload2 (n := 43) (g_at ck_X11_meet 25 rfl) rfl ?_
          refine tz_cvI2 (n := 46) (μ' := μX11_areBoth) (cb' := 0) (sb' := 0) ml_X11_423 mo_X11_areBoth mv_X11_areBoth np_X11_areBoth kd_84 (g_at ck_X11_meet 26 rfl) (mp_areBoth hL hRi (by omega) (by omega)) rfl rfl rfl ⟨by decide, by decide⟩ (Nat.le_of_ble_eq_true rfl) (by decide) (by decide) (fun x43 ρ9 m43 hq => ?_)
          obtain ⟨rfl, hR5, rfl, rfl⟩ := hq
          rw [hTi.r (k := 1 + p) (by omega) (by omega), hTi.r (k := 1 + o) (by omega) (by omega)]
          refine tz_if_eq (n := 49) (tgt := 51) (g_at ck_X11_meet 27 rfl) rfl rfl (by have h9 := hmB_01 ((daysP Λ hl tl (sig0 s) (i)) 0 (1 + p)) ((daysP Λ hl tl (sig0 s) (i)) 0 (1 + o)); omega) (fun h46 => ?_) (fun h46 => ?_)
          · skip
            refine tz_aload0 (n := 52) (g_at ck_X11_meet 30 rfl) rfl (g_ne kd_84) ?_
            refine tz_bipush (n := 54) (g_at ck_X11_meet 31 rfl) rfl rfl ?_
            refine tz_cvV1 (n := 57) (μ' := μX11_dayGoes) (cb' := 0) (sb' := 0) ml_X11_353 mo_X11_dayGoes mv_X11_dayGoes np_X11_dayGoes kd_84 (g_at ck_X11_meet 32 rfl) (mp_dayGoes hL hR5 hW (hM0.fr hDi.1 mDay_91) hTi hσi (by omega) (Or.inr rfl) (hw_fr hw0 hDi)) rfl rfl rfl ⟨by decide, by decide⟩ (Nat.le_of_ble_eq_true rfl) (by decide) (by decide) (fun ρ9 m54 hq => ?_)
            obtain ⟨rfl, hR6, hT54, hD54⟩ := hq
            have hT9 : MT m54 35 Λ z00 (daysP Λ hl tl (sig0 s) (i + 1)) := hT54
            have hD9 := hDi.tr hD54
            have hσ9 := daysP_WS (hl := hl) (tl := tl) hW hσ (Int.le_refl 0) (i + 1)
            refine tz_iinc3 (n := 60) (g_at ck_X11_meet 33 rfl) rfl (by decide) g_hpI ?_
            refine tz_goto (tgt := 29) (g_at ck_X11_meet 34 rfl) rfl ?_
            exact ihi _ ⟨hR6, hT9, hD9, no_step hno (hmB_0 h46), fun _ => h37⟩
          · skip
            refine tz_iload3 (n := 50) (g_at ck_X11_meet 28 rfl) rfl ?_
            exact tz_iret (g_at ck_X11_meet 29 rfl) rfl (rI_mk ⟨rfl, hR5, hk0.tr (mK.fd hDi), by rw [hDi.1 84 (by decide), h00, hc0, hc1]; rfl, fun _ => ⟨fun h9 => absurd h9 h37, fun _ => Or.inr ⟨i, rfl, by omega, hmB_1 h46, hno⟩⟩⟩)
    · skip
      refine tz_iconst (n := 22) (g_at ck_X11_meet 11 rfl) rfl ?_
      exact tz_iret (g_at ck_X11_meet 12 rfl) rfl (rI_mk ⟨rfl, hR3, by rw [(hq15.no h18).2]; exact hk0.tr mK.w0, by rw [(hq15.no h18).2, wr_same, hc0, sq0], fun h9 => absurd h9 (by rw [hc0, sq0]; exact (hq15.no h18).1)⟩)
theorem mp_parting {l : Launch} {γ : Gh} {ρ m : Mm} {p o : Int} (hp : -2147483648 ≤ p ∧ p < 2147483648) (ho : -2147483648 ≤ o ∧ o < 2147483648) {s : Int → Int} {Λ : Mm} {hl tl : List Int} (hL : LY ρ) (hR : MR m) (hW : WL Λ) (hM : MLand m Λ hl tl) (hs : MRow m s) (hσ : WS Λ 0 (sig0 s)) (hz : m 84 51 = 0) : gE l γ μX11_parting 6 0 0 (rI KK fun x ρ9 m9 => ρ = ρ9 ∧ MR m9 ∧ mK m m9 ∧ m9 84 0 = sq (cdP Λ p) (cdP Λ o) ∧ (sq (cdP Λ p) (cdP Λ o) = 0 → ((p = o ∨ s (1 + p) ≠ s (1 + o)) → x = -1) ∧ (¬ (p = o ∨ s (1 + p) ≠ s (1 + o)) → isF1 (fun j => ¬ (daysP Λ hl tl (sig0 s) (j + 1) 0 (1 + p) = daysP Λ hl tl (sig0 s) (j + 1) 0 (1 + o))) 100 x))) xN KK ρ m [vR 84, vI p, vI o] := by
  refine gE.ofw cl_X11.2 ?_ rfl rfl (Nat.le_of_ble_eq_true rfl)
  show gT l γ μX11_parting 6 0 0 _ _ KK ρ m 0 [some (vR 84), some (vI p), some (vI o), none, none] []
  have hn1 := hW.1
  have hn8 := hW.2.1
  refine tz_aload0 (n := 1) (g_at ck_X11_parting 0 rfl) rfl (g_ne kd_84) ?_
  refine tz_iconst (n := 2) (g_at ck_X11_parting 1 rfl) rfl ?_
  refine tz_putIr (n := 5) (kz := 0) fk_X11_132 kd_84 (g_at ck_X11_parting 2 rfl) rfl hR ⟨(by decide), (by decide)⟩ rfl (fun hR1 => ?_)
  obtain ⟨m0, e0⟩ : ∃ m0, m0 = wr m 84 0 0 := ⟨_, rfl⟩
  rw [← e0] at hR1 ⊢
  have hk0 : mK m m0 := by rw [e0]; exact mK.w0
  have hM0 := hk0.land hM
  have hs0 := hk0.row hs
  have hz0 : m0 84 51 = 0 := hk0.w51.trans hz
  have h00 : m0 84 0 = 0 := by rw [e0, wr_same]
  have hw0 := hw_0 hz0
  refine tz_aload0 (n := 6) (g_at ck_X11_parting 3 rfl) rfl (g_ne kd_84) ?_
  refine tz_iload1 (n := 7) (g_at ck_X11_parting 4 rfl) rfl ?_
  refine tz_cvI1 (n := 10) (μ' := μX11_isPerson) (cb' := 0) (sb' := 0) ml_X11_405 mo_X11_isPerson mv_X11_isPerson np_X11_isPerson kd_84 (g_at ck_X11_parting 5 rfl) (mp_isPerson hp hL hR1 hW hM0 h00) rfl rfl rfl ⟨by decide, by decide⟩ (Nat.le_of_ble_eq_true rfl) (by decide) (by decide) (fun x7 ρ9 m7 hq => ?_)
  obtain ⟨rfl, hR2, hq7⟩ := hq
  refine tz_if_eq (n := 13) (tgt := 21) (g_at ck_X11_parting 6 rfl) rfl rfl (by rcases hq7.b01 with h9 | h9 <;> omega) (fun h10 => ?_) (fun h10 => ?_)
  · skip
    refine tz_iconst (n := 22) (g_at ck_X11_parting 11 rfl) rfl ?_
    exact tz_iret (g_at ck_X11_parting 12 rfl) rfl (rI_mk ⟨rfl, hR2, by rw [(hq7.no h10).2]; exact hk0.tr mK.w0, by rw [(hq7.no h10).2, wr_same, sqn (hq7.no h10).1], fun h9 => absurd h9 (by rw [sqn (hq7.no h10).1]; exact (hq7.no h10).1)⟩)
  · skip
    obtain ⟨hc0, rfl⟩ := hq7.ok h10
    have hi0 := cdP_i hc0
    refine tz_aload0 (n := 14) (g_at ck_X11_parting 7 rfl) rfl (g_ne kd_84) ?_
    refine tz_iload2 (n := 15) (g_at ck_X11_parting 8 rfl) rfl ?_
    refine tz_cvI1 (n := 18) (μ' := μX11_isPerson) (cb' := 0) (sb' := 0) ml_X11_405 mo_X11_isPerson mv_X11_isPerson np_X11_isPerson kd_84 (g_at ck_X11_parting 9 rfl) (mp_isPerson ho hL hR2 hW hM0 h00) rfl rfl rfl ⟨by decide, by decide⟩ (Nat.le_of_ble_eq_true rfl) (by decide) (by decide) (fun x15 ρ9 m15 hq => ?_)
    obtain ⟨rfl, hR3, hq15⟩ := hq
    refine tz_if_ne (n := 21) (tgt := 23) (g_at ck_X11_parting 10 rfl) rfl rfl (by rcases hq15.b01 with h9 | h9 <;> omega) (fun h18 => ?_) (fun h18 => ?_)
    · skip
      obtain ⟨hc1, rfl⟩ := hq15.ok h18
      have hi1 := cdP_i hc1
      refine tz_aload0 (n := 24) (g_at ck_X11_parting 13 rfl) rfl (g_ne kd_84) ?_
      refine tz_cvV0 (n := 27) (μ' := μX11_tries) (cb' := 0) (sb' := 0) ml_X11_356 mo_X11_tries mv_X11_tries np_X11_tries kd_84 (g_at ck_X11_parting 14 rfl) (mp_tries (Λ := Λ) hL hR3 hs0) rfl rfl rfl ⟨by decide, by decide⟩ (Nat.le_of_ble_eq_true rfl) (by decide) (by decide) (fun ρ9 m24 hq => ?_)
      obtain ⟨rfl, hR4, hT24, hD24⟩ := hq
      refine tz_iload1 (n := 28) (g_at ck_X11_parting 15 rfl) rfl ?_
      refine tz_iload2 (n := 29) (g_at ck_X11_parting 16 rfl) rfl ?_
      refine tz_icmp_eq (n := 32) (tgt := 45) (g_at ck_X11_parting 17 rfl) rfl rfl ⟨hp.1, hp.2, ho.1, ho.2⟩ (fun h29 => ?_) (fun h29 => ?_)
      · skip
        refine tz_iconst (n := 46) (g_at ck_X11_parting 25 rfl) rfl ?_
        refine tz_istore3 (n := 47) (g_at ck_X11_parting 26 rfl) rfl (by decide) g_hpI ?_
        refine tz_iconst (n := 48) (g_at ck_X11_parting 27 rfl) rfl ?_
        refine tz_istore4 (n := 50) (g_at ck_X11_parting 28 rfl) rfl (by decide) g_hpI ?_
        refine tz_iload4 (n := 52) (g_at ck_X11_parting 29 rfl) rfl ?_
        refine tz_bipush (n := 54) (g_at ck_X11_parting 30 rfl) rfl rfl ?_
        refine tz_icmp_gt (n := 57) (tgt := 85) (g_at ck_X11_parting 31 rfl) rfl rfl (by omega) (fun h54 => absurd h54 (by omega)) (fun h54 => ?_)
        refine tz_iload3 (n := 58) (g_at ck_X11_parting 32 rfl) rfl ?_
        refine tz_if_eq (n := 61) (tgt := 85) (g_at ck_X11_parting 33 rfl) rfl rfl ⟨(by decide), (by decide)⟩ (fun h58 => ?_) (fun h58 => absurd h58 (by omega))
        refine tz_iconst (n := 86) (g_at ck_X11_parting 46 rfl) rfl ?_
        exact tz_iret (g_at ck_X11_parting 47 rfl) rfl (rI_mk ⟨rfl, hR4, hk0.tr (mK.fd hD24), by rw [hD24.1 84 (by decide), h00, hc0, hc1]; rfl, fun _ => ⟨fun _ => rfl, fun h9 => absurd (Or.inl h29) h9⟩⟩)
      · skip
        refine tz_aload0 (n := 33) (g_at ck_X11_parting 18 rfl) rfl (g_ne kd_84) ?_
        refine tz_iload1 (n := 34) (g_at ck_X11_parting 19 rfl) rfl ?_
        refine tz_iload2 (n := 35) (g_at ck_X11_parting 20 rfl) rfl ?_
        refine tz_cvI2 (n := 38) (μ' := μX11_areBoth) (cb' := 0) (sb' := 0) ml_X11_423 mo_X11_areBoth mv_X11_areBoth np_X11_areBoth kd_84 (g_at ck_X11_parting 21 rfl) (mp_areBoth hL hR4 (by omega) (by omega)) rfl rfl rfl ⟨by decide, by decide⟩ (Nat.le_of_ble_eq_true rfl) (by decide) (by decide) (fun x35 ρ9 m35 hq => ?_)
        obtain ⟨rfl, hR5, rfl, rfl⟩ := hq
        rw [hT24.r (k := 1 + p) (by omega) (by omega), hT24.r (k := 1 + o) (by omega) (by omega)]
        refine tz_if_eq (n := 41) (tgt := 45) (g_at ck_X11_parting 22 rfl) rfl rfl (by have h9 := hmB_01 ((sig0 s) 0 (1 + p)) ((sig0 s) 0 (1 + o)); omega) (fun h38 => ?_) (fun h38 => ?_)
        · skip
          refine tz_iconst (n := 46) (g_at ck_X11_parting 25 rfl) rfl ?_
          refine tz_istore3 (n := 47) (g_at ck_X11_parting 26 rfl) rfl (by decide) g_hpI ?_
          refine tz_iconst (n := 48) (g_at ck_X11_parting 27 rfl) rfl ?_
          refine tz_istore4 (n := 50) (g_at ck_X11_parting 28 rfl) rfl (by decide) g_hpI ?_
          refine tz_iload4 (n := 52) (g_at ck_X11_parting 29 rfl) rfl ?_
          refine tz_bipush (n := 54) (g_at ck_X11_parting 30 rfl) rfl rfl ?_
          refine tz_icmp_gt (n := 57) (tgt := 85) (g_at ck_X11_parting 31 rfl) rfl rfl (by omega) (fun h54 => absurd h54 (by omega)) (fun h54 => ?_)
          refine tz_iload3 (n := 58) (g_at ck_X11_parting 32 rfl) rfl ?_
          refine tz_if_eq (n := 61) (tgt := 85) (g_at ck_X11_parting 33 rfl) rfl rfl ⟨(by decide), (by decide)⟩ (fun h58 => ?_) (fun h58 => absurd h58 (by omega))
          refine tz_iconst (n := 86) (g_at ck_X11_parting 46 rfl) rfl ?_
          exact tz_iret (g_at ck_X11_parting 47 rfl) rfl (rI_mk ⟨rfl, hR5, hk0.tr (mK.fd hD24), by rw [hD24.1 84 (by decide), h00, hc0, hc1]; rfl, fun _ => ⟨fun _ => rfl, fun h9 => absurd (Or.inr (hmB_0 h38)) h9⟩⟩)
        · skip
          refine tz_iconst (n := 42) (g_at ck_X11_parting 23 rfl) rfl ?_
          refine tz_goto (tgt := 46) (g_at ck_X11_parting 24 rfl) rfl ?_
          refine tz_istore3 (n := 47) (g_at ck_X11_parting 26 rfl) rfl (by decide) g_hpI ?_
          refine tz_iconst (n := 48) (g_at ck_X11_parting 27 rfl) rfl ?_
          refine tz_istore4 (n := 50) (g_at ck_X11_parting 28 rfl) rfl (by decide) g_hpI ?_
          refine g_for (fun i : Nat => ∀ m1 : Mm, (MR m1 ∧ MT m1 35 Λ z00 (daysP Λ hl tl (sig0 s) (i)) ∧ FD 35 m0 m1 ∧ (∀ j : Nat, j < i → ¬ (¬ (daysP Λ hl tl (sig0 s) (j + 1) 0 (1 + p) = daysP Λ hl tl (sig0 s) (j + 1) 0 (1 + o))))) → gT l γ μX11_parting 6 0 0 _ _ KK ρ m1 50 [some (vR 84), some (vI p), some (vI o), some (vI 1), some (vI (1 + (i : Int)))] []) 100 ?_ (fun i hi ihi => ?_) 0 (Nat.zero_le _) _ ⟨hR5, hT24, hD24, fun j h9 => absurd h9 (Nat.not_lt_zero _)⟩
          · intro m1 hinv
            obtain ⟨hRi, hTi, hDi, hno⟩ := hinv
            have hσi := daysP_WS (hl := hl) (tl := tl) hW hσ (Int.le_refl 0) (100)
            refine tz_iload4 (n := 52) (g_at ck_X11_parting 29 rfl) rfl ?_
            refine tz_bipush (n := 54) (g_at ck_X11_parting 30 rfl) rfl rfl ?_
            refine tz_icmp_gt (n := 57) (tgt := 85) (g_at ck_X11_parting 31 rfl) rfl rfl (by omega) (fun h54 => ?_) (fun h54 => absurd h54 (by omega))
            refine tz_iconst (n := 86) (g_at ck_X11_parting 46 rfl) rfl ?_
            exact tz_iret (g_at ck_X11_parting 47 rfl) rfl (rI_mk ⟨rfl, hRi, hk0.tr (mK.fd hDi), by rw [hDi.1 84 (by decide), h00, hc0, hc1]; rfl, fun _ => ⟨fun _ => rfl, fun _ => Or.inl ⟨rfl, hno⟩⟩⟩)
          · intro m1 hinv
            obtain ⟨hRi, hTi, hDi, hno⟩ := hinv
            have hσi := daysP_WS (hl := hl) (tl := tl) hW hσ (Int.le_refl 0) i
            refine tz_iload4 (n := 52) (g_at ck_X11_parting 29 rfl) rfl ?_
            refine tz_bipush (n := 54) (g_at ck_X11_parting 30 rfl) rfl rfl ?_
            refine tz_icmp_gt (n := 57) (tgt := 85) (g_at ck_X11_parting 31 rfl) rfl rfl (by omega) (fun h54 => absurd h54 (by omega)) (fun h54 => ?_)
            refine tz_iload3 (n := 58) (g_at ck_X11_parting 32 rfl) rfl ?_
            refine tz_if_eq (n := 61) (tgt := 85) (g_at ck_X11_parting 33 rfl) rfl rfl ⟨(by omega), (by omega)⟩ (fun h58 => absurd h58 (by omega)) (fun h58 => ?_)
            refine tz_aload0 (n := 62) (g_at ck_X11_parting 34 rfl) rfl (g_ne kd_84) ?_
            refine tz_bipush (n := 64) (g_at ck_X11_parting 35 rfl) rfl rfl ?_
            refine tz_cvV1 (n := 67) (μ' := μX11_dayGoes) (cb' := 0) (sb' := 0) ml_X11_353 mo_X11_dayGoes mv_X11_dayGoes np_X11_dayGoes kd_84 (g_at ck_X11_parting 36 rfl) (mp_dayGoes hL hRi hW (hM0.fr hDi.1 mDay_91) hTi hσi (by omega) (Or.inr rfl) (hw_fr hw0 hDi)) rfl rfl rfl ⟨by decide, by decide⟩ (Nat.le_of_ble_eq_true rfl) (by decide) (by decide) (fun ρ9 m64 hq => ?_)
            obtain ⟨rfl, hR6, hT64, hD64⟩ := hq
            have hT9 : MT m64 35 Λ z00 (daysP Λ hl tl (sig0 s) (i + 1)) := hT64
            have hD9 := hDi.tr hD64
            have hσ9 := daysP_WS (hl := hl) (tl := tl) hW hσ (Int.le_refl 0) (i + 1)
            refine tz_aload0 (n := 68) (g_at ck_X11_parting 37 rfl) rfl (g_ne kd_84) ?_
            refine tz_iload1 (n := 69) (g_at ck_X11_parting 38 rfl) rfl ?_
            refine tz_iload2 (n := 70) (g_at ck_X11_parting 39 rfl) rfl ?_
            refine tz_cvI2 (n := 73) (μ' := μX11_areBoth) (cb' := 0) (sb' := 0) ml_X11_423 mo_X11_areBoth mv_X11_areBoth np_X11_areBoth kd_84 (g_at ck_X11_parting 40 rfl) (mp_areBoth hL hR6 (by omega) (by omega)) rfl rfl rfl ⟨by decide, by decide⟩ (Nat.le_of_ble_eq_true rfl) (by decide) (by decide) (fun x70 ρ9 m70 hq => ?_)
            obtain ⟨rfl, hR7, rfl, rfl⟩ := hq
            rw [hT9.r (k := 1 + p) (by omega) (by omega), hT9.r (k := 1 + o) (by omega) (by omega)]
            refine tz_if_ne (n := 76) (tgt := 79) (g_at ck_X11_parting 41 rfl) rfl rfl (by have h9 := hmB_01 ((daysP Λ hl tl (sig0 s) (i + 1)) 0 (1 + p)) ((daysP Λ hl tl (sig0 s) (i + 1)) 0 (1 + o)); omega) (fun h73 => ?_) (fun h73 => ?_)
            · skip
              refine tz_iinc4 (n := 82) (g_at ck_X11_parting 44 rfl) rfl (by decide) g_hpI ?_
              refine tz_goto (tgt := 50) (g_at ck_X11_parting 45 rfl) rfl ?_
              rw [show 1 + (i : Int) + 1 = 1 + ((i + 1 : Nat) : Int) by omega]
              exact ihi _ ⟨hR7, hT9, hD9, no_step hno (fun h9 => h9 (hmB_1 h73))⟩
            · skip
              refine tz_iload4 (n := 78) (g_at ck_X11_parting 42 rfl) rfl ?_
              exact tz_iret (g_at ck_X11_parting 43 rfl) rfl (rI_mk ⟨rfl, hR7, hk0.tr (mK.fd hD9), by rw [hD9.1 84 (by decide), h00, hc0, hc1]; rfl, fun _ => ⟨fun h9 => absurd h9 (by have h8 := hmB_1 h38; exact fun h7 => h7.elim h29 fun h6 => h6 h8), fun _ => Or.inr ⟨i, by omega, by omega, hmB_0 h73, hno⟩⟩⟩)
    · skip
      refine tz_iconst (n := 22) (g_at ck_X11_parting 11 rfl) rfl ?_
      exact tz_iret (g_at ck_X11_parting 12 rfl) rfl (rI_mk ⟨rfl, hR3, by rw [(hq15.no h18).2]; exact hk0.tr mK.w0, by rw [(hq15.no h18).2, wr_same, hc0, sq0], fun h9 => absurd h9 (by rw [hc0, sq0]; exact (hq15.no h18).1)⟩)
theorem mp_together {l : Launch} {γ : Gh} {ρ m : Mm} {p o n : Int} (hp : -2147483648 ≤ p ∧ p < 2147483648) (ho : -2147483648 ≤ o ∧ o < 2147483648) (hn : -2147483648 ≤ n ∧ n < 2147483648) {s : Int → Int} {Λ : Mm} {hl tl : List Int} (hL : LY ρ) (hR : MR m) (hW : WL Λ) (hM : MLand m Λ hl tl) (hs : MRow m s) (hσ : WS Λ 0 (sig0 s)) (hz : m 84 51 = 0) : gE l γ μX11_together 6 0 0 (rI KK fun x ρ9 m9 => ρ = ρ9 ∧ MR m9 ∧ mK m m9 ∧ m9 84 0 = sq (cdP Λ p) (sq (cdP Λ o) (cdD n 1 100)) ∧ (sq (cdP Λ p) (sq (cdP Λ o) (cdD n 1 100)) = 0 → togN Λ hl tl s p o n.toNat = x)) xN KK ρ m [vR 84, vI p, vI o, vI n] := by
  refine gE.ofw cl_X11.2 ?_ rfl rfl (Nat.le_of_ble_eq_true rfl)
  show gT l γ μX11_together 6 0 0 _ _ KK ρ m 0 [some (vR 84), some (vI p), some (vI o), some (vI n), none, none] []
  have hn1 := hW.1
  have hn8 := hW.2.1
  refine tz_aload0 (n := 1) (g_at ck_X11_together 0 rfl) rfl (g_ne kd_84) ?_
  refine tz_iconst (n := 2) (g_at ck_X11_together 1 rfl) rfl ?_
  refine tz_putIr (n := 5) (kz := 0) fk_X11_132 kd_84 (g_at ck_X11_together 2 rfl) rfl hR ⟨(by decide), (by decide)⟩ rfl (fun hR1 => ?_)
  obtain ⟨m0, e0⟩ : ∃ m0, m0 = wr m 84 0 0 := ⟨_, rfl⟩
  rw [← e0] at hR1 ⊢
  have hk0 : mK m m0 := by rw [e0]; exact mK.w0
  have hM0 := hk0.land hM
  have hs0 := hk0.row hs
  have hz0 : m0 84 51 = 0 := hk0.w51.trans hz
  have h00 : m0 84 0 = 0 := by rw [e0, wr_same]
  have hw0 := hw_0 hz0
  refine tz_aload0 (n := 6) (g_at ck_X11_together 3 rfl) rfl (g_ne kd_84) ?_
  refine tz_iload1 (n := 7) (g_at ck_X11_together 4 rfl) rfl ?_
  refine tz_cvI1 (n := 10) (μ' := μX11_isPerson) (cb' := 0) (sb' := 0) ml_X11_405 mo_X11_isPerson mv_X11_isPerson np_X11_isPerson kd_84 (g_at ck_X11_together 5 rfl) (mp_isPerson hp hL hR1 hW hM0 h00) rfl rfl rfl ⟨by decide, by decide⟩ (Nat.le_of_ble_eq_true rfl) (by decide) (by decide) (fun x7 ρ9 m7 hq => ?_)
  obtain ⟨rfl, hR2, hq7⟩ := hq
  refine tz_if_eq (n := 13) (tgt := 31) (g_at ck_X11_together 6 rfl) rfl rfl (by rcases hq7.b01 with h9 | h9 <;> omega) (fun h10 => ?_) (fun h10 => ?_)
  · skip
    refine tz_iconst (n := 32) (g_at ck_X11_together 17 rfl) rfl ?_
    exact tz_iret (g_at ck_X11_together 18 rfl) rfl (rI_mk ⟨rfl, hR2, by rw [(hq7.no h10).2]; exact hk0.tr mK.w0, by rw [(hq7.no h10).2, wr_same, sqn (hq7.no h10).1], fun h9 => absurd h9 (by rw [sqn (hq7.no h10).1]; exact (hq7.no h10).1)⟩)
  · skip
    obtain ⟨hc0, rfl⟩ := hq7.ok h10
    have hi0 := cdP_i hc0
    refine tz_aload0 (n := 14) (g_at ck_X11_together 7 rfl) rfl (g_ne kd_84) ?_
    refine tz_iload2 (n := 15) (g_at ck_X11_together 8 rfl) rfl ?_
    refine tz_cvI1 (n := 18) (μ' := μX11_isPerson) (cb' := 0) (sb' := 0) ml_X11_405 mo_X11_isPerson mv_X11_isPerson np_X11_isPerson kd_84 (g_at ck_X11_together 9 rfl) (mp_isPerson ho hL hR2 hW hM0 h00) rfl rfl rfl ⟨by decide, by decide⟩ (Nat.le_of_ble_eq_true rfl) (by decide) (by decide) (fun x15 ρ9 m15 hq => ?_)
    obtain ⟨rfl, hR3, hq15⟩ := hq
    refine tz_if_eq (n := 21) (tgt := 31) (g_at ck_X11_together 10 rfl) rfl rfl (by rcases hq15.b01 with h9 | h9 <;> omega) (fun h18 => ?_) (fun h18 => ?_)
    · skip
      refine tz_iconst (n := 32) (g_at ck_X11_together 17 rfl) rfl ?_
      exact tz_iret (g_at ck_X11_together 18 rfl) rfl (rI_mk ⟨rfl, hR3, by rw [(hq15.no h18).2]; exact hk0.tr mK.w0, by rw [(hq15.no h18).2, wr_same, hc0, sq0, sqn (hq15.no h18).1], fun h9 => absurd h9 (by rw [hc0, sq0, sqn (hq15.no h18).1]; exact (hq15.no h18).1)⟩)
    · skip
      obtain ⟨hc1, rfl⟩ := hq15.ok h18
      have hi1 := cdP_i hc1
      refine tz_aload0 (n := 22) (g_at ck_X11_together 11 rfl) rfl (g_ne kd_84) ?_
      refine tz_iload3 (n := 23) (g_at ck_X11_together 12 rfl) rfl ?_
      refine tz_iconst (n := 24) (g_at ck_X11_together 13 rfl) rfl ?_
      refine tz_iconst (n := 25) (g_at ck_X11_together 14 rfl) rfl ?_
      refine tz_cvI3 (n := 28) (μ' := μX11_isSoon) (cb' := 0) (sb' := 0) ml_X11_417 mo_X11_isSoon mv_X11_isSoon np_X11_isSoon kd_84 (g_at ck_X11_together 15 rfl) (mp_isSoon hn (by decide) hL hR3 h00) rfl rfl rfl ⟨by decide, by decide⟩ (Nat.le_of_ble_eq_true rfl) (by decide) (by decide) (fun x25 ρ9 m25 hq => ?_)
      obtain ⟨rfl, hR4, hq25⟩ := hq
      refine tz_if_ne (n := 31) (tgt := 33) (g_at ck_X11_together 16 rfl) rfl rfl (by rcases hq25.b01 with h9 | h9 <;> omega) (fun h28 => ?_) (fun h28 => ?_)
      · skip
        obtain ⟨hc2, rfl⟩ := hq25.ok h28
        have hi2 := cdD_i hc2
        refine tz_iconst (n := 34) (g_at ck_X11_together 19 rfl) rfl ?_
        refine tz_istore4 (n := 36) (g_at ck_X11_together 20 rfl) rfl (by decide) g_hpI ?_
        refine tz_aload0 (n := 37) (g_at ck_X11_together 21 rfl) rfl (g_ne kd_84) ?_
        refine tz_cvV0 (n := 40) (μ' := μX11_tries) (cb' := 0) (sb' := 0) ml_X11_356 mo_X11_tries mv_X11_tries np_X11_tries kd_84 (g_at ck_X11_together 22 rfl) (mp_tries (Λ := Λ) hL hR4 hs0) rfl rfl rfl ⟨by decide, by decide⟩ (Nat.le_of_ble_eq_true rfl) (by decide) (by decide) (fun ρ9 m37 hq => ?_)
        obtain ⟨rfl, hR5, hT37, hD37⟩ := hq
        refine tz_iconst (n := 41) (g_at ck_X11_together 23 rfl) rfl ?_
        refine tz_istore5 (n := 43) (g_at ck_X11_together 24 rfl) rfl (by decide) g_hpI ?_
        refine g_for (fun i : Nat => ∀ m1 : Mm, (MR m1 ∧ MT m1 35 Λ z00 (daysP Λ hl tl (sig0 s) (i)) ∧ FD 35 m0 m1) → gT l γ μX11_together 6 0 0 _ _ KK ρ m1 43 [some (vR 84), some (vI p), some (vI o), some (vI n), some (vI (togN Λ hl tl s p o i)), some (vI (i : Int))] []) n.toNat ?_ (fun i hi ihi => ?_) 0 (Nat.zero_le _) _ ⟨hR5, hT37, hD37⟩
        · intro m1 hinv
          obtain ⟨hRi, hTi, hDi⟩ := hinv
          have hσi := daysP_WS (hl := hl) (tl := tl) hW hσ (Int.le_refl 0) (n.toNat)
          refine tz_iload5 (n := 45) (g_at ck_X11_together 25 rfl) rfl ?_
          refine tz_iload3 (n := 46) (g_at ck_X11_together 26 rfl) rfl ?_
          refine tz_icmp_ge (n := 49) (tgt := 80) (g_at ck_X11_together 27 rfl) rfl rfl (by omega) (fun h46 => ?_) (fun h46 => absurd h46 (by omega))
          refine tz_iload4 (n := 82) (g_at ck_X11_together 44 rfl) rfl ?_
          exact tz_iret (g_at ck_X11_together 45 rfl) rfl (rI_mk ⟨rfl, hRi, hk0.tr (mK.fd hDi), by rw [hDi.1 84 (by decide), h00, hc0, hc1, hc2]; rfl, fun _ => rfl⟩)
        · intro m1 hinv
          obtain ⟨hRi, hTi, hDi⟩ := hinv
          have hσi := daysP_WS (hl := hl) (tl := tl) hW hσ (Int.le_refl 0) i
          refine tz_iload5 (n := 45) (g_at ck_X11_together 25 rfl) rfl ?_
          refine tz_iload3 (n := 46) (g_at ck_X11_together 26 rfl) rfl ?_
          refine tz_icmp_ge (n := 49) (tgt := 80) (g_at ck_X11_together 27 rfl) rfl rfl (by omega) (fun h46 => absurd h46 (by omega)) (fun h46 => ?_)
          refine tz_aload0 (n := 50) (g_at ck_X11_together 28 rfl) rfl (g_ne kd_84) ?_
          refine tz_bipush (n := 52) (g_at ck_X11_together 29 rfl) rfl rfl ?_
          refine tz_cvV1 (n := 55) (μ' := μX11_dayGoes) (cb' := 0) (sb' := 0) ml_X11_353 mo_X11_dayGoes mv_X11_dayGoes np_X11_dayGoes kd_84 (g_at ck_X11_together 30 rfl) (mp_dayGoes hL hRi hW (hM0.fr hDi.1 mDay_91) hTi hσi (by omega) (Or.inr rfl) (hw_fr hw0 hDi)) rfl rfl rfl ⟨by decide, by decide⟩ (Nat.le_of_ble_eq_true rfl) (by decide) (by decide) (fun ρ9 m52 hq => ?_)
          obtain ⟨rfl, hR6, hT52, hD52⟩ := hq
          have hT9 : MT m52 35 Λ z00 (daysP Λ hl tl (sig0 s) (i + 1)) := hT52
          have hD9 := hDi.tr hD52
          have hσ9 := daysP_WS (hl := hl) (tl := tl) hW hσ (Int.le_refl 0) (i + 1)
          refine tz_iload4 (n := 57) (g_at ck_X11_together 31 rfl) rfl ?_
          refine tz_aload0 (n := 58) (g_at ck_X11_together 32 rfl) rfl (g_ne kd_84) ?_
          refine tz_iload1 (n := 59) (g_at ck_X11_together 33 rfl) rfl ?_
          refine tz_iload2 (n := 60) (g_at ck_X11_together 34 rfl) rfl ?_
          refine tz_cvI2 (n := 63) (μ' := μX11_areBoth) (cb' := 0) (sb' := 0) ml_X11_423 mo_X11_areBoth mv_X11_areBoth np_X11_areBoth kd_84 (g_at ck_X11_together 35 rfl) (mp_areBoth hL hR6 (by omega) (by omega)) rfl rfl rfl ⟨by decide, by decide⟩ (Nat.le_of_ble_eq_true rfl) (by decide) (by decide) (fun x60 ρ9 m60 hq => ?_)
          obtain ⟨rfl, hR7, rfl, rfl⟩ := hq
          rw [hT9.r (k := 1 + p) (by omega) (by omega), hT9.r (k := 1 + o) (by omega) (by omega)]
          refine tz_if_eq (n := 66) (tgt := 70) (g_at ck_X11_together 36 rfl) rfl rfl (by have h9 := hmB_01 ((daysP Λ hl tl (sig0 s) (i + 1)) 0 (1 + p)) ((daysP Λ hl tl (sig0 s) (i + 1)) 0 (1 + o)); omega) (fun h63 => ?_) (fun h63 => ?_)
          · skip
            refine tz_iconst (n := 71) (g_at ck_X11_together 39 rfl) rfl ?_
            refine tz_iadd (n := 72) (g_at ck_X11_together 40 rfl) rfl ?_
            refine tz_istore4 (n := 74) (g_at ck_X11_together 41 rfl) rfl (by decide) g_hpI ?_
            refine tz_iinc5 (n := 77) (g_at ck_X11_together 42 rfl) rfl (by decide) g_hpI ?_
            refine tz_goto (tgt := 43) (g_at ck_X11_together 43 rfl) rfl ?_
            have e9 : togN Λ hl tl s p o (i + 1) = (togN Λ hl tl s p o i) + 0 := (if_neg (hmB_0 h63)).trans (Int.add_zero _).symm
            rw [e9] at ihi
            exact ihi _ ⟨hR7, hT9, hD9⟩
          · skip
            refine tz_iconst (n := 67) (g_at ck_X11_together 37 rfl) rfl ?_
            refine tz_goto (tgt := 71) (g_at ck_X11_together 38 rfl) rfl ?_
            refine tz_iadd (n := 72) (g_at ck_X11_together 40 rfl) rfl ?_
            refine tz_istore4 (n := 74) (g_at ck_X11_together 41 rfl) rfl (by decide) g_hpI ?_
            refine tz_iinc5 (n := 77) (g_at ck_X11_together 42 rfl) rfl (by decide) g_hpI ?_
            refine tz_goto (tgt := 43) (g_at ck_X11_together 43 rfl) rfl ?_
            have e9 : togN Λ hl tl s p o (i + 1) = (togN Λ hl tl s p o i) + 1 := if_pos (hmB_1 h63)
            rw [e9] at ihi
            exact ihi _ ⟨hR7, hT9, hD9⟩
      · skip
        refine tz_iconst (n := 32) (g_at ck_X11_together 17 rfl) rfl ?_
        exact tz_iret (g_at ck_X11_together 18 rfl) rfl (rI_mk ⟨rfl, hR4, by rw [(hq25.no h28).2]; exact hk0.tr mK.w0, by rw [(hq25.no h28).2, wr_same, hc0, hc1, sq0, sq0], fun h9 => absurd h9 (by rw [hc0, hc1, sq0, sq0]; exact (hq25.no h28).1)⟩)
theorem mp_visited {l : Launch} {γ : Gh} {ρ m : Mm} {p n : Int} (hp : -2147483648 ≤ p ∧ p < 2147483648) (hn : -2147483648 ≤ n ∧ n < 2147483648) {s : Int → Int} {Λ : Mm} {hl tl : List Int} (hL : LY ρ) (hR : MR m) (hW : WL Λ) (hM : MLand m Λ hl tl) (hs : MRow m s) (hσ : WS Λ 0 (sig0 s)) (hz : m 84 51 = 0) : gE l γ μX11_visited 6 0 0 (rI KK fun x ρ9 m9 => ρ = ρ9 ∧ MR m9 ∧ mK m m9 ∧ m9 84 0 = sq (cdP Λ p) (cdD n 0 100) ∧ (sq (cdP Λ p) (cdD n 0 100) = 0 → visN Λ hl tl s p n.toNat = x)) xN KK ρ m [vR 84, vI p, vI n] := by
  refine gE.ofw cl_X11.2 ?_ rfl rfl (Nat.le_of_ble_eq_true rfl)
  show gT l γ μX11_visited 6 0 0 _ _ KK ρ m 0 [some (vR 84), some (vI p), some (vI n), none, none] []
  have hn1 := hW.1
  have hn8 := hW.2.1
  refine tz_aload0 (n := 1) (g_at ck_X11_visited 0 rfl) rfl (g_ne kd_84) ?_
  refine tz_iconst (n := 2) (g_at ck_X11_visited 1 rfl) rfl ?_
  refine tz_putIr (n := 5) (kz := 0) fk_X11_132 kd_84 (g_at ck_X11_visited 2 rfl) rfl hR ⟨(by decide), (by decide)⟩ rfl (fun hR1 => ?_)
  obtain ⟨m0, e0⟩ : ∃ m0, m0 = wr m 84 0 0 := ⟨_, rfl⟩
  rw [← e0] at hR1 ⊢
  have hk0 : mK m m0 := by rw [e0]; exact mK.w0
  have hM0 := hk0.land hM
  have hs0 := hk0.row hs
  have hz0 : m0 84 51 = 0 := hk0.w51.trans hz
  have h00 : m0 84 0 = 0 := by rw [e0, wr_same]
  have hw0 := hw_0 hz0
  refine tz_aload0 (n := 6) (g_at ck_X11_visited 3 rfl) rfl (g_ne kd_84) ?_
  refine tz_iload1 (n := 7) (g_at ck_X11_visited 4 rfl) rfl ?_
  refine tz_cvI1 (n := 10) (μ' := μX11_isPerson) (cb' := 0) (sb' := 0) ml_X11_405 mo_X11_isPerson mv_X11_isPerson np_X11_isPerson kd_84 (g_at ck_X11_visited 5 rfl) (mp_isPerson hp hL hR1 hW hM0 h00) rfl rfl rfl ⟨by decide, by decide⟩ (Nat.le_of_ble_eq_true rfl) (by decide) (by decide) (fun x7 ρ9 m7 hq => ?_)
  obtain ⟨rfl, hR2, hq7⟩ := hq
  refine tz_if_eq (n := 13) (tgt := 23) (g_at ck_X11_visited 6 rfl) rfl rfl (by rcases hq7.b01 with h9 | h9 <;> omega) (fun h10 => ?_) (fun h10 => ?_)
  · skip
    refine tz_iconst (n := 24) (g_at ck_X11_visited 13 rfl) rfl ?_
    exact tz_iret (g_at ck_X11_visited 14 rfl) rfl (rI_mk ⟨rfl, hR2, by rw [(hq7.no h10).2]; exact hk0.tr mK.w0, by rw [(hq7.no h10).2, wr_same, sqn (hq7.no h10).1], fun h9 => absurd h9 (by rw [sqn (hq7.no h10).1]; exact (hq7.no h10).1)⟩)
  · skip
    obtain ⟨hc0, rfl⟩ := hq7.ok h10
    have hi0 := cdP_i hc0
    refine tz_aload0 (n := 14) (g_at ck_X11_visited 7 rfl) rfl (g_ne kd_84) ?_
    refine tz_iload2 (n := 15) (g_at ck_X11_visited 8 rfl) rfl ?_
    refine tz_iconst (n := 16) (g_at ck_X11_visited 9 rfl) rfl ?_
    refine tz_iconst (n := 17) (g_at ck_X11_visited 10 rfl) rfl ?_
    refine tz_cvI3 (n := 20) (μ' := μX11_isSoon) (cb' := 0) (sb' := 0) ml_X11_417 mo_X11_isSoon mv_X11_isSoon np_X11_isSoon kd_84 (g_at ck_X11_visited 11 rfl) (mp_isSoon hn (by decide) hL hR2 h00) rfl rfl rfl ⟨by decide, by decide⟩ (Nat.le_of_ble_eq_true rfl) (by decide) (by decide) (fun x17 ρ9 m17 hq => ?_)
    obtain ⟨rfl, hR3, hq17⟩ := hq
    refine tz_if_ne (n := 23) (tgt := 25) (g_at ck_X11_visited 12 rfl) rfl rfl (by rcases hq17.b01 with h9 | h9 <;> omega) (fun h20 => ?_) (fun h20 => ?_)
    · skip
      obtain ⟨hc1, rfl⟩ := hq17.ok h20
      have hi1 := cdD_i hc1
      refine tz_iconst (n := 26) (g_at ck_X11_visited 15 rfl) rfl ?_
      refine tz_aload0 (n := 27) (g_at ck_X11_visited 16 rfl) rfl (g_ne kd_84) ?_
      refine tz_getAv (n := 30) (a := 103) fk_X11_75 kd_84 (ly_84_43 hL) (g_at ck_X11_visited 17 rfl) rfl ?_
      refine tz_iconst (n := 31) (g_at ck_X11_visited 18 rfl) rfl ?_
      refine tz_iload1 (n := 32) (g_at ck_X11_visited 19 rfl) rfl ?_
      refine tz_iadd (n := 33) (g_at ck_X11_visited 20 rfl) rfl ?_
      refine tz_iald (n := 34) kd_103 (by omega) (g_at ck_X11_visited 21 rfl) rfl ?_
      rw [hs0 (1 + p) (by omega) (by omega)]
      refine tz_ishl (n := 35) (g_at ck_X11_visited 22 rfl) rfl ?_
      refine tz_istore3 (n := 36) (g_at ck_X11_visited 23 rfl) rfl (by decide) g_hpI ?_
      refine tz_aload0 (n := 37) (g_at ck_X11_visited 24 rfl) rfl (g_ne kd_84) ?_
      refine tz_cvV0 (n := 40) (μ' := μX11_tries) (cb' := 0) (sb' := 0) ml_X11_356 mo_X11_tries mv_X11_tries np_X11_tries kd_84 (g_at ck_X11_visited 25 rfl) (mp_tries (Λ := Λ) hL hR3 hs0) rfl rfl rfl ⟨by decide, by decide⟩ (Nat.le_of_ble_eq_true rfl) (by decide) (by decide) (fun ρ9 m37 hq => ?_)
      obtain ⟨rfl, hR4, hT37, hD37⟩ := hq
      refine tz_iconst (n := 41) (g_at ck_X11_visited 26 rfl) rfl ?_
      refine tz_istore4 (n := 43) (g_at ck_X11_visited 27 rfl) rfl (by decide) g_hpI ?_
      refine g_for (fun i : Nat => ∀ m1 : Mm, (MR m1 ∧ MT m1 35 Λ z00 (daysP Λ hl tl (sig0 s) (i)) ∧ FD 35 m0 m1) → gT l γ μX11_visited 6 0 0 _ _ KK ρ m1 43 [some (vR 84), some (vI p), some (vI n), some (vI (visN Λ hl tl s p i)), some (vI (i : Int))] []) n.toNat ?_ (fun i hi ihi => ?_) 0 (Nat.zero_le _) _ ⟨hR4, hT37, hD37⟩
      · intro m1 hinv
        obtain ⟨hRi, hTi, hDi⟩ := hinv
        have hσi := daysP_WS (hl := hl) (tl := tl) hW hσ (Int.le_refl 0) (n.toNat)
        refine tz_iload4 (n := 45) (g_at ck_X11_visited 28 rfl) rfl ?_
        refine tz_iload2 (n := 46) (g_at ck_X11_visited 29 rfl) rfl ?_
        refine tz_icmp_ge (n := 49) (tgt := 75) (g_at ck_X11_visited 30 rfl) rfl rfl (by omega) (fun h46 => ?_) (fun h46 => absurd h46 (by omega))
        refine tz_iload3 (n := 76) (g_at ck_X11_visited 47 rfl) rfl ?_
        exact tz_iret (g_at ck_X11_visited 48 rfl) rfl (rI_mk ⟨rfl, hRi, hk0.tr (mK.fd hDi), by rw [hDi.1 84 (by decide), h00, hc0, hc1]; rfl, fun _ => rfl⟩)
      · intro m1 hinv
        obtain ⟨hRi, hTi, hDi⟩ := hinv
        have hσi := daysP_WS (hl := hl) (tl := tl) hW hσ (Int.le_refl 0) i
        refine tz_iload4 (n := 45) (g_at ck_X11_visited 28 rfl) rfl ?_
        refine tz_iload2 (n := 46) (g_at ck_X11_visited 29 rfl) rfl ?_
        refine tz_icmp_ge (n := 49) (tgt := 75) (g_at ck_X11_visited 30 rfl) rfl rfl (by omega) (fun h46 => absurd h46 (by omega)) (fun h46 => ?_)
        refine tz_aload0 (n := 50) (g_at ck_X11_visited 31 rfl) rfl (g_ne kd_84) ?_
        refine tz_bipush (n := 52) (g_at ck_X11_visited 32 rfl) rfl rfl ?_
        refine tz_cvV1 (n := 55) (μ' := μX11_dayGoes) (cb' := 0) (sb' := 0) ml_X11_353 mo_X11_dayGoes mv_X11_dayGoes np_X11_dayGoes kd_84 (g_at ck_X11_visited 33 rfl) (mp_dayGoes hL hRi hW (hM0.fr hDi.1 mDay_91) hTi hσi (by omega) (Or.inr rfl) (hw_fr hw0 hDi)) rfl rfl rfl ⟨by decide, by decide⟩ (Nat.le_of_ble_eq_true rfl) (by decide) (by decide) (fun ρ9 m52 hq => ?_)
        obtain ⟨rfl, hR5, hT52, hD52⟩ := hq
        have hT9 : MT m52 35 Λ z00 (daysP Λ hl tl (sig0 s) (i + 1)) := hT52
        have hD9 := hDi.tr hD52
        have hσ9 := daysP_WS (hl := hl) (tl := tl) hW hσ (Int.le_refl 0) (i + 1)
        refine tz_iload3 (n := 56) (g_at ck_X11_visited 34 rfl) rfl ?_
        refine tz_iconst (n := 57) (g_at ck_X11_visited 35 rfl) rfl ?_
        refine tz_aload0 (n := 58) (g_at ck_X11_visited 36 rfl) rfl (g_ne kd_84) ?_
        refine tz_getAv (n := 61) (a := 103) fk_X11_75 kd_84 (ly_84_43 hL) (g_at ck_X11_visited 37 rfl) rfl ?_
        refine tz_bipush (n := 63) (g_at ck_X11_visited 38 rfl) rfl rfl ?_
        refine tz_iload1 (n := 64) (g_at ck_X11_visited 39 rfl) rfl ?_
        refine tz_iadd (n := 65) (g_at ck_X11_visited 40 rfl) rfl ?_
        refine tz_iald (n := 66) kd_103 (by omega) (g_at ck_X11_visited 41 rfl) rfl ?_
        rw [hT9.r (k := 1 + p) (by omega) (by omega)]
        refine tz_ishl (n := 67) (g_at ck_X11_visited 42 rfl) rfl ?_
        refine tz_ior (n := 68) (g_at ck_X11_visited 43 rfl) rfl ?_
        refine tz_istore3 (n := 69) (g_at ck_X11_visited 44 rfl) rfl (by decide) g_hpI ?_
        refine tz_iinc4 (n := 72) (g_at ck_X11_visited 45 rfl) rfl (by decide) g_hpI ?_
        refine tz_goto (tgt := 43) (g_at ck_X11_visited 46 rfl) rfl ?_
        exact ihi _ ⟨hR5, hT9, hD9⟩
    · skip
      refine tz_iconst (n := 24) (g_at ck_X11_visited 13 rfl) rfl ?_
      exact tz_iret (g_at ck_X11_visited 14 rfl) rfl (rI_mk ⟨rfl, hR3, by rw [(hq17.no h20).2]; exact hk0.tr mK.w0, by rw [(hq17.no h20).2, wr_same, hc0, sq0], fun h9 => absurd h9 (by rw [hc0, sq0]; exact (hq17.no h20).1)⟩)
