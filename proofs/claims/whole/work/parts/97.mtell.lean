/-! The reference: counts, crossings, roads, people. -/
theorem purs_0 {m : Mm} {s : Int → Int} (hs : MRow m s) : ∀ n : Nat, n ≤ 8 → pursM m 0 n = purS (sig0 s) n
  | 0, _ => rfl
  | n + 1, h => by
    show pursM m 0 n + m 103 (0 + 9 + (n : Int)) = purS (sig0 s) n + s (9 + (n : Int))
    rw [purs_0 hs n (by omega), show (0 : Int) + 9 + (n : Int) = 9 + (n : Int) by omega, hs (9 + (n : Int)) (by omega) (by omega)]
theorem std_0 {m Λ : Mm} {hl tl : List Int} {s : Int → Int} {c : Int} (hW : WL Λ) (hM : MLand m Λ hl tl) (hs : MRow m s) : bitsW (fun p => m 103 (0 + 1 + p)) c (m 84 2).toNat = stdB Λ (sig0 s) c := by
  have h8 := hW.2.1
  rw [hM.2.1]
  show bmI (fun p => m 103 (0 + 1 + (p : Int)) = c) (Λ 0 1).toNat = bmI (fun p => s (1 + (p : Int)) = c) (Λ 0 1).toNat
  exact bmI_congr fun p hp => by rw [show (0 : Int) + 1 + (p : Int) = 1 + (p : Int) by omega, hs (1 + (p : Int)) (by omega) (by omega)]
theorem stdB_rg {Λ σ : Mm} {c : Int} (hW : WL Λ) : 0 ≤ stdB Λ σ c ∧ stdB Λ σ c < 512 := by
  have h8 := hW.2.1
  have h := bmI_9 (fun p => σ 0 (1 + (p : Int)) = c) (n := (Λ 0 1).toNat) (by omega)
  exact ⟨h.1, h.2.1⟩
theorem mp_count {l : Launch} {γ : Gh} {ρ m : Mm} {w : Int} (hw : -2147483648 ≤ w ∧ w < 2147483648) {s : Int → Int} {Λ : Mm} {hl tl : List Int} (hL : LY ρ) (hR : MR m) (hW : WL Λ) (hM : MLand m Λ hl tl) (hs : MRow m s) (hσ : WS Λ 0 (sig0 s)) (hz : m 84 51 = 0) (hk : ∀ c, 0 ≤ c → c < Λ 0 0 → s (26 + c) < ((2 ^ (Λ 3 c).toNat : Nat) : Int)) : gE l γ μX11_count 4 0 0 (rI KK fun x ρ9 m9 => ρ = ρ9 ∧ MR m9 ∧ mK m m9 ∧ m9 84 0 = cdW w 14 ∧ (cdW w 14 = 0 → (if w = 0 then Λ 0 0 else if w = 1 then Λ 0 1 else if w = 2 then s 0 else if w = 3 then rdsN Λ (Λ 0 0).toNat else if w = 4 then shtN s (Λ 0 0).toNat else if w = 5 then homB Λ (sig0 s) else if w = 6 then pcN Λ s (Λ 0 0).toNat else if w = 7 then (wtN Λ s (2 ^ (Λ 0 0).toNat)).1 else if w = 8 then purS (sig0 s) (Λ 0 1).toNat else if w = 9 then m 84 45 else if w = 10 then m 84 58 else if w = 11 then m 84 12 else m 92 (w - 12)) = x)) xN KK ρ m [vR 84, vI w] := by
  refine gE.ofw cl_X11.2 ?_ rfl rfl (Nat.le_of_ble_eq_true rfl)
  show gT l γ μX11_count 4 0 0 _ _ KK ρ m 0 [some (vR 84), some (vI w)] []
  have hn1 := hW.1
  have hn8 := hW.2.1
  have h01 := wiF_01 w 0 14
  refine tz_aload0 (n := 1) (g_at ck_X11_count 0 rfl) rfl (g_ne kd_84) ?_
  refine tz_iconst (n := 2) (g_at ck_X11_count 1 rfl) rfl ?_
  refine tz_putIr (n := 5) (kz := 0) fk_X11_132 kd_84 (g_at ck_X11_count 2 rfl) rfl hR ⟨(by decide), (by decide)⟩ rfl (fun hR1 => ?_)
  obtain ⟨m0, e0⟩ : ∃ m0, m0 = wr m 84 0 0 := ⟨_, rfl⟩
  rw [← e0] at hR1 ⊢
  have hk0 : mK m m0 := by rw [e0]; exact mK.w0
  have hM0 := hk0.land hM
  have hs0 := hk0.row hs
  have hz0 : m0 84 51 = 0 := hk0.w51.trans hz
  have h00 : m0 84 0 = 0 := by rw [e0, wr_same]
  have hw0 := hw_0 hz0
  refine tz_aload0 (n := 6) (g_at ck_X11_count 3 rfl) rfl (g_ne kd_84) ?_
  refine tz_iload1 (n := 7) (g_at ck_X11_count 4 rfl) rfl ?_
  refine tz_iconst (n := 8) (g_at ck_X11_count 5 rfl) rfl ?_
  refine tz_bipush (n := 10) (g_at ck_X11_count 6 rfl) rfl rfl ?_
  refine tz_csI3 (n := 13) (μ' := μX11_within) (cb' := 0) (sb' := 0) ml_X11_374 mo_X11_within ms_X11_within np_X11_within (g_at ck_X11_count 7 rfl) (mp_within hR1 hw (by decide) (by decide)) rfl rfl ⟨by decide, by decide⟩ (Nat.le_of_ble_eq_true rfl) (by decide) (by decide) (fun x10 ρ9 m10 hq => ?_)
  obtain ⟨rfl, hR2, rfl, rfl⟩ := hq
  refine tz_iconst (n := 14) (g_at ck_X11_count 8 rfl) rfl ?_
  refine tz_cvI2 (n := 17) (μ' := μX11_right) (cb' := 0) (sb' := 0) ml_X11_295 mo_X11_right mv_X11_right np_X11_right kd_84 (g_at ck_X11_count 9 rfl) (mp_right hR2 h00 h01 (by decide)) rfl rfl rfl ⟨by decide, by decide⟩ (Nat.le_of_ble_eq_true rfl) (by decide) (by decide) (fun x14 ρ9 m14 hq => ?_)
  obtain ⟨rfl, hR3, rfl, rfl⟩ := hq
  have hq14 : Ck m0 (if wiF w 0 14 = 0 then wr m0 84 0 1 else m0) (cdW w 14) (wiF w 0 14) := ck_wi h01
  refine tz_if_ne (n := 20) (tgt := 22) (g_at ck_X11_count 10 rfl) rfl rfl (by omega) (fun h17 => ?_) (fun h17 => ?_)
  · skip
    obtain ⟨hc0, e9⟩ := hq14.ok h17
    rw [← e9] at hR3 ⊢
    have hi0 := cdW_i hc0
    refine tz_iload1 (n := 23) (g_at ck_X11_count 13 rfl) rfl ?_
    by_cases hk23_0 : w = 0
    · skip
      refine tz_tableIn (tgt := 84) (g_at ck_X11_count 14 rfl) ⟨hw.1, hw.2⟩ (by omega) (by omega) (by rw [hk23_0]; rfl) rfl ?_
      refine tz_aload0 (n := 85) (g_at ck_X11_count 15 rfl) rfl (g_ne kd_84) ?_
      refine tz_getIw (n := 88) (kz := 1) fk_X11_302 kd_84 (g_at ck_X11_count 16 rfl) rfl rfl ?_
      rw [hM0.1]
      exact tz_iret (g_at ck_X11_count 17 rfl) rfl (rI_mk ⟨rfl, hR3, hk0, by rw [h00, hc0], fun _ => by simp (disch := omega) only [if_pos, if_neg]⟩)
    by_cases hk23_1 : w = 1
    · skip
      refine tz_tableIn (tgt := 89) (g_at ck_X11_count 14 rfl) ⟨hw.1, hw.2⟩ (by omega) (by omega) (by rw [hk23_1]; rfl) rfl ?_
      refine tz_aload0 (n := 90) (g_at ck_X11_count 18 rfl) rfl (g_ne kd_84) ?_
      refine tz_getIw (n := 93) (kz := 2) fk_X11_305 kd_84 (g_at ck_X11_count 19 rfl) rfl rfl ?_
      rw [hM0.2.1]
      exact tz_iret (g_at ck_X11_count 20 rfl) rfl (rI_mk ⟨rfl, hR3, hk0, by rw [h00, hc0], fun _ => by simp (disch := omega) only [if_pos, if_neg]⟩)
    by_cases hk23_2 : w = 2
    · skip
      refine tz_tableIn (tgt := 94) (g_at ck_X11_count 14 rfl) ⟨hw.1, hw.2⟩ (by omega) (by omega) (by rw [hk23_2]; rfl) rfl ?_
      refine tz_aload0 (n := 95) (g_at ck_X11_count 21 rfl) rfl (g_ne kd_84) ?_
      refine tz_getAv (n := 98) (a := 103) fk_X11_75 kd_84 (ly_84_43 hL) (g_at ck_X11_count 22 rfl) rfl ?_
      refine tz_iconst (n := 99) (g_at ck_X11_count 23 rfl) rfl ?_
      refine tz_iald (n := 100) kd_103 (by omega) (g_at ck_X11_count 24 rfl) rfl ?_
      rw [hs0 0 (by decide) (by decide)]
      exact tz_iret (g_at ck_X11_count 25 rfl) rfl (rI_mk ⟨rfl, hR3, hk0, by rw [h00, hc0], fun _ => by simp (disch := omega) only [if_pos, if_neg]⟩)
    by_cases hk23_3 : w = 3
    · skip
      refine tz_tableIn (tgt := 101) (g_at ck_X11_count 14 rfl) ⟨hw.1, hw.2⟩ (by omega) (by omega) (by rw [hk23_3]; rfl) rfl ?_
      refine tz_aload0 (n := 102) (g_at ck_X11_count 26 rfl) rfl (g_ne kd_84) ?_
      refine tz_iconst (n := 103) (g_at ck_X11_count 27 rfl) rfl ?_
      refine tz_cvI1 (n := 106) (μ' := μX11_roadsAll) (cb' := 0) (sb' := 0) ml_X11_377 mo_X11_roadsAll mv_X11_roadsAll np_X11_roadsAll kd_84 (g_at ck_X11_count 28 rfl) (mp_roadsAll hL hR3 hW hM0 hs0 (Or.inl rfl)) rfl rfl rfl ⟨by decide, by decide⟩ (Nat.le_of_ble_eq_true rfl) (by decide) (by decide) (fun x103 ρ9 m103 hq => ?_)
      obtain ⟨rfl, hR4, rfl, rfl⟩ := hq
      rw [raN_0 hW _ (by omega)]
      exact tz_iret (g_at ck_X11_count 29 rfl) rfl (rI_mk ⟨rfl, hR4, hk0, by rw [h00, hc0], fun _ => by simp (disch := omega) only [if_pos, if_neg]⟩)
    by_cases hk23_4 : w = 4
    · skip
      refine tz_tableIn (tgt := 107) (g_at ck_X11_count 14 rfl) ⟨hw.1, hw.2⟩ (by omega) (by omega) (by rw [hk23_4]; rfl) rfl ?_
      refine tz_aload0 (n := 108) (g_at ck_X11_count 30 rfl) rfl (g_ne kd_84) ?_
      refine tz_iconst (n := 109) (g_at ck_X11_count 31 rfl) rfl ?_
      refine tz_cvI1 (n := 112) (μ' := μX11_roadsAll) (cb' := 0) (sb' := 0) ml_X11_377 mo_X11_roadsAll mv_X11_roadsAll np_X11_roadsAll kd_84 (g_at ck_X11_count 32 rfl) (mp_roadsAll hL hR3 hW hM0 hs0 (Or.inr rfl)) rfl rfl rfl ⟨by decide, by decide⟩ (Nat.le_of_ble_eq_true rfl) (by decide) (by decide) (fun x109 ρ9 m109 hq => ?_)
      obtain ⟨rfl, hR5, rfl, rfl⟩ := hq
      rw [raN_1 hW hσ hk _ (by omega)]
      exact tz_iret (g_at ck_X11_count 33 rfl) rfl (rI_mk ⟨rfl, hR5, hk0, by rw [h00, hc0], fun _ => by simp (disch := omega) only [if_pos, if_neg]⟩)
    by_cases hk23_5 : w = 5
    · skip
      refine tz_tableIn (tgt := 113) (g_at ck_X11_count 14 rfl) ⟨hw.1, hw.2⟩ (by omega) (by omega) (by rw [hk23_5]; rfl) rfl ?_
      refine tz_aload0 (n := 114) (g_at ck_X11_count 34 rfl) rfl (g_ne kd_84) ?_
      refine tz_iconst (n := 115) (g_at ck_X11_count 35 rfl) rfl ?_
      refine tz_cvI1 (n := 118) (μ' := μX11_homeOnes) (cb' := 0) (sb' := 0) ml_X11_381 mo_X11_homeOnes mv_X11_homeOnes np_X11_homeOnes kd_84 (g_at ck_X11_count 36 rfl) (mp_homeOnes hL hR3 (by rw [hM0.2.1]; omega) (Or.inl rfl)) rfl rfl rfl ⟨by decide, by decide⟩ (Nat.le_of_ble_eq_true rfl) (by decide) (by decide) (fun x115 ρ9 m115 hq => ?_)
      obtain ⟨rfl, hR6, rfl, rfl⟩ := hq
      rw [home_M0 hW hM0 hs0]
      exact tz_iret (g_at ck_X11_count 37 rfl) rfl (rI_mk ⟨rfl, hR6, hk0, by rw [h00, hc0], fun _ => by simp (disch := omega) only [if_pos, if_neg]⟩)
    by_cases hk23_6 : w = 6
    · skip
      refine tz_tableIn (tgt := 119) (g_at ck_X11_count 14 rfl) ⟨hw.1, hw.2⟩ (by omega) (by omega) (by rw [hk23_6]; rfl) rfl ?_
      refine tz_aload0 (n := 120) (g_at ck_X11_count 38 rfl) rfl (g_ne kd_84) ?_
      refine tz_cvI0 (n := 123) (μ' := μX11_parts) (cb' := 0) (sb' := 0) ml_X11_384 mo_X11_parts mv_X11_parts np_X11_parts kd_84 (g_at ck_X11_count 39 rfl) (mp_parts hL hR3 hW hM0 hs0 hσ hz0) rfl rfl rfl ⟨by decide, by decide⟩ (Nat.le_of_ble_eq_true rfl) (by decide) (by decide) (fun x120 ρ9 m120 hq => ?_)
      obtain ⟨rfl, hR7, hF120, hx120⟩ := hq
      rw [← hx120]
      exact tz_iret (g_at ck_X11_count 40 rfl) rfl (rI_mk ⟨rfl, hR7, hk0.tr (mK.l hF120 (by decide)), by rw [hF120 84 (by decide), h00, hc0], fun _ => by simp (disch := omega) only [if_pos, if_neg]⟩)
    by_cases hk23_7 : w = 7
    · skip
      refine tz_tableIn (tgt := 124) (g_at ck_X11_count 14 rfl) ⟨hw.1, hw.2⟩ (by omega) (by omega) (by rw [hk23_7]; rfl) rfl ?_
      refine tz_aload0 (n := 125) (g_at ck_X11_count 41 rfl) rfl (g_ne kd_84) ?_
      refine tz_cvI0 (n := 128) (μ' := μX11_watched) (cb' := 0) (sb' := 0) ml_X11_387 mo_X11_watched mv_X11_watched np_X11_watched kd_84 (g_at ck_X11_count 42 rfl) (mp_watched hL hR3 hW hM0 hs0 hσ) rfl rfl rfl ⟨by decide, by decide⟩ (Nat.le_of_ble_eq_true rfl) (by decide) (by decide) (fun x125 ρ9 m125 hq => ?_)
      obtain ⟨rfl, hR8, rfl, rfl⟩ := hq
      exact tz_iret (g_at ck_X11_count 43 rfl) rfl (rI_mk ⟨rfl, hR8, hk0, by rw [h00, hc0], fun _ => by simp (disch := omega) only [if_pos, if_neg]⟩)
    by_cases hk23_8 : w = 8
    · skip
      refine tz_tableIn (tgt := 129) (g_at ck_X11_count 14 rfl) ⟨hw.1, hw.2⟩ (by omega) (by omega) (by rw [hk23_8]; rfl) rfl ?_
      refine tz_aload0 (n := 130) (g_at ck_X11_count 44 rfl) rfl (g_ne kd_84) ?_
      refine tz_iconst (n := 131) (g_at ck_X11_count 45 rfl) rfl ?_
      refine tz_cvI1 (n := 134) (μ' := μX11_purses) (cb' := 0) (sb' := 0) ml_X11_390 mo_X11_purses mv_X11_purses np_X11_purses kd_84 (g_at ck_X11_count 46 rfl) (mp_purses hL hR3 (by rw [hM0.2.1]; omega) (Or.inl rfl)) rfl rfl rfl ⟨by decide, by decide⟩ (Nat.le_of_ble_eq_true rfl) (by decide) (by decide) (fun x131 ρ9 m131 hq => ?_)
      obtain ⟨rfl, hR9, rfl, rfl⟩ := hq
      rw [hM0.2.1, purs_0 hs0 _ (by omega)]
      exact tz_iret (g_at ck_X11_count 47 rfl) rfl (rI_mk ⟨rfl, hR9, hk0, by rw [h00, hc0], fun _ => by simp (disch := omega) only [if_pos, if_neg]⟩)
    by_cases hk23_9 : w = 9
    · skip
      refine tz_tableIn (tgt := 135) (g_at ck_X11_count 14 rfl) ⟨hw.1, hw.2⟩ (by omega) (by omega) (by rw [hk23_9]; rfl) rfl ?_
      refine tz_aload0 (n := 136) (g_at ck_X11_count 48 rfl) rfl (g_ne kd_84) ?_
      refine tz_getIw (n := 139) (kz := 45) fk_X11_312 kd_84 (g_at ck_X11_count 49 rfl) rfl rfl ?_
      rw [show m0 84 45 = m 84 45 by rw [e0, wr_at, if_neg (by decide)]]
      exact tz_iret (g_at ck_X11_count 50 rfl) rfl (rI_mk ⟨rfl, hR3, hk0, by rw [h00, hc0], fun _ => by simp (disch := omega) only [if_pos, if_neg]⟩)
    by_cases hk23_10 : w = 10
    · skip
      refine tz_tableIn (tgt := 140) (g_at ck_X11_count 14 rfl) ⟨hw.1, hw.2⟩ (by omega) (by omega) (by rw [hk23_10]; rfl) rfl ?_
      refine tz_aload0 (n := 141) (g_at ck_X11_count 51 rfl) rfl (g_ne kd_84) ?_
      refine tz_getIw (n := 144) (kz := 58) fk_X11_315 kd_84 (g_at ck_X11_count 52 rfl) rfl rfl ?_
      rw [show m0 84 58 = m 84 58 by rw [e0, wr_at, if_neg (by decide)]]
      exact tz_iret (g_at ck_X11_count 53 rfl) rfl (rI_mk ⟨rfl, hR3, hk0, by rw [h00, hc0], fun _ => by simp (disch := omega) only [if_pos, if_neg]⟩)
    by_cases hk23_11 : w = 11
    · skip
      refine tz_tableIn (tgt := 145) (g_at ck_X11_count 14 rfl) ⟨hw.1, hw.2⟩ (by omega) (by omega) (by rw [hk23_11]; rfl) rfl ?_
      refine tz_aload0 (n := 146) (g_at ck_X11_count 54 rfl) rfl (g_ne kd_84) ?_
      refine tz_getIw (n := 149) (kz := 12) fk_X11_135 kd_84 (g_at ck_X11_count 55 rfl) rfl rfl ?_
      rw [show m0 84 12 = m 84 12 by rw [e0, wr_at, if_neg (by decide)]]
      exact tz_iret (g_at ck_X11_count 56 rfl) rfl (rI_mk ⟨rfl, hR3, hk0, by rw [h00, hc0], fun _ => by simp (disch := omega) only [if_pos, if_neg]⟩)
    refine tz_tableOut (tgt := 150) (g_at ck_X11_count 14 rfl) ⟨hw.1, hw.2⟩ (by omega) rfl ?_
    refine tz_aload0 (n := 151) (g_at ck_X11_count 57 rfl) rfl (g_ne kd_84) ?_
    refine tz_getAv (n := 154) (a := 92) fk_X11_41 kd_84 (ly_84_15 hL) (g_at ck_X11_count 58 rfl) rfl ?_
    refine tz_iload1 (n := 155) (g_at ck_X11_count 59 rfl) rfl ?_
    refine tz_bipush (n := 157) (g_at ck_X11_count 60 rfl) rfl rfl ?_
    refine tz_isub (n := 158) (g_at ck_X11_count 61 rfl) rfl ?_
    refine tz_iald (n := 159) kd_92 (by omega) (g_at ck_X11_count 62 rfl) rfl ?_
    rw [show m0 92 (w - 12) = m 92 (w - 12) by rw [e0, wr_ne (by decide)]]
    exact tz_iret (g_at ck_X11_count 63 rfl) rfl (rI_mk ⟨rfl, hR3, hk0, by rw [h00, hc0], fun _ => by simp (disch := omega) only [if_pos, if_neg]⟩)
  · skip
    refine tz_iconst (n := 21) (g_at ck_X11_count 11 rfl) rfl ?_
    exact tz_iret (g_at ck_X11_count 12 rfl) rfl (rI_mk ⟨rfl, hR3, by rw [(hq14.no h17).2]; exact hk0.tr mK.w0, by rw [(hq14.no h17).2, wr_same], fun h9 => absurd h9 (hq14.no h17).1⟩)
theorem mp_crossing {l : Launch} {γ : Gh} {ρ m : Mm} {c w : Int} (hc : -2147483648 ≤ c ∧ c < 2147483648) (hw : -2147483648 ≤ w ∧ w < 2147483648) {s : Int → Int} {Λ : Mm} {hl tl : List Int} (hL : LY ρ) (hR : MR m) (hW : WL Λ) (hM : MLand m Λ hl tl) (hs : MRow m s) (hσ : WS Λ 0 (sig0 s)) (hz : m 84 51 = 0) : gE l γ μX11_crossing 3 0 0 (rI KK fun x ρ9 m9 => ρ = ρ9 ∧ MR m9 ∧ mK m m9 ∧ m9 84 0 = sq (cdC Λ c) (cdW w 6) ∧ (sq (cdC Λ c) (cdW w 6) = 0 → (if w = 0 then Λ 1 c else if w = 1 then Λ 2 c else if w = 2 then Λ 3 c else if w = 3 then s (17 + c) else if w = 4 then stdB Λ (sig0 s) c else if w = 5 then ptP Λ s c (Λ 0 0).toNat else rcP Λ s c) = x)) xN KK ρ m [vR 84, vI c, vI w] := by
  refine gE.ofw cl_X11.2 ?_ rfl rfl (Nat.le_of_ble_eq_true rfl)
  show gT l γ μX11_crossing 3 0 0 _ _ KK ρ m 0 [some (vR 84), some (vI c), some (vI w)] []
  have hn1 := hW.1
  have hn8 := hW.2.1
  refine tz_aload0 (n := 1) (g_at ck_X11_crossing 0 rfl) rfl (g_ne kd_84) ?_
  refine tz_iconst (n := 2) (g_at ck_X11_crossing 1 rfl) rfl ?_
  refine tz_putIr (n := 5) (kz := 0) fk_X11_132 kd_84 (g_at ck_X11_crossing 2 rfl) rfl hR ⟨(by decide), (by decide)⟩ rfl (fun hR1 => ?_)
  obtain ⟨m0, e0⟩ : ∃ m0, m0 = wr m 84 0 0 := ⟨_, rfl⟩
  rw [← e0] at hR1 ⊢
  have hk0 : mK m m0 := by rw [e0]; exact mK.w0
  have hM0 := hk0.land hM
  have hs0 := hk0.row hs
  have hz0 : m0 84 51 = 0 := hk0.w51.trans hz
  have h00 : m0 84 0 = 0 := by rw [e0, wr_same]
  have hw0 := hw_0 hz0
  refine tz_aload0 (n := 6) (g_at ck_X11_crossing 3 rfl) rfl (g_ne kd_84) ?_
  refine tz_iload1 (n := 7) (g_at ck_X11_crossing 4 rfl) rfl ?_
  refine tz_cvI1 (n := 10) (μ' := μX11_isCrossing) (cb' := 0) (sb' := 0) ml_X11_393 mo_X11_isCrossing mv_X11_isCrossing np_X11_isCrossing kd_84 (g_at ck_X11_crossing 5 rfl) (mp_isCrossing hc hL hR1 hW hM0 h00) rfl rfl rfl ⟨by decide, by decide⟩ (Nat.le_of_ble_eq_true rfl) (by decide) (by decide) (fun x7 ρ9 m7 hq => ?_)
  obtain ⟨rfl, hR2, hq7⟩ := hq
  refine tz_if_eq (n := 13) (tgt := 23) (g_at ck_X11_crossing 6 rfl) rfl rfl (by rcases hq7.b01 with h9 | h9 <;> omega) (fun h10 => ?_) (fun h10 => ?_)
  · skip
    refine tz_iconst (n := 24) (g_at ck_X11_crossing 12 rfl) rfl ?_
    exact tz_iret (g_at ck_X11_crossing 13 rfl) rfl (rI_mk ⟨rfl, hR2, by rw [(hq7.no h10).2]; exact hk0.tr mK.w0, by rw [(hq7.no h10).2, wr_same, sqn (hq7.no h10).1], fun h9 => absurd h9 (by rw [sqn (hq7.no h10).1]; exact (hq7.no h10).1)⟩)
  · skip
    obtain ⟨hc0, rfl⟩ := hq7.ok h10
    have hi0 := cdC_i hc0
    refine tz_aload0 (n := 14) (g_at ck_X11_crossing 7 rfl) rfl (g_ne kd_84) ?_
    refine tz_iload2 (n := 15) (g_at ck_X11_crossing 8 rfl) rfl ?_
    refine tz_bipush (n := 17) (g_at ck_X11_crossing 9 rfl) rfl rfl ?_
    refine tz_cvI2 (n := 20) (μ' := μX11_isWhat) (cb' := 0) (sb' := 0) ml_X11_396 mo_X11_isWhat mv_X11_isWhat np_X11_isWhat kd_84 (g_at ck_X11_crossing 10 rfl) (mp_isWhat hw (by decide) hL hR2 h00) rfl rfl rfl ⟨by decide, by decide⟩ (Nat.le_of_ble_eq_true rfl) (by decide) (by decide) (fun x17 ρ9 m17 hq => ?_)
    obtain ⟨rfl, hR3, hq17⟩ := hq
    refine tz_if_ne (n := 23) (tgt := 25) (g_at ck_X11_crossing 11 rfl) rfl rfl (by rcases hq17.b01 with h9 | h9 <;> omega) (fun h20 => ?_) (fun h20 => ?_)
    · skip
      obtain ⟨hc1, rfl⟩ := hq17.ok h20
      have hi1 := cdW_i hc1
      refine tz_aload0 (n := 26) (g_at ck_X11_crossing 14 rfl) rfl (g_ne kd_84) ?_
      refine tz_cvV0 (n := 29) (μ' := μX11_laysWays) (cb' := 0) (sb' := 0) ml_X11_365 mo_X11_laysWays mv_X11_laysWays np_X11_laysWays kd_84 (g_at ck_X11_crossing 15 rfl) (mp_laysWays hL hR3 hW hM0 hs0 hσ hz0) rfl rfl rfl ⟨by decide, by decide⟩ (Nat.le_of_ble_eq_true rfl) (by decide) (by decide) (fun ρ9 m26 hq => ?_)
      obtain ⟨rfl, hR4, hF26, hr26, hw26⟩ := hq
      have hM9 := hM0.fr hF26 (by decide)
      have hs9 : MRow m26 s := (mK.l hF26 (by decide)).row hs0
      have hcl := hM9.2.2.1 c hi0.1 hi0.2
      refine tz_iload2 (n := 30) (g_at ck_X11_crossing 16 rfl) rfl ?_
      by_cases hk30_0 : w = 0
      · skip
        refine tz_tableIn (tgt := 68) (g_at ck_X11_crossing 17 rfl) ⟨hw.1, hw.2⟩ (by omega) (by omega) (by rw [hk30_0]; rfl) rfl ?_
        refine tz_aload0 (n := 69) (g_at ck_X11_crossing 18 rfl) rfl (g_ne kd_84) ?_
        refine tz_getAv (n := 72) (a := 85) fk_X11_16 kd_84 (ly_84_5 hL) (g_at ck_X11_crossing 19 rfl) rfl ?_
        refine tz_iload1 (n := 73) (g_at ck_X11_crossing 20 rfl) rfl ?_
        refine tz_iald (n := 74) kd_85 (by omega) (g_at ck_X11_crossing 21 rfl) rfl ?_
        rw [hcl.1]
        exact tz_iret (g_at ck_X11_crossing 22 rfl) rfl (rI_mk ⟨rfl, hR4, hk0.tr (mK.l hF26 (by decide)), by rw [hF26 84 (by decide), h00, hc0, hc1]; rfl, fun _ => by simp (disch := omega) only [if_pos, if_neg]⟩)
      by_cases hk30_1 : w = 1
      · skip
        refine tz_tableIn (tgt := 75) (g_at ck_X11_crossing 17 rfl) ⟨hw.1, hw.2⟩ (by omega) (by omega) (by rw [hk30_1]; rfl) rfl ?_
        refine tz_aload0 (n := 76) (g_at ck_X11_crossing 23 rfl) rfl (g_ne kd_84) ?_
        refine tz_getAv (n := 79) (a := 86) fk_X11_20 kd_84 (ly_84_6 hL) (g_at ck_X11_crossing 24 rfl) rfl ?_
        refine tz_iload1 (n := 80) (g_at ck_X11_crossing 25 rfl) rfl ?_
        refine tz_iald (n := 81) kd_86 (by omega) (g_at ck_X11_crossing 26 rfl) rfl ?_
        rw [hcl.2.1]
        exact tz_iret (g_at ck_X11_crossing 27 rfl) rfl (rI_mk ⟨rfl, hR4, hk0.tr (mK.l hF26 (by decide)), by rw [hF26 84 (by decide), h00, hc0, hc1]; rfl, fun _ => by simp (disch := omega) only [if_pos, if_neg]⟩)
      by_cases hk30_2 : w = 2
      · skip
        refine tz_tableIn (tgt := 82) (g_at ck_X11_crossing 17 rfl) ⟨hw.1, hw.2⟩ (by omega) (by omega) (by rw [hk30_2]; rfl) rfl ?_
        refine tz_aload0 (n := 83) (g_at ck_X11_crossing 28 rfl) rfl (g_ne kd_84) ?_
        refine tz_getAv (n := 86) (a := 87) fk_X11_23 kd_84 (ly_84_7 hL) (g_at ck_X11_crossing 29 rfl) rfl ?_
        refine tz_iload1 (n := 87) (g_at ck_X11_crossing 30 rfl) rfl ?_
        refine tz_iald (n := 88) kd_87 (by omega) (g_at ck_X11_crossing 31 rfl) rfl ?_
        rw [hcl.2.2]
        exact tz_iret (g_at ck_X11_crossing 32 rfl) rfl (rI_mk ⟨rfl, hR4, hk0.tr (mK.l hF26 (by decide)), by rw [hF26 84 (by decide), h00, hc0, hc1]; rfl, fun _ => by simp (disch := omega) only [if_pos, if_neg]⟩)
      by_cases hk30_3 : w = 3
      · skip
        refine tz_tableIn (tgt := 89) (g_at ck_X11_crossing 17 rfl) ⟨hw.1, hw.2⟩ (by omega) (by omega) (by rw [hk30_3]; rfl) rfl ?_
        refine tz_aload0 (n := 90) (g_at ck_X11_crossing 33 rfl) rfl (g_ne kd_84) ?_
        refine tz_getAv (n := 93) (a := 103) fk_X11_75 kd_84 (ly_84_43 hL) (g_at ck_X11_crossing 34 rfl) rfl ?_
        refine tz_bipush (n := 95) (g_at ck_X11_crossing 35 rfl) rfl rfl ?_
        refine tz_iload1 (n := 96) (g_at ck_X11_crossing 36 rfl) rfl ?_
        refine tz_iadd (n := 97) (g_at ck_X11_crossing 37 rfl) rfl ?_
        refine tz_iald (n := 98) kd_103 (by omega) (g_at ck_X11_crossing 38 rfl) rfl ?_
        rw [hs9 (17 + c) (by omega) (by omega)]
        exact tz_iret (g_at ck_X11_crossing 39 rfl) rfl (rI_mk ⟨rfl, hR4, hk0.tr (mK.l hF26 (by decide)), by rw [hF26 84 (by decide), h00, hc0, hc1]; rfl, fun _ => by simp (disch := omega) only [if_pos, if_neg]⟩)
      by_cases hk30_4 : w = 4
      · skip
        refine tz_tableIn (tgt := 99) (g_at ck_X11_crossing 17 rfl) ⟨hw.1, hw.2⟩ (by omega) (by omega) (by rw [hk30_4]; rfl) rfl ?_
        refine tz_aload0 (n := 100) (g_at ck_X11_crossing 40 rfl) rfl (g_ne kd_84) ?_
        refine tz_iconst (n := 101) (g_at ck_X11_crossing 41 rfl) rfl ?_
        refine tz_iload1 (n := 102) (g_at ck_X11_crossing 42 rfl) rfl ?_
        refine tz_cvI2 (n := 105) (μ' := μX11_standAt) (cb' := 0) (sb' := 0) ml_X11_326 mo_X11_standAt mv_X11_standAt np_X11_standAt kd_84 (g_at ck_X11_crossing 43 rfl) (mp_standAt hL hR4 (by rw [hM9.2.1]; omega) (Or.inl rfl) (by omega)) rfl rfl rfl ⟨by decide, by decide⟩ (Nat.le_of_ble_eq_true rfl) (by decide) (by decide) (fun x102 ρ9 m102 hq => ?_)
        obtain ⟨rfl, hR5, rfl, rfl⟩ := hq
        rw [std_0 hW hM9 hs9]
        exact tz_iret (g_at ck_X11_crossing 44 rfl) rfl (rI_mk ⟨rfl, hR5, hk0.tr (mK.l hF26 (by decide)), by rw [hF26 84 (by decide), h00, hc0, hc1]; rfl, fun _ => by simp (disch := omega) only [if_pos, if_neg]⟩)
      by_cases hk30_5 : w = 5
      · skip
        refine tz_tableIn (tgt := 106) (g_at ck_X11_crossing 17 rfl) ⟨hw.1, hw.2⟩ (by omega) (by omega) (by rw [hk30_5]; rfl) rfl ?_
        refine tz_aload0 (n := 107) (g_at ck_X11_crossing 45 rfl) rfl (g_ne kd_84) ?_
        refine tz_iload1 (n := 108) (g_at ck_X11_crossing 46 rfl) rfl ?_
        refine tz_cvI1 (n := 111) (μ' := μX11_partOf) (cb' := 0) (sb' := 0) ml_X11_368 mo_X11_partOf mv_X11_partOf np_X11_partOf kd_84 (g_at ck_X11_crossing 47 rfl) (mp_partOf hL hR4 hW hM9 hr26 hw26 hi0) rfl rfl rfl ⟨by decide, by decide⟩ (Nat.le_of_ble_eq_true rfl) (by decide) (by decide) (fun x108 ρ9 m108 hq => ?_)
        obtain ⟨rfl, hR6, rfl, rfl⟩ := hq
        exact tz_iret (g_at ck_X11_crossing 48 rfl) rfl (rI_mk ⟨rfl, hR6, hk0.tr (mK.l hF26 (by decide)), by rw [hF26 84 (by decide), h00, hc0, hc1]; rfl, fun _ => by simp (disch := omega) only [if_pos, if_neg]⟩)
      refine tz_tableOut (tgt := 112) (g_at ck_X11_crossing 17 rfl) ⟨hw.1, hw.2⟩ (by omega) rfl ?_
      refine tz_aload0 (n := 113) (g_at ck_X11_crossing 49 rfl) rfl (g_ne kd_84) ?_
      refine tz_iload1 (n := 114) (g_at ck_X11_crossing 50 rfl) rfl ?_
      refine tz_cvI1 (n := 117) (μ' := μX11_reachedFrom) (cb' := 0) (sb' := 0) ml_X11_399 mo_X11_reachedFrom mv_X11_reachedFrom np_X11_reachedFrom kd_84 (g_at ck_X11_crossing 51 rfl) (mp_reachedFrom hL hR4 hW hM9 hr26 hw26 hi0) rfl rfl rfl ⟨by decide, by decide⟩ (Nat.le_of_ble_eq_true rfl) (by decide) (by decide) (fun x114 ρ9 m114 hq => ?_)
      obtain ⟨rfl, hR7, rfl, rfl⟩ := hq
      exact tz_iret (g_at ck_X11_crossing 52 rfl) rfl (rI_mk ⟨rfl, hR7, hk0.tr (mK.l hF26 (by decide)), by rw [hF26 84 (by decide), h00, hc0, hc1]; rfl, fun _ => by simp (disch := omega) only [if_pos, if_neg]⟩)
    · skip
      refine tz_iconst (n := 24) (g_at ck_X11_crossing 12 rfl) rfl ?_
      exact tz_iret (g_at ck_X11_crossing 13 rfl) rfl (rI_mk ⟨rfl, hR3, by rw [(hq17.no h20).2]; exact hk0.tr mK.w0, by rw [(hq17.no h20).2, wr_same, hc0, sq0], fun h9 => absurd h9 (by rw [hc0, sq0]; exact (hq17.no h20).1)⟩)
theorem mp_road {l : Launch} {γ : Gh} {ρ m : Mm} {c r w : Int} (hc : -2147483648 ≤ c ∧ c < 2147483648) (hr : -2147483648 ≤ r ∧ r < 2147483648) (hw : -2147483648 ≤ w ∧ w < 2147483648) {s : Int → Int} {Λ : Mm} {hl tl : List Int} (hL : LY ρ) (hR : MR m) (hW : WL Λ) (hM : MLand m Λ hl tl) (hs : MRow m s) (hσ : WS Λ 0 (sig0 s)) (hz : m 84 51 = 0) : gE l γ μX11_road 3 0 0 (rI KK fun x ρ9 m9 => ρ = ρ9 ∧ MR m9 ∧ mK m m9 ∧ m9 84 0 = sq (cdR Λ c r) (cdW w 1) ∧ (sq (cdR Λ c r) (cdW w 1) = 0 → (if w = 0 then Λ 4 (c * 5 + r) else shutB (s (26 + c)) r) = x)) xN KK ρ m [vR 84, vI c, vI r, vI w] := by
  refine gE.ofw cl_X11.2 ?_ rfl rfl (Nat.le_of_ble_eq_true rfl)
  show gT l γ μX11_road 3 0 0 _ _ KK ρ m 0 [some (vR 84), some (vI c), some (vI r), some (vI w)] []
  have hn1 := hW.1
  have hn8 := hW.2.1
  refine tz_aload0 (n := 1) (g_at ck_X11_road 0 rfl) rfl (g_ne kd_84) ?_
  refine tz_iconst (n := 2) (g_at ck_X11_road 1 rfl) rfl ?_
  refine tz_putIr (n := 5) (kz := 0) fk_X11_132 kd_84 (g_at ck_X11_road 2 rfl) rfl hR ⟨(by decide), (by decide)⟩ rfl (fun hR1 => ?_)
  obtain ⟨m0, e0⟩ : ∃ m0, m0 = wr m 84 0 0 := ⟨_, rfl⟩
  rw [← e0] at hR1 ⊢
  have hk0 : mK m m0 := by rw [e0]; exact mK.w0
  have hM0 := hk0.land hM
  have hs0 := hk0.row hs
  have hz0 : m0 84 51 = 0 := hk0.w51.trans hz
  have h00 : m0 84 0 = 0 := by rw [e0, wr_same]
  have hw0 := hw_0 hz0
  refine tz_aload0 (n := 6) (g_at ck_X11_road 3 rfl) rfl (g_ne kd_84) ?_
  refine tz_iload1 (n := 7) (g_at ck_X11_road 4 rfl) rfl ?_
  refine tz_iload2 (n := 8) (g_at ck_X11_road 5 rfl) rfl ?_
  refine tz_cvI2 (n := 11) (μ' := μX11_isRoad) (cb' := 0) (sb' := 0) ml_X11_402 mo_X11_isRoad mv_X11_isRoad np_X11_isRoad kd_84 (g_at ck_X11_road 6 rfl) (mp_isRoad hc hr hL hR1 hW hM0 h00) rfl rfl rfl ⟨by decide, by decide⟩ (Nat.le_of_ble_eq_true rfl) (by decide) (by decide) (fun x8 ρ9 m8 hq => ?_)
  obtain ⟨rfl, hR2, hq8⟩ := hq
  refine tz_if_eq (n := 14) (tgt := 23) (g_at ck_X11_road 7 rfl) rfl rfl (by rcases hq8.b01 with h9 | h9 <;> omega) (fun h11 => ?_) (fun h11 => ?_)
  · skip
    refine tz_iconst (n := 24) (g_at ck_X11_road 13 rfl) rfl ?_
    exact tz_iret (g_at ck_X11_road 14 rfl) rfl (rI_mk ⟨rfl, hR2, by rw [(hq8.no h11).2]; exact hk0.tr mK.w0, by rw [(hq8.no h11).2, wr_same, sqn (hq8.no h11).1], fun h9 => absurd h9 (by rw [sqn (hq8.no h11).1]; exact (hq8.no h11).1)⟩)
  · skip
    obtain ⟨hc0, rfl⟩ := hq8.ok h11
    have hi0 := cdR_i hc0
    refine tz_aload0 (n := 15) (g_at ck_X11_road 8 rfl) rfl (g_ne kd_84) ?_
    refine tz_iload3 (n := 16) (g_at ck_X11_road 9 rfl) rfl ?_
    refine tz_iconst (n := 17) (g_at ck_X11_road 10 rfl) rfl ?_
    refine tz_cvI2 (n := 20) (μ' := μX11_isWhat) (cb' := 0) (sb' := 0) ml_X11_396 mo_X11_isWhat mv_X11_isWhat np_X11_isWhat kd_84 (g_at ck_X11_road 11 rfl) (mp_isWhat hw (by decide) hL hR2 h00) rfl rfl rfl ⟨by decide, by decide⟩ (Nat.le_of_ble_eq_true rfl) (by decide) (by decide) (fun x17 ρ9 m17 hq => ?_)
    obtain ⟨rfl, hR3, hq17⟩ := hq
    refine tz_if_ne (n := 23) (tgt := 25) (g_at ck_X11_road 12 rfl) rfl rfl (by rcases hq17.b01 with h9 | h9 <;> omega) (fun h20 => ?_) (fun h20 => ?_)
    · skip
      obtain ⟨hc1, rfl⟩ := hq17.ok h20
      have hi1 := cdW_i hc1
      have hcw := hW.2.2.1 c hi0.1 hi0.2.1
      refine tz_iload3 (n := 26) (g_at ck_X11_road 15 rfl) rfl ?_
      refine tz_if_ne (n := 29) (tgt := 42) (g_at ck_X11_road 16 rfl) rfl rfl hw (fun h26 => ?_) (fun h26 => ?_)
      · skip
        refine tz_aload0 (n := 43) (g_at ck_X11_road 26 rfl) rfl (g_ne kd_84) ?_
        refine tz_iconst (n := 44) (g_at ck_X11_road 27 rfl) rfl ?_
        refine tz_iload1 (n := 45) (g_at ck_X11_road 28 rfl) rfl ?_
        refine tz_iload2 (n := 46) (g_at ck_X11_road 29 rfl) rfl ?_
        refine tz_cvI3 (n := 49) (μ' := μX11_isShut) (cb' := 0) (sb' := 0) ml_X11_338 mo_X11_isShut mv_X11_isShut np_X11_isShut kd_84 (g_at ck_X11_road 30 rfl) (mp_isShut hL hR3 (Or.inl rfl) (by omega)) rfl rfl rfl ⟨by decide, by decide⟩ (Nat.le_of_ble_eq_true rfl) (by decide) (by decide) (fun x46 ρ9 m46 hq => ?_)
        obtain ⟨rfl, hR4, rfl, rfl⟩ := hq
        rw [show (0 : Int) + 26 + c = 26 + c by omega, hs0 (26 + c) (by omega) (by omega)]
        have h01 := shutB_01 (s (26 + c)) r
        refine tz_if_eq (n := 52) (tgt := 56) (g_at ck_X11_road 31 rfl) rfl rfl (by omega) (fun h49 => ?_) (fun h49 => ?_)
        · skip
          refine tz_iconst (n := 57) (g_at ck_X11_road 34 rfl) rfl ?_
          exact tz_iret (g_at ck_X11_road 35 rfl) rfl (rI_mk ⟨rfl, hR4, hk0, by rw [h00, hc0, hc1]; rfl, fun _ => (if_neg h26).trans h49⟩)
        · skip
          refine tz_iconst (n := 53) (g_at ck_X11_road 32 rfl) rfl ?_
          refine tz_goto (tgt := 57) (g_at ck_X11_road 33 rfl) rfl ?_
          exact tz_iret (g_at ck_X11_road 35 rfl) rfl (rI_mk ⟨rfl, hR4, hk0, by rw [h00, hc0, hc1]; rfl, fun _ => (if_neg h26).trans (by omega)⟩)
      · skip
        refine tz_aload0 (n := 30) (g_at ck_X11_road 17 rfl) rfl (g_ne kd_84) ?_
        refine tz_getAv (n := 33) (a := 88) fk_X11_26 kd_84 (ly_84_8 hL) (g_at ck_X11_road 18 rfl) rfl ?_
        refine tz_iconst (n := 34) (g_at ck_X11_road 19 rfl) rfl ?_
        refine tz_iload1 (n := 35) (g_at ck_X11_road 20 rfl) rfl ?_
        refine tz_imul (n := 36) (g_at ck_X11_road 21 rfl) rfl ?_
        refine tz_iload2 (n := 37) (g_at ck_X11_road 22 rfl) rfl ?_
        refine tz_iadd (n := 38) (g_at ck_X11_road 23 rfl) rfl ?_
        refine tz_iald (n := 39) kd_88 (by omega) (g_at ck_X11_road 24 rfl) rfl ?_
        rw [hM0.2.2.2.1 c r hi0.1 hi0.2.1 hi0.2.2.1 hi0.2.2.2]
        refine tz_goto (tgt := 57) (g_at ck_X11_road 25 rfl) rfl ?_
        exact tz_iret (g_at ck_X11_road 35 rfl) rfl (rI_mk ⟨rfl, hR3, hk0, by rw [h00, hc0, hc1]; rfl, fun _ => if_pos h26⟩)
    · skip
      refine tz_iconst (n := 24) (g_at ck_X11_road 13 rfl) rfl ?_
      exact tz_iret (g_at ck_X11_road 14 rfl) rfl (rI_mk ⟨rfl, hR3, by rw [(hq17.no h20).2]; exact hk0.tr mK.w0, by rw [(hq17.no h20).2, wr_same, hc0, sq0], fun h9 => absurd h9 (by rw [hc0, sq0]; exact (hq17.no h20).1)⟩)
theorem mp_person {l : Launch} {γ : Gh} {ρ m : Mm} {p w : Int} (hp : -2147483648 ≤ p ∧ p < 2147483648) (hw : -2147483648 ≤ w ∧ w < 2147483648) {s : Int → Int} {Λ : Mm} {hl tl : List Int} (hL : LY ρ) (hR : MR m) (hW : WL Λ) (hM : MLand m Λ hl tl) (hs : MRow m s) (hσ : WS Λ 0 (sig0 s)) (hz : m 84 51 = 0) : gE l γ μX11_person 4 0 0 (rI KK fun x ρ9 m9 => ρ = ρ9 ∧ MR m9 ∧ mK m m9 ∧ m9 84 0 = sq (cdP Λ p) (cdW w 4) ∧ (sq (cdP Λ p) (cdW w 4) = 0 → (w ≠ 3 → (if w = 0 then s (1 + p) else if w = 1 then Λ 5 p else if w = 2 then s (9 + p) else bcJ (stdB Λ (sig0 s) (s (1 + p))) - 1) = x) ∧ (w = 3 → ∃ T : Int → Int, LodgeOK Λ s T ∧ bdP Λ s T p = x))) xN KK ρ m [vR 84, vI p, vI w] := by
  refine gE.ofw cl_X11.2 ?_ rfl rfl (Nat.le_of_ble_eq_true rfl)
  show gT l γ μX11_person 4 0 0 _ _ KK ρ m 0 [some (vR 84), some (vI p), some (vI w)] []
  have hn1 := hW.1
  have hn8 := hW.2.1
  refine tz_aload0 (n := 1) (g_at ck_X11_person 0 rfl) rfl (g_ne kd_84) ?_
  refine tz_iconst (n := 2) (g_at ck_X11_person 1 rfl) rfl ?_
  refine tz_putIr (n := 5) (kz := 0) fk_X11_132 kd_84 (g_at ck_X11_person 2 rfl) rfl hR ⟨(by decide), (by decide)⟩ rfl (fun hR1 => ?_)
  obtain ⟨m0, e0⟩ : ∃ m0, m0 = wr m 84 0 0 := ⟨_, rfl⟩
  rw [← e0] at hR1 ⊢
  have hk0 : mK m m0 := by rw [e0]; exact mK.w0
  have hM0 := hk0.land hM
  have hs0 := hk0.row hs
  have hz0 : m0 84 51 = 0 := hk0.w51.trans hz
  have h00 : m0 84 0 = 0 := by rw [e0, wr_same]
  have hw0 := hw_0 hz0
  refine tz_aload0 (n := 6) (g_at ck_X11_person 3 rfl) rfl (g_ne kd_84) ?_
  refine tz_iload1 (n := 7) (g_at ck_X11_person 4 rfl) rfl ?_
  refine tz_cvI1 (n := 10) (μ' := μX11_isPerson) (cb' := 0) (sb' := 0) ml_X11_405 mo_X11_isPerson mv_X11_isPerson np_X11_isPerson kd_84 (g_at ck_X11_person 5 rfl) (mp_isPerson hp hL hR1 hW hM0 h00) rfl rfl rfl ⟨by decide, by decide⟩ (Nat.le_of_ble_eq_true rfl) (by decide) (by decide) (fun x7 ρ9 m7 hq => ?_)
  obtain ⟨rfl, hR2, hq7⟩ := hq
  refine tz_if_eq (n := 13) (tgt := 22) (g_at ck_X11_person 6 rfl) rfl rfl (by rcases hq7.b01 with h9 | h9 <;> omega) (fun h10 => ?_) (fun h10 => ?_)
  · skip
    refine tz_iconst (n := 23) (g_at ck_X11_person 12 rfl) rfl ?_
    exact tz_iret (g_at ck_X11_person 13 rfl) rfl (rI_mk ⟨rfl, hR2, by rw [(hq7.no h10).2]; exact hk0.tr mK.w0, by rw [(hq7.no h10).2, wr_same, sqn (hq7.no h10).1], fun h9 => absurd h9 (by rw [sqn (hq7.no h10).1]; exact (hq7.no h10).1)⟩)
  · skip
    obtain ⟨hc0, rfl⟩ := hq7.ok h10
    have hi0 := cdP_i hc0
    refine tz_aload0 (n := 14) (g_at ck_X11_person 7 rfl) rfl (g_ne kd_84) ?_
    refine tz_iload2 (n := 15) (g_at ck_X11_person 8 rfl) rfl ?_
    refine tz_iconst (n := 16) (g_at ck_X11_person 9 rfl) rfl ?_
    refine tz_cvI2 (n := 19) (μ' := μX11_isWhat) (cb' := 0) (sb' := 0) ml_X11_396 mo_X11_isWhat mv_X11_isWhat np_X11_isWhat kd_84 (g_at ck_X11_person 10 rfl) (mp_isWhat hw (by decide) hL hR2 h00) rfl rfl rfl ⟨by decide, by decide⟩ (Nat.le_of_ble_eq_true rfl) (by decide) (by decide) (fun x16 ρ9 m16 hq => ?_)
    obtain ⟨rfl, hR3, hq16⟩ := hq
    refine tz_if_ne (n := 22) (tgt := 24) (g_at ck_X11_person 11 rfl) rfl rfl (by rcases hq16.b01 with h9 | h9 <;> omega) (fun h19 => ?_) (fun h19 => ?_)
    · skip
      obtain ⟨hc1, rfl⟩ := hq16.ok h19
      have hi1 := cdW_i hc1
      have hpw := sig0_WS_n hσ hi0
      refine tz_iload2 (n := 25) (g_at ck_X11_person 14 rfl) rfl ?_
      by_cases hk25_0 : w = 0
      · skip
        refine tz_tableIn (tgt := 56) (g_at ck_X11_person 15 rfl) ⟨hw.1, hw.2⟩ (by omega) (by omega) (by rw [hk25_0]; rfl) rfl ?_
        refine tz_aload0 (n := 57) (g_at ck_X11_person 16 rfl) rfl (g_ne kd_84) ?_
        refine tz_getAv (n := 60) (a := 103) fk_X11_75 kd_84 (ly_84_43 hL) (g_at ck_X11_person 17 rfl) rfl ?_
        refine tz_iconst (n := 61) (g_at ck_X11_person 18 rfl) rfl ?_
        refine tz_iload1 (n := 62) (g_at ck_X11_person 19 rfl) rfl ?_
        refine tz_iadd (n := 63) (g_at ck_X11_person 20 rfl) rfl ?_
        refine tz_iald (n := 64) kd_103 (by omega) (g_at ck_X11_person 21 rfl) rfl ?_
        rw [hs0 (1 + p) (by omega) (by omega)]
        exact tz_iret (g_at ck_X11_person 22 rfl) rfl (rI_mk ⟨rfl, hR3, hk0, by rw [h00, hc0, hc1]; rfl, fun _ => ⟨fun _ => by simp (disch := omega) only [if_pos, if_neg], fun h9 => absurd h9 (by omega)⟩⟩)
      by_cases hk25_1 : w = 1
      · skip
        refine tz_tableIn (tgt := 65) (g_at ck_X11_person 15 rfl) ⟨hw.1, hw.2⟩ (by omega) (by omega) (by rw [hk25_1]; rfl) rfl ?_
        refine tz_aload0 (n := 66) (g_at ck_X11_person 23 rfl) rfl (g_ne kd_84) ?_
        refine tz_getAv (n := 69) (a := 89) fk_X11_29 kd_84 (ly_84_9 hL) (g_at ck_X11_person 24 rfl) rfl ?_
        refine tz_iload1 (n := 70) (g_at ck_X11_person 25 rfl) rfl ?_
        refine tz_iald (n := 71) kd_89 (by omega) (g_at ck_X11_person 26 rfl) rfl ?_
        rw [hM0.2.2.2.2.1 p hi0.1 hi0.2]
        exact tz_iret (g_at ck_X11_person 27 rfl) rfl (rI_mk ⟨rfl, hR3, hk0, by rw [h00, hc0, hc1]; rfl, fun _ => ⟨fun _ => by simp (disch := omega) only [if_pos, if_neg], fun h9 => absurd h9 (by omega)⟩⟩)
      by_cases hk25_2 : w = 2
      · skip
        refine tz_tableIn (tgt := 72) (g_at ck_X11_person 15 rfl) ⟨hw.1, hw.2⟩ (by omega) (by omega) (by rw [hk25_2]; rfl) rfl ?_
        refine tz_aload0 (n := 73) (g_at ck_X11_person 28 rfl) rfl (g_ne kd_84) ?_
        refine tz_getAv (n := 76) (a := 103) fk_X11_75 kd_84 (ly_84_43 hL) (g_at ck_X11_person 29 rfl) rfl ?_
        refine tz_bipush (n := 78) (g_at ck_X11_person 30 rfl) rfl rfl ?_
        refine tz_iload1 (n := 79) (g_at ck_X11_person 31 rfl) rfl ?_
        refine tz_iadd (n := 80) (g_at ck_X11_person 32 rfl) rfl ?_
        refine tz_iald (n := 81) kd_103 (by omega) (g_at ck_X11_person 33 rfl) rfl ?_
        rw [hs0 (9 + p) (by omega) (by omega)]
        exact tz_iret (g_at ck_X11_person 34 rfl) rfl (rI_mk ⟨rfl, hR3, hk0, by rw [h00, hc0, hc1]; rfl, fun _ => ⟨fun _ => by simp (disch := omega) only [if_pos, if_neg], fun h9 => absurd h9 (by omega)⟩⟩)
      by_cases hk25_3 : w = 3
      · skip
        refine tz_tableIn (tgt := 82) (g_at ck_X11_person 15 rfl) ⟨hw.1, hw.2⟩ (by omega) (by omega) (by rw [hk25_3]; rfl) rfl ?_
        refine tz_aload0 (n := 83) (g_at ck_X11_person 35 rfl) rfl (g_ne kd_84) ?_
        refine tz_iload1 (n := 84) (g_at ck_X11_person 36 rfl) rfl ?_
        refine tz_cvI1 (n := 87) (μ' := μX11_bedOf) (cb' := 0) (sb' := 0) ml_X11_408 mo_X11_bedOf mv_X11_bedOf np_X11_bedOf kd_84 (g_at ck_X11_person 37 rfl) (mp_bedOf hL hR3 hW hM0 hs0 hσ hz0 hi0) rfl rfl rfl ⟨by decide, by decide⟩ (Nat.le_of_ble_eq_true rfl) (by decide) (by decide) (fun x84 ρ9 m84 hq => ?_)
        obtain ⟨rfl, hR4, hF84, hx84⟩ := hq
        exact tz_iret (g_at ck_X11_person 38 rfl) rfl (rI_mk ⟨rfl, hR4, hk0.tr (mK.l hF84 (by decide)), by rw [hF84 84 (by decide), h00, hc0, hc1]; rfl, fun _ => ⟨fun h9 => absurd hk25_3 h9, fun _ => ⟨tM Λ s, tM_ok hW, hx84⟩⟩⟩)
      refine tz_tableOut (tgt := 88) (g_at ck_X11_person 15 rfl) ⟨hw.1, hw.2⟩ (by omega) rfl ?_
      refine tz_aload0 (n := 89) (g_at ck_X11_person 39 rfl) rfl (g_ne kd_84) ?_
      refine tz_iconst (n := 90) (g_at ck_X11_person 40 rfl) rfl ?_
      refine tz_aload0 (n := 91) (g_at ck_X11_person 41 rfl) rfl (g_ne kd_84) ?_
      refine tz_getAv (n := 94) (a := 103) fk_X11_75 kd_84 (ly_84_43 hL) (g_at ck_X11_person 42 rfl) rfl ?_
      refine tz_iconst (n := 95) (g_at ck_X11_person 43 rfl) rfl ?_
      refine tz_iload1 (n := 96) (g_at ck_X11_person 44 rfl) rfl ?_
      refine tz_iadd (n := 97) (g_at ck_X11_person 45 rfl) rfl ?_
      refine tz_iald (n := 98) kd_103 (by omega) (g_at ck_X11_person 46 rfl) rfl ?_
      rw [hs0 (1 + p) (by omega) (by omega)]
      refine tz_cvI2 (n := 101) (μ' := μX11_standAt) (cb' := 0) (sb' := 0) ml_X11_326 mo_X11_standAt mv_X11_standAt np_X11_standAt kd_84 (g_at ck_X11_person 47 rfl) (mp_standAt hL hR3 (by rw [hM0.2.1]; omega) (Or.inl rfl) (by omega)) rfl rfl rfl ⟨by decide, by decide⟩ (Nat.le_of_ble_eq_true rfl) (by decide) (by decide) (fun x98 ρ9 m98 hq => ?_)
      obtain ⟨rfl, hR5, rfl, rfl⟩ := hq
      rw [std_0 hW hM0 hs0]
      refine tz_csI1 (n := 104) (μ' := μX11_bits) (cb' := 0) (sb' := 0) ml_X11_329 mo_X11_bits ms_X11_bits np_X11_bits (g_at ck_X11_person 48 rfl) (mp_bits hR5) rfl rfl ⟨by decide, by decide⟩ (Nat.le_of_ble_eq_true rfl) (by decide) (by decide) (fun x101 ρ9 m101 hq => ?_)
      obtain ⟨rfl, hR6, rfl, rfl⟩ := hq
      rw [(bm_512 (stdB_rg hW)).1]
      refine tz_iconst (n := 105) (g_at ck_X11_person 49 rfl) rfl ?_
      refine tz_isub (n := 106) (g_at ck_X11_person 50 rfl) rfl ?_
      exact tz_iret (g_at ck_X11_person 51 rfl) rfl (rI_mk ⟨rfl, hR6, hk0, by rw [h00, hc0, hc1]; rfl, fun _ => ⟨fun _ => by simp (disch := omega) only [if_pos, if_neg], fun h9 => absurd h9 (by omega)⟩⟩)
    · skip
      refine tz_iconst (n := 23) (g_at ck_X11_person 12 rfl) rfl ?_
      exact tz_iret (g_at ck_X11_person 13 rfl) rfl (rI_mk ⟨rfl, hR3, by rw [(hq16.no h19).2]; exact hk0.tr mK.w0, by rw [(hq16.no h19).2, wr_same, hc0, sq0], fun h9 => absurd h9 (by rw [hc0, sq0]; exact (hq16.no h19).1)⟩)
