/-! The reference: shut, see, restore, days. -/
theorem wr_up {m : Mm} {a k x : Int} : wr m a k x a = up (m a) k x := funext fun j => wr_at
theorem sh16 {r : Int} (h : 0 ≤ r ∧ r < 5) : 0 ≤ bShl 1 r ∧ bShl 1 r ≤ 16 := by
  have e := bShl_1 r.toNat (by omega)
  have p : 2 ^ r.toNat ≤ 2 ^ 4 := Nat.pow_le_pow_right (by decide) (by omega)
  rw [show ((r.toNat : Nat) : Int) = r by omega] at e
  obtain ⟨k, ek⟩ : ∃ k, k = 2 ^ r.toNat := ⟨_, rfl⟩
  rw [← ek] at e p
  omega
theorem mp_shut {l : Launch} {γ : Gh} {ρ m : Mm} {c r b : Int} (hc : -2147483648 ≤ c ∧ c < 2147483648) (hr : -2147483648 ≤ r ∧ r < 2147483648) (hb : b = 0 ∨ b = 1) {s : Int → Int} {Λ : Mm} {hl tl : List Int} (hL : LY ρ) (hR : MR m) (hW : WL Λ) (hM : MLand m Λ hl tl) (hs : MRow m s) (hσ : WS Λ 0 (sig0 s)) (hz : m 84 51 = 0) {n : Int} {α : Mm} (hA : AcM m n α) (hn : 0 ≤ n ∧ n ≤ 40) (hf : ∀ k, 0 ≤ k → k < 3 → m 92 k < 2000000000) : gE l γ μX11_shut 3 0 0 (rI KK fun x ρ9 m9 => ρ = ρ9 ∧ MR m9 ∧ m9 84 0 = cdR Λ c r ∧ (cdR Λ c r ≠ 0 → FX [84] [0] m m9) ∧ (cdR Λ c r = 0 → (shutB (s (26 + c)) r = b → x = 0 ∧ RfX m m9 1) ∧ (¬ (shutB (s (26 + c)) r = b) → x = 1 ∧ AcM m9 (keepN n) (keepA n α s) ∧ MRow m9 (up s (26 + c) (bXor (s (26 + c)) (bShl 1 r))) ∧ FX [84, 103, 104] [0, 45] m m9))) xN KK ρ m [vR 84, vI c, vI r, vI b] := by
  refine gE.ofw cl_X11.2 ?_ rfl rfl (Nat.le_of_ble_eq_true rfl)
  show gT l γ μX11_shut 3 0 0 _ _ KK ρ m 0 [some (vR 84), some (vI c), some (vI r), some (vI b)] []
  have hn1 := hW.1
  have hn8 := hW.2.1
  refine tz_aload0 (n := 1) (g_at ck_X11_shut 0 rfl) rfl (g_ne kd_84) ?_
  refine tz_iconst (n := 2) (g_at ck_X11_shut 1 rfl) rfl ?_
  refine tz_putIr (n := 5) (kz := 0) fk_X11_132 kd_84 (g_at ck_X11_shut 2 rfl) rfl hR ⟨(by decide), (by decide)⟩ rfl (fun hR1 => ?_)
  obtain ⟨m0, e0⟩ : ∃ m0, m0 = wr m 84 0 0 := ⟨_, rfl⟩
  rw [← e0] at hR1 ⊢
  have hk0 : mK m m0 := by rw [e0]; exact mK.w0
  have hM0 := hk0.land hM
  have hs0 := hk0.row hs
  have hz0 : m0 84 51 = 0 := hk0.w51.trans hz
  have h00 : m0 84 0 = 0 := by rw [e0, wr_same]
  have hw0 := hw_0 hz0
  have hU0 : FX [84] [0] m m0 := by rw [e0]; exact FX.w0
  have hA0 := hA.x hU0 (by decide) (by decide)
  have hf0 : ∀ k, 0 ≤ k → k < 3 → m0 92 k < 2000000000 := by rw [hU0.1 92 (by decide)]; exact hf
  refine tz_aload0 (n := 6) (g_at ck_X11_shut 3 rfl) rfl (g_ne kd_84) ?_
  refine tz_iload1 (n := 7) (g_at ck_X11_shut 4 rfl) rfl ?_
  refine tz_iload2 (n := 8) (g_at ck_X11_shut 5 rfl) rfl ?_
  refine tz_cvI2 (n := 11) (μ' := μX11_isRoad) (cb' := 0) (sb' := 0) ml_X11_402 mo_X11_isRoad mv_X11_isRoad np_X11_isRoad kd_84 (g_at ck_X11_shut 6 rfl) (mp_isRoad hc hr hL hR1 hW hM0 h00) rfl rfl rfl ⟨by decide, by decide⟩ (Nat.le_of_ble_eq_true rfl) (by decide) (by decide) (fun x8 ρ9 m8 hq => ?_)
  obtain ⟨rfl, hR2, hq8⟩ := hq
  refine tz_if_ne (n := 14) (tgt := 16) (g_at ck_X11_shut 7 rfl) rfl rfl (by rcases hq8.b01 with h9 | h9 <;> omega) (fun h11 => ?_) (fun h11 => ?_)
  · skip
    obtain ⟨hc0, rfl⟩ := hq8.ok h11
    have hi0 := cdR_i hc0
    have hcw := hW.2.2.1 c hi0.1 hi0.2.1
    have hsc := sig0_WS_c hσ (c := c) ⟨hi0.1, hi0.2.1⟩
    refine tz_aload0 (n := 17) (g_at ck_X11_shut 10 rfl) rfl (g_ne kd_84) ?_
    refine tz_iconst (n := 18) (g_at ck_X11_shut 11 rfl) rfl ?_
    refine tz_iload1 (n := 19) (g_at ck_X11_shut 12 rfl) rfl ?_
    refine tz_iload2 (n := 20) (g_at ck_X11_shut 13 rfl) rfl ?_
    refine tz_cvI3 (n := 23) (μ' := μX11_isShut) (cb' := 0) (sb' := 0) ml_X11_338 mo_X11_isShut mv_X11_isShut np_X11_isShut kd_84 (g_at ck_X11_shut 14 rfl) (mp_isShut hL hR2 (Or.inl rfl) (by omega)) rfl rfl rfl ⟨by decide, by decide⟩ (Nat.le_of_ble_eq_true rfl) (by decide) (by decide) (fun x20 ρ9 m20 hq => ?_)
    obtain ⟨rfl, hR3, rfl, rfl⟩ := hq
    rw [show (0 : Int) + 26 + c = 26 + c by omega, hs0 (26 + c) (by omega) (by omega)]
    have h01 := shutB_01 (s (26 + c)) r
    have hxo := xor_i (x := s (26 + c)) (r := r) (by omega) (by omega)
    have h16 := sh16 (r := r) (by omega)
    refine tz_iload3 (n := 24) (g_at ck_X11_shut 15 rfl) rfl ?_
    refine tz_icmp_ne (n := 27) (tgt := 41) (g_at ck_X11_shut 16 rfl) rfl rfl (by omega) (fun h24 => ?_) (fun h24 => ?_)
    · skip
      refine tz_aload0 (n := 42) (g_at ck_X11_shut 25 rfl) rfl (g_ne kd_84) ?_
      refine tz_cvV0 (n := 45) (μ' := μX11_keeps) (cb' := 0) (sb' := 0) ml_X11_414 mo_X11_keeps mv_X11_keeps np_X11_keeps kd_84 (g_at ck_X11_shut 26 rfl) (mp_keeps hL hR3 hA0 hn hs0) rfl rfl rfl ⟨by decide, by decide⟩ (Nat.le_of_ble_eq_true rfl) (by decide) (by decide) (fun ρ9 m42 hq => ?_)
      obtain ⟨rfl, hR4, hA42, hX42⟩ := hq
      have hs9 := hs0.x hX42 (by decide)
      have hV9 : FX [84, 103, 104] [0, 45] m m42 := (hU0.sub (by decide) (by decide)).tr (hX42.sub (by decide) (by decide))
      refine tz_aload0 (n := 46) (g_at ck_X11_shut 27 rfl) rfl (g_ne kd_84) ?_
      refine tz_getAv (n := 49) (a := 103) fk_X11_75 kd_84 (ly_84_43 hL) (g_at ck_X11_shut 28 rfl) rfl ?_
      refine tz_bipush (n := 51) (g_at ck_X11_shut 29 rfl) rfl rfl ?_
      refine tz_iload1 (n := 52) (g_at ck_X11_shut 30 rfl) rfl ?_
      refine tz_iadd (n := 53) (g_at ck_X11_shut 31 rfl) rfl ?_
      refine tz_dup2 (n := 54) (g_at ck_X11_shut 32 rfl) rfl ?_
      refine tz_iald (n := 55) kd_103 (by omega) (g_at ck_X11_shut 33 rfl) rfl ?_
      rw [hs9 (26 + c) (by omega) (by omega)]
      refine tz_iload3 (n := 56) (g_at ck_X11_shut 34 rfl) rfl ?_
      refine tz_if_eq (n := 59) (tgt := 65) (g_at ck_X11_shut 35 rfl) rfl rfl (by omega) (fun h56 => ?_) (fun h56 => ?_)
      · skip
        refine tz_iconst (n := 66) (g_at ck_X11_shut 40 rfl) rfl ?_
        refine tz_iconst (n := 67) (g_at ck_X11_shut 41 rfl) rfl ?_
        refine tz_iload2 (n := 68) (g_at ck_X11_shut 42 rfl) rfl ?_
        refine tz_ishl (n := 69) (g_at ck_X11_shut 43 rfl) rfl ?_
        refine tz_isub (n := 70) (g_at ck_X11_shut 44 rfl) rfl ?_
        refine tz_iadd (n := 71) (g_at ck_X11_shut 45 rfl) rfl ?_
        rw [← hxo.2 (by omega)]
        refine tz_iastr (n := 72) kd_103 (by omega) (g_at ck_X11_shut 46 rfl) rfl hR4 (bXor_rg _ _) (fun hR5 => ?_)
        refine tz_iconst (n := 73) (g_at ck_X11_shut 47 rfl) rfl ?_
        exact tz_bret (g_at ck_X11_shut 48 rfl) rfl (by decide) (rI_mk ⟨rfl, hR5, by rw [wr_ne (by decide), hX42.2 0 (by decide), h00, hc0], fun h9 => absurd (by rw [hc0]) h9, fun _ => ⟨fun h9 => absurd h9 h24, fun _ => ⟨rfl, hA42.x (L := [103]) (ks := []) (FX.rf.w (by decide) (fun h9 => absurd h9 (by decide))) (by decide) (by decide), hs9.up, hV9.w (by decide) (fun h9 => absurd h9 (by decide))⟩⟩⟩)
      · skip
        refine tz_iconst (n := 60) (g_at ck_X11_shut 36 rfl) rfl ?_
        refine tz_iload2 (n := 61) (g_at ck_X11_shut 37 rfl) rfl ?_
        refine tz_ishl (n := 62) (g_at ck_X11_shut 38 rfl) rfl ?_
        refine tz_goto (tgt := 70) (g_at ck_X11_shut 39 rfl) rfl ?_
        refine tz_iadd (n := 71) (g_at ck_X11_shut 45 rfl) rfl ?_
        rw [← hxo.1 (by omega)]
        refine tz_iastr (n := 72) kd_103 (by omega) (g_at ck_X11_shut 46 rfl) rfl hR4 (bXor_rg _ _) (fun hR6 => ?_)
        refine tz_iconst (n := 73) (g_at ck_X11_shut 47 rfl) rfl ?_
        exact tz_bret (g_at ck_X11_shut 48 rfl) rfl (by decide) (rI_mk ⟨rfl, hR6, by rw [wr_ne (by decide), hX42.2 0 (by decide), h00, hc0], fun h9 => absurd (by rw [hc0]) h9, fun _ => ⟨fun h9 => absurd h9 h24, fun _ => ⟨rfl, hA42.x (L := [103]) (ks := []) (FX.rf.w (by decide) (fun h9 => absurd h9 (by decide))) (by decide) (by decide), hs9.up, hV9.w (by decide) (fun h9 => absurd h9 (by decide))⟩⟩⟩)
    · skip
      refine tz_aload0 (n := 28) (g_at ck_X11_shut 17 rfl) rfl (g_ne kd_84) ?_
      refine tz_iconst (n := 29) (g_at ck_X11_shut 18 rfl) rfl ?_
      refine tz_cvI1 (n := 32) (μ' := μX11_refuses) (cb' := 0) (sb' := 0) ml_X11_411 mo_X11_refuses mv_X11_refuses np_X11_refuses kd_84 (g_at ck_X11_shut 19 rfl) (mp_refuses hL hR3 (by decide) (hf0 1 (by decide) (by decide))) rfl rfl rfl ⟨by decide, by decide⟩ (Nat.le_of_ble_eq_true rfl) (by decide) (by decide) (fun x29 ρ9 m29 hq => ?_)
      obtain ⟨rfl, hR7, rfl, rfl⟩ := hq
      refine tz_if_le (n := 35) (tgt := 39) (g_at ck_X11_shut 20 rfl) rfl rfl (by decide) (fun h32 => ?_) (fun h32 => absurd h32 (by omega))
      refine tz_iconst (n := 40) (g_at ck_X11_shut 23 rfl) rfl ?_
      exact tz_bret (g_at ck_X11_shut 24 rfl) rfl (by decide) (rI_mk ⟨rfl, hR7, by rw [wr_ne (by decide), h00, hc0], fun h9 => absurd (by rw [hc0]) h9, fun _ => ⟨fun _ => ⟨rfl, RfX.mk hU0⟩, fun h9 => absurd h24 h9⟩⟩)
  · skip
    refine tz_iconst (n := 15) (g_at ck_X11_shut 8 rfl) rfl ?_
    exact tz_bret (g_at ck_X11_shut 9 rfl) rfl (by decide) (rI_mk ⟨rfl, hR2, by rw [(hq8.no h11).2, wr_same], fun _ => by rw [(hq8.no h11).2]; exact hU0.w (by decide) (fun _ => by decide), fun h9 => absurd h9 (by rw [show (0:Int) = 0 from rfl]; exact (hq8.no h11).1)⟩)
theorem mp_see {l : Launch} {γ : Gh} {ρ m : Mm} {p c y : Int} (hp : -2147483648 ≤ p ∧ p < 2147483648) (hc : -2147483648 ≤ c ∧ c < 2147483648) (hy : -2147483648 ≤ y ∧ y < 2147483648) {s : Int → Int} {Λ : Mm} {hl tl : List Int} (hL : LY ρ) (hR : MR m) (hW : WL Λ) (hM : MLand m Λ hl tl) (hs : MRow m s) (hσ : WS Λ 0 (sig0 s)) (hz : m 84 51 = 0) {κ : Mm} (hK : MSeen m κ) (hκ : WK Λ κ) (hf : ∀ k, 0 ≤ k → k < 3 → m 92 k < 2000000000) {n : Int} {α : Mm} (hA : AcM m n α) : gE l γ μX11_see 2 0 0 (rI KK fun x ρ9 m9 => ρ = ρ9 ∧ MR m9 ∧ m9 84 0 = sq (cdP Λ p) (cdC Λ c) ∧ (sq (cdP Λ p) (cdC Λ c) ≠ 0 → FX [84] [0] m m9) ∧ (sq (cdP Λ p) (cdC Λ c) = 0 → ((8 ≤ κ 0 0 ∨ y < 0 ∨ 20 < y) → x = -1 ∧ RfX m m9 2) ∧ (¬ (8 ≤ κ 0 0 ∨ y < 0 ∨ 20 < y) → κ 0 0 + 1 = x ∧ MSeen m9 (seeP κ p c y) ∧ FX [84, 116] [0, 58] m m9))) xN KK ρ m [vR 84, vI p, vI c, vI y] := by
  refine gE.ofw cl_X11.2 ?_ rfl rfl (Nat.le_of_ble_eq_true rfl)
  show gT l γ μX11_see 2 0 0 _ _ KK ρ m 0 [some (vR 84), some (vI p), some (vI c), some (vI y)] []
  have hn1 := hW.1
  have hn8 := hW.2.1
  refine tz_aload0 (n := 1) (g_at ck_X11_see 0 rfl) rfl (g_ne kd_84) ?_
  refine tz_iconst (n := 2) (g_at ck_X11_see 1 rfl) rfl ?_
  refine tz_putIr (n := 5) (kz := 0) fk_X11_132 kd_84 (g_at ck_X11_see 2 rfl) rfl hR ⟨(by decide), (by decide)⟩ rfl (fun hR1 => ?_)
  obtain ⟨m0, e0⟩ : ∃ m0, m0 = wr m 84 0 0 := ⟨_, rfl⟩
  rw [← e0] at hR1 ⊢
  have hk0 : mK m m0 := by rw [e0]; exact mK.w0
  have hM0 := hk0.land hM
  have hs0 := hk0.row hs
  have hz0 : m0 84 51 = 0 := hk0.w51.trans hz
  have h00 : m0 84 0 = 0 := by rw [e0, wr_same]
  have hw0 := hw_0 hz0
  have hU0 : FX [84] [0] m m0 := by rw [e0]; exact FX.w0
  have hA0 := hA.x hU0 (by decide) (by decide)
  have hf0 : ∀ k, 0 ≤ k → k < 3 → m0 92 k < 2000000000 := by rw [hU0.1 92 (by decide)]; exact hf
  refine tz_aload0 (n := 6) (g_at ck_X11_see 3 rfl) rfl (g_ne kd_84) ?_
  refine tz_iload1 (n := 7) (g_at ck_X11_see 4 rfl) rfl ?_
  refine tz_cvI1 (n := 10) (μ' := μX11_isPerson) (cb' := 0) (sb' := 0) ml_X11_405 mo_X11_isPerson mv_X11_isPerson np_X11_isPerson kd_84 (g_at ck_X11_see 5 rfl) (mp_isPerson hp hL hR1 hW hM0 h00) rfl rfl rfl ⟨by decide, by decide⟩ (Nat.le_of_ble_eq_true rfl) (by decide) (by decide) (fun x7 ρ9 m7 hq => ?_)
  obtain ⟨rfl, hR2, hq7⟩ := hq
  refine tz_if_eq (n := 13) (tgt := 21) (g_at ck_X11_see 6 rfl) rfl rfl (by rcases hq7.b01 with h9 | h9 <;> omega) (fun h10 => ?_) (fun h10 => ?_)
  · skip
    refine tz_iconst (n := 22) (g_at ck_X11_see 11 rfl) rfl ?_
    exact tz_iret (g_at ck_X11_see 12 rfl) rfl (rI_mk ⟨rfl, hR2, by rw [(hq7.no h10).2, wr_same, sqn (hq7.no h10).1], fun _ => by rw [(hq7.no h10).2]; exact hU0.w (by decide) (fun _ => by decide), fun h9 => absurd h9 (by rw [sqn (hq7.no h10).1]; exact (hq7.no h10).1)⟩)
  · skip
    obtain ⟨hc0, rfl⟩ := hq7.ok h10
    have hi0 := cdP_i hc0
    refine tz_aload0 (n := 14) (g_at ck_X11_see 7 rfl) rfl (g_ne kd_84) ?_
    refine tz_iload2 (n := 15) (g_at ck_X11_see 8 rfl) rfl ?_
    refine tz_cvI1 (n := 18) (μ' := μX11_isCrossing) (cb' := 0) (sb' := 0) ml_X11_393 mo_X11_isCrossing mv_X11_isCrossing np_X11_isCrossing kd_84 (g_at ck_X11_see 9 rfl) (mp_isCrossing hc hL hR2 hW hM0 h00) rfl rfl rfl ⟨by decide, by decide⟩ (Nat.le_of_ble_eq_true rfl) (by decide) (by decide) (fun x15 ρ9 m15 hq => ?_)
    obtain ⟨rfl, hR3, hq15⟩ := hq
    refine tz_if_ne (n := 21) (tgt := 23) (g_at ck_X11_see 10 rfl) rfl rfl (by rcases hq15.b01 with h9 | h9 <;> omega) (fun h18 => ?_) (fun h18 => ?_)
    · skip
      obtain ⟨hc1, rfl⟩ := hq15.ok h18
      have hi1 := cdC_i hc1
      have hK0 := hK.x hU0 (by decide) (by decide)
      have hκ0 := hκ.1
      refine tz_aload0 (n := 24) (g_at ck_X11_see 13 rfl) rfl (g_ne kd_84) ?_
      refine tz_getIw (n := 27) (kz := 58) fk_X11_315 kd_84 (g_at ck_X11_see 14 rfl) rfl rfl ?_
      rw [hK0.1]
      refine tz_bipush (n := 29) (g_at ck_X11_see 15 rfl) rfl rfl ?_
      refine tz_icmp_eq (n := 32) (tgt := 42) (g_at ck_X11_see 16 rfl) rfl rfl (by omega) (fun h29 => ?_) (fun h29 => ?_)
      · skip
        refine tz_aload0 (n := 43) (g_at ck_X11_see 22 rfl) rfl (g_ne kd_84) ?_
        refine tz_iconst (n := 44) (g_at ck_X11_see 23 rfl) rfl ?_
        refine tz_cvI1 (n := 47) (μ' := μX11_refuses) (cb' := 0) (sb' := 0) ml_X11_411 mo_X11_refuses mv_X11_refuses np_X11_refuses kd_84 (g_at ck_X11_see 24 rfl) (mp_refuses hL hR3 (by decide) (hf0 2 (by decide) (by decide))) rfl rfl rfl ⟨by decide, by decide⟩ (Nat.le_of_ble_eq_true rfl) (by decide) (by decide) (fun x44 ρ9 m44 hq => ?_)
        obtain ⟨rfl, hR4, rfl, rfl⟩ := hq
        exact tz_iret (g_at ck_X11_see 25 rfl) rfl (rI_mk ⟨rfl, hR4, by rw [wr_ne (by decide), h00, hc0, hc1]; rfl, fun h9 => absurd (by rw [hc0, hc1]; rfl) h9, fun _ => ⟨fun _ => ⟨rfl, RfX.mk hU0⟩, fun h9 => absurd (Or.inl (by omega)) h9⟩⟩)
      · skip
        refine tz_iload3 (n := 33) (g_at ck_X11_see 17 rfl) rfl ?_
        refine tz_iconst (n := 34) (g_at ck_X11_see 18 rfl) rfl ?_
        refine tz_bipush (n := 36) (g_at ck_X11_see 19 rfl) rfl rfl ?_
        refine tz_csI3 (n := 39) (μ' := μX11_within) (cb' := 0) (sb' := 0) ml_X11_374 mo_X11_within ms_X11_within np_X11_within (g_at ck_X11_see 20 rfl) (mp_within hR3 hy (by decide) (by decide)) rfl rfl ⟨by decide, by decide⟩ (Nat.le_of_ble_eq_true rfl) (by decide) (by decide) (fun x36 ρ9 m36 hq => ?_)
        obtain ⟨rfl, hR5, rfl, rfl⟩ := hq
        have h01 := wiF_01 y 0 20
        refine tz_if_ne (n := 42) (tgt := 48) (g_at ck_X11_see 21 rfl) rfl rfl (by omega) (fun h39 => ?_) (fun h39 => ?_)
        · skip
          refine tz_aload0 (n := 49) (g_at ck_X11_see 26 rfl) rfl (g_ne kd_84) ?_
          refine tz_getAv (n := 52) (a := 116) fk_X11_114 kd_84 (ly_84_59 hL) (g_at ck_X11_see 27 rfl) rfl ?_
          refine tz_iconst (n := 53) (g_at ck_X11_see 28 rfl) rfl ?_
          refine tz_aload0 (n := 54) (g_at ck_X11_see 29 rfl) rfl (g_ne kd_84) ?_
          refine tz_getIw (n := 57) (kz := 58) fk_X11_315 kd_84 (g_at ck_X11_see 30 rfl) rfl rfl ?_
          rw [hK0.1]
          refine tz_imul (n := 58) (g_at ck_X11_see 31 rfl) rfl ?_
          refine tz_iload1 (n := 59) (g_at ck_X11_see 32 rfl) rfl ?_
          refine tz_iastr (n := 60) kd_116 (by omega) (g_at ck_X11_see 33 rfl) rfl hR5 ⟨hp.1, hp.2⟩ (fun hR6 => ?_)
          refine tz_aload0 (n := 61) (g_at ck_X11_see 34 rfl) rfl (g_ne kd_84) ?_
          refine tz_getAv (n := 64) (a := 116) fk_X11_114 kd_84 (ly_84_59 hL) (g_at ck_X11_see 35 rfl) rfl ?_
          refine tz_iconst (n := 65) (g_at ck_X11_see 36 rfl) rfl ?_
          refine tz_aload0 (n := 66) (g_at ck_X11_see 37 rfl) rfl (g_ne kd_84) ?_
          refine tz_getIw (n := 69) (kz := 58) fk_X11_315 kd_84 (g_at ck_X11_see 38 rfl) rfl rfl ?_
          rw [wr_ne (show (84 : Int) ≠ 116 by decide), hK0.1]
          refine tz_imul (n := 70) (g_at ck_X11_see 39 rfl) rfl ?_
          refine tz_iconst (n := 71) (g_at ck_X11_see 40 rfl) rfl ?_
          refine tz_iadd (n := 72) (g_at ck_X11_see 41 rfl) rfl ?_
          refine tz_iload2 (n := 73) (g_at ck_X11_see 42 rfl) rfl ?_
          refine tz_iastr (n := 74) kd_116 (by omega) (g_at ck_X11_see 43 rfl) rfl hR6 ⟨hc.1, hc.2⟩ (fun hR7 => ?_)
          refine tz_aload0 (n := 75) (g_at ck_X11_see 44 rfl) rfl (g_ne kd_84) ?_
          refine tz_getAv (n := 78) (a := 116) fk_X11_114 kd_84 (ly_84_59 hL) (g_at ck_X11_see 45 rfl) rfl ?_
          refine tz_iconst (n := 79) (g_at ck_X11_see 46 rfl) rfl ?_
          refine tz_aload0 (n := 80) (g_at ck_X11_see 47 rfl) rfl (g_ne kd_84) ?_
          refine tz_getIw (n := 83) (kz := 58) fk_X11_315 kd_84 (g_at ck_X11_see 48 rfl) rfl rfl ?_
          rw [wr_ne (show (84 : Int) ≠ 116 by decide), wr_ne (show (84 : Int) ≠ 116 by decide), hK0.1]
          refine tz_imul (n := 84) (g_at ck_X11_see 49 rfl) rfl ?_
          refine tz_iconst (n := 85) (g_at ck_X11_see 50 rfl) rfl ?_
          refine tz_iadd (n := 86) (g_at ck_X11_see 51 rfl) rfl ?_
          refine tz_iload3 (n := 87) (g_at ck_X11_see 52 rfl) rfl ?_
          refine tz_iastr (n := 88) kd_116 (by omega) (g_at ck_X11_see 53 rfl) rfl hR7 ⟨hy.1, hy.2⟩ (fun hR8 => ?_)
          refine tz_aload0 (n := 89) (g_at ck_X11_see 54 rfl) rfl (g_ne kd_84) ?_
          refine tz_dupR (n := 90) (g_at ck_X11_see 55 rfl) rfl ?_
          refine tz_getIw (n := 93) (kz := 58) fk_X11_315 kd_84 (g_at ck_X11_see 56 rfl) rfl rfl ?_
          rw [wr_ne (show (84 : Int) ≠ 116 by decide), wr_ne (show (84 : Int) ≠ 116 by decide), wr_ne (show (84 : Int) ≠ 116 by decide), hK0.1]
          refine tz_iconst (n := 94) (g_at ck_X11_see 57 rfl) rfl ?_
          refine tz_iadd (n := 95) (g_at ck_X11_see 58 rfl) rfl ?_
          refine tz_putIr (n := 98) (kz := 58) fk_X11_315 kd_84 (g_at ck_X11_see 59 rfl) rfl hR8 ⟨(by omega), (by omega)⟩ rfl (fun hR9 => ?_)
          refine tz_aload0 (n := 99) (g_at ck_X11_see 60 rfl) rfl (g_ne kd_84) ?_
          refine tz_getIw (n := 102) (kz := 58) fk_X11_315 kd_84 (g_at ck_X11_see 61 rfl) rfl rfl ?_
          rw [wr_same]
          exact tz_iret (g_at ck_X11_see 62 rfl) rfl (rI_mk ⟨rfl, hR9, by rw [wr_at, if_neg (by decide), wr_ne (by decide), wr_ne (by decide), wr_ne (by decide), h00, hc0, hc1]; rfl, fun h9 => absurd (by rw [hc0, hc1]; rfl) h9, fun _ => ⟨fun h9 => absurd h9 (by have h8 := wi_ok h39; omega), fun _ => ⟨rfl, hK0.add hκ.1.1 wr_same (by rw [wr_ne (by decide), wr_up, wr_up, wr_up]), ((((hU0.sub (by decide) (by decide)).w (by decide) (fun h9 => absurd h9 (by decide))).w (by decide) (fun h9 => absurd h9 (by decide))).w (by decide) (fun h9 => absurd h9 (by decide))).w (by decide) (fun _ => by decide)⟩⟩⟩)
        · skip
          refine tz_aload0 (n := 43) (g_at ck_X11_see 22 rfl) rfl (g_ne kd_84) ?_
          refine tz_iconst (n := 44) (g_at ck_X11_see 23 rfl) rfl ?_
          refine tz_cvI1 (n := 47) (μ' := μX11_refuses) (cb' := 0) (sb' := 0) ml_X11_411 mo_X11_refuses mv_X11_refuses np_X11_refuses kd_84 (g_at ck_X11_see 24 rfl) (mp_refuses hL hR5 (by decide) (hf0 2 (by decide) (by decide))) rfl rfl rfl ⟨by decide, by decide⟩ (Nat.le_of_ble_eq_true rfl) (by decide) (by decide) (fun x44 ρ9 m44 hq => ?_)
          obtain ⟨rfl, hR10, rfl, rfl⟩ := hq
          exact tz_iret (g_at ck_X11_see 25 rfl) rfl (rI_mk ⟨rfl, hR10, by rw [wr_ne (by decide), h00, hc0, hc1]; rfl, fun h9 => absurd (by rw [hc0, hc1]; rfl) h9, fun _ => ⟨fun _ => ⟨rfl, RfX.mk hU0⟩, fun h9 => absurd (by have h9 := wi_no h39; omega) h9⟩⟩)
    · skip
      refine tz_iconst (n := 22) (g_at ck_X11_see 11 rfl) rfl ?_
      exact tz_iret (g_at ck_X11_see 12 rfl) rfl (rI_mk ⟨rfl, hR3, by rw [(hq15.no h18).2, wr_same, hc0, sq0], fun _ => by rw [(hq15.no h18).2]; exact hU0.w (by decide) (fun _ => by decide), fun h9 => absurd h9 (by rw [hc0, sq0]; exact (hq15.no h18).1)⟩)
theorem mp_restore {l : Launch} {γ : Gh} {ρ m : Mm} {h n : Int} {α κ : Mm} {s : Int → Int} (hL : LY ρ) (hR : MR m) (hI : MIm m h s n α κ) (hn : 0 ≤ n ∧ n ≤ 40) (hk : 0 ≤ κ 0 0 ∧ κ 0 0 ≤ 8) : gE l γ μX11_restore 1 0 0 (rI KK fun x ρ9 m9 => ρ = ρ9 ∧ MR m9 ∧ m9 84 0 = 0 ∧ (h = 0 → x = 0 ∧ FX [84] [0] m m9) ∧ (¬ h = 0 → x = 1 ∧ MRow m9 s ∧ AcM m9 n α ∧ MSeen m9 κ ∧ FX [84, 103, 104, 116] [0, 45, 58] m m9)) xN KK ρ m [vR 84] := by
  refine gE.ofw cl_X11.2 ?_ rfl rfl (Nat.le_of_ble_eq_true rfl)
  show gT l γ μX11_restore 1 0 0 _ _ KK ρ m 0 [some (vR 84), none] []
  refine tz_aload0 (n := 1) (g_at ck_X11_restore 0 rfl) rfl (g_ne kd_84) ?_
  refine tz_iconst (n := 2) (g_at ck_X11_restore 1 rfl) rfl ?_
  refine tz_putIr (n := 5) (kz := 0) fk_X11_132 kd_84 (g_at ck_X11_restore 2 rfl) rfl hR ⟨(by decide), (by decide)⟩ rfl (fun hR1 => ?_)
  refine tz_aload0 (n := 6) (g_at ck_X11_restore 3 rfl) rfl (g_ne kd_84) ?_
  refine tz_getZw (n := 9) (kz := 63) fk_X11_318 kd_84 (g_at ck_X11_restore 4 rfl) rfl rfl ?_
  rw [show (wr m 84 0 0) 84 63 = h by rw [wr_at, if_neg (by decide)]; exact hI.1]
  refine tz_if_ne (n := 12) (tgt := 14) (g_at ck_X11_restore 5 rfl) rfl rfl (by rw [← hI.1]; exact hR 84 63) (fun h9 => ?_) (fun h9 => ?_)
  · skip
    have hnz : h ≠ 0 := h9
    have hi := hI.2 hnz
    refine tz_aload0 (n := 15) (g_at ck_X11_restore 8 rfl) rfl (g_ne kd_84) ?_
    refine tz_aload0 (n := 16) (g_at ck_X11_restore 9 rfl) rfl (g_ne kd_84) ?_
    refine tz_getIw (n := 19) (kz := 64) fk_X11_488 kd_84 (g_at ck_X11_restore 10 rfl) rfl rfl ?_
    rw [show (wr m 84 0 0) 84 64 = n by rw [wr_at, if_neg (by decide)]; exact hi.1]
    refine tz_putIr (n := 22) (kz := 45) fk_X11_312 kd_84 (g_at ck_X11_restore 11 rfl) rfl hR1 (by omega) rfl (fun hR2 => ?_)
    refine tz_aload0 (n := 23) (g_at ck_X11_restore 12 rfl) rfl (g_ne kd_84) ?_
    refine tz_aload0 (n := 24) (g_at ck_X11_restore 13 rfl) rfl (g_ne kd_84) ?_
    refine tz_getIw (n := 27) (kz := 65) fk_X11_491 kd_84 (g_at ck_X11_restore 14 rfl) rfl rfl ?_
    rw [show (wr (wr m 84 0 0) 84 45 n) 84 65 = κ 0 0 by rw [wr_at, if_neg (by decide), wr_at, if_neg (by decide)]; exact hi.2.1]
    refine tz_putIr (n := 30) (kz := 58) fk_X11_315 kd_84 (g_at ck_X11_restore 15 rfl) rfl hR2 (by omega) rfl (fun hR3 => ?_)
    refine tz_iconst (n := 31) (g_at ck_X11_restore 16 rfl) rfl ?_
    refine tz_istore1 (n := 32) (g_at ck_X11_restore 17 rfl) rfl (by decide) g_hpR ?_
    obtain ⟨m0, e0⟩ : ∃ m0, m0 = wr (wr (wr m 84 0 0) 84 45 n) 84 58 (κ 0 0) := ⟨_, rfl⟩
    rw [← e0] at hR3 ⊢
    have hX0 : FX [84, 103, 104, 116] [0, 45, 58] m m0 := by rw [e0]; exact ((FX.rf.w (by decide) (fun _ => by decide)).w (by decide) (fun _ => by decide)).w (by decide) (fun _ => by decide)
    have hf0 : m0 84 0 = 0 ∧ m0 84 45 = n ∧ m0 84 58 = κ 0 0 := by rw [e0]; refine ⟨?_, ?_, ?_⟩ <;> simp [wr]
    refine g_for (fun i : Nat => ∀ m1 : Mm, (MR m1 ∧ Fr [103] m0 m1 ∧ ∀ k, 0 ≤ k → k < (i : Int) → m1 103 k = s k) → gT l γ μX11_restore 1 0 0 _ _ KK ρ m1 32 [some (vR 84), some (vI (i : Int))] []) 35 ?_ (fun i hi ihi => ?_) 0 (Nat.zero_le _) _ ⟨hR3, Fr.rf, fun k h8 h9 => absurd h9 (by omega)⟩
    · intro m1 hinv
      obtain ⟨hR1, hF1, hK1⟩ := hinv
      refine tz_iload1 (n := 33) (g_at ck_X11_restore 18 rfl) rfl ?_
      refine tz_bipush (n := 35) (g_at ck_X11_restore 19 rfl) rfl rfl ?_
      refine tz_icmp_ge (n := 38) (tgt := 56) (g_at ck_X11_restore 20 rfl) rfl rfl (by omega) (fun h35 => ?_) (fun h35 => absurd h35 (by omega))
      refine tz_aload0 (n := 57) (g_at ck_X11_restore 31 rfl) rfl (g_ne kd_84) ?_
      refine tz_aload0 (n := 58) (g_at ck_X11_restore 32 rfl) rfl (g_ne kd_84) ?_
      refine tz_getAv (n := 61) (a := 120) fk_X11_126 kd_84 (ly_84_67 hL) (g_at ck_X11_restore 33 rfl) rfl ?_
      refine tz_aload0 (n := 62) (g_at ck_X11_restore 34 rfl) rfl (g_ne kd_84) ?_
      refine tz_getAv (n := 65) (a := 104) fk_X11_78 kd_84 (ly_84_44 hL) (g_at ck_X11_restore 35 rfl) rfl ?_
      refine tz_cvV2 (n := 68) (μ' := μX11_copies) (cb' := 0) (sb' := 0) ml_X11_308 mo_X11_copies mv_X11_copies np_X11_copies kd_84 (g_at ck_X11_restore 36 rfl) (mp_copies120 hL hR1) rfl rfl rfl ⟨by decide, by decide⟩ (Nat.le_of_ble_eq_true rfl) (by decide) (by decide) (fun ρ9 m65 hq => ?_)
      obtain ⟨rfl, hR4, hC65, hF65⟩ := hq
      refine tz_aload0 (n := 69) (g_at ck_X11_restore 37 rfl) rfl (g_ne kd_84) ?_
      refine tz_aload0 (n := 70) (g_at ck_X11_restore 38 rfl) rfl (g_ne kd_84) ?_
      refine tz_getAv (n := 73) (a := 121) fk_X11_129 kd_84 (ly_84_68 hL) (g_at ck_X11_restore 39 rfl) rfl ?_
      refine tz_aload0 (n := 74) (g_at ck_X11_restore 40 rfl) rfl (g_ne kd_84) ?_
      refine tz_getAv (n := 77) (a := 116) fk_X11_114 kd_84 (ly_84_59 hL) (g_at ck_X11_restore 41 rfl) rfl ?_
      refine tz_cvV2 (n := 80) (μ' := μX11_copies) (cb' := 0) (sb' := 0) ml_X11_308 mo_X11_copies mv_X11_copies np_X11_copies kd_84 (g_at ck_X11_restore 42 rfl) (mp_copies121 hL hR4) rfl rfl rfl ⟨by decide, by decide⟩ (Nat.le_of_ble_eq_true rfl) (by decide) (by decide) (fun ρ9 m77 hq => ?_)
      obtain ⟨rfl, hR5, hC77, hF77⟩ := hq
      refine tz_iconst (n := 81) (g_at ck_X11_restore 43 rfl) rfl ?_
      exact tz_bret (g_at ck_X11_restore 44 rfl) rfl (by decide) (rI_mk ⟨rfl, hR5, by rw [hF77 84 (by decide), hF65 84 (by decide), hF1 84 (by decide)]; exact hf0.1, fun h8 => absurd h8 h9, fun _ => ⟨rfl, fun k k1 k2 => by rw [hF77 103 (by decide), hF65 103 (by decide)]; exact hK1 k k1 k2, ⟨by rw [hF77 84 (by decide), hF65 84 (by decide), hF1 84 (by decide)]; exact hf0.2.1, fun k j k1 k2 j1 j2 => by rw [hF77 104 (by decide), hC65 _ (by omega) (by omega), hF1 120 (by decide), hX0.1 120 (by decide)]; exact hi.2.2.2.1 k j k1 k2 j1 j2⟩, ⟨by rw [hF77 84 (by decide), hF65 84 (by decide), hF1 84 (by decide)]; exact hf0.2.2, fun i i1 i2 => by rw [hC77 _ (by omega) (by omega), hC77 _ (by omega) (by omega), hC77 _ (by omega) (by omega), hF65 121 (by decide), hF1 121 (by decide), hX0.1 121 (by decide)]; exact hi.2.2.2.2 i i1 i2⟩, hX0.tr (FX.l (ks := [0, 45, 58]) (((hF1.sub (show ∀ x ∈ [(103 : Int)], x ∈ [(103 : Int), 104, 116] by decide)).tr (hF65.sub (by decide))).tr (hF77.sub (by decide))) (by decide) |>.sub (by decide) (by decide))⟩⟩)
    · intro m1 hinv
      obtain ⟨hR1, hF1, hK1⟩ := hinv
      have hs1 : m1 119 (i : Int) = s (i : Int) := by rw [hF1 119 (by decide), hX0.1 119 (by decide)]; exact (hI.2 hnz).2.2.1 (i : Int) (by omega) (by omega)
      refine tz_iload1 (n := 33) (g_at ck_X11_restore 18 rfl) rfl ?_
      refine tz_bipush (n := 35) (g_at ck_X11_restore 19 rfl) rfl rfl ?_
      refine tz_icmp_ge (n := 38) (tgt := 56) (g_at ck_X11_restore 20 rfl) rfl rfl (by omega) (fun h35 => absurd h35 (by omega)) (fun h35 => ?_)
      refine tz_aload0 (n := 39) (g_at ck_X11_restore 21 rfl) rfl (g_ne kd_84) ?_
      refine tz_getAv (n := 42) (a := 103) fk_X11_75 kd_84 (ly_84_43 hL) (g_at ck_X11_restore 22 rfl) rfl ?_
      refine tz_iload1 (n := 43) (g_at ck_X11_restore 23 rfl) rfl ?_
      refine tz_aload0 (n := 44) (g_at ck_X11_restore 24 rfl) rfl (g_ne kd_84) ?_
      refine tz_getAv (n := 47) (a := 119) fk_X11_123 kd_84 (ly_84_66 hL) (g_at ck_X11_restore 25 rfl) rfl ?_
      refine tz_iload1 (n := 48) (g_at ck_X11_restore 26 rfl) rfl ?_
      refine tz_iald (n := 49) kd_119 (by omega) (g_at ck_X11_restore 27 rfl) rfl ?_
      refine tz_iastr (n := 50) kd_103 (by omega) (g_at ck_X11_restore 28 rfl) rfl hR1 ⟨(hR1 _ _).1, (hR1 _ _).2⟩ (fun hR6 => ?_)
      refine tz_iinc1 (n := 53) (g_at ck_X11_restore 29 rfl) rfl (by decide) g_hpR ?_
      refine tz_goto (tgt := 32) (g_at ck_X11_restore 30 rfl) rfl ?_
      exact ihi _ ⟨hR6, hF1.wrc, fun k k1 k2 => by rw [wr_at]; by_cases e9 : k = (i : Int); rw [if_pos e9, e9]; exact hs1; rw [if_neg e9]; exact hK1 k k1 (by omega)⟩
  · skip
    refine tz_iconst (n := 13) (g_at ck_X11_restore 6 rfl) rfl ?_
    exact tz_bret (g_at ck_X11_restore 7 rfl) rfl (by decide) (rI_mk ⟨rfl, hR1, wr_same, fun _ => ⟨rfl, FX.w0⟩, fun h8 => absurd h9 h8⟩)
theorem mp_days {l : Launch} {γ : Gh} {ρ m : Mm} {y : Int} (hy : -2147483648 ≤ y ∧ y < 2147483648) {s : Int → Int} {Λ : Mm} {hl tl : List Int} (hL : LY ρ) (hR : MR m) (hW : WL Λ) (hM : MLand m Λ hl tl) (hs : MRow m s) (hσ : WS Λ 0 (sig0 s)) (hz : m 84 51 = 0) {n : Int} {α : Mm} (hA : AcM m n α) (hn : 0 ≤ n ∧ n ≤ 40) (hf : ∀ k, 0 ≤ k → k < 3 → m 92 k < 2000000000) : gE l γ μX11_days 5 0 0 (rI KK fun x ρ9 m9 => ρ = ρ9 ∧ MR m9 ∧ m9 84 0 = 0 ∧ ((y < 1 ∨ 20 < y ∨ 9999 < s 0 + y) → x = -1 ∧ RfX m m9 1) ∧ (¬ (y < 1 ∨ 20 < y ∨ 9999 < s 0 + y) → (daysP Λ hl tl (sig0 s) y.toNat) 0 0 = x ∧ AcM m9 (keepN n) (keepA n α s) ∧ MRow m9 ((daysP Λ hl tl (sig0 s) y.toNat) 0) ∧ FX [84, 103, 104, 105, 106, 107, 108, 109] [0, 45] m m9)) xN KK ρ m [vR 84, vI y] := by
  refine gE.ofw cl_X11.2 ?_ rfl rfl (Nat.le_of_ble_eq_true rfl)
  show gT l γ μX11_days 5 0 0 _ _ KK ρ m 0 [some (vR 84), some (vI y), none] []
  have hn1 := hW.1
  have hn8 := hW.2.1
  refine tz_aload0 (n := 1) (g_at ck_X11_days 0 rfl) rfl (g_ne kd_84) ?_
  refine tz_iconst (n := 2) (g_at ck_X11_days 1 rfl) rfl ?_
  refine tz_putIr (n := 5) (kz := 0) fk_X11_132 kd_84 (g_at ck_X11_days 2 rfl) rfl hR ⟨(by decide), (by decide)⟩ rfl (fun hR1 => ?_)
  obtain ⟨m0, e0⟩ : ∃ m0, m0 = wr m 84 0 0 := ⟨_, rfl⟩
  rw [← e0] at hR1 ⊢
  have hk0 : mK m m0 := by rw [e0]; exact mK.w0
  have hM0 := hk0.land hM
  have hs0 := hk0.row hs
  have hz0 : m0 84 51 = 0 := hk0.w51.trans hz
  have h00 : m0 84 0 = 0 := by rw [e0, wr_same]
  have hw0 := hw_0 hz0
  have hU0 : FX [84] [0] m m0 := by rw [e0]; exact FX.w0
  have hA0 := hA.x hU0 (by decide) (by decide)
  have hf0 : ∀ k, 0 ≤ k → k < 3 → m0 92 k < 2000000000 := by rw [hU0.1 92 (by decide)]; exact hf
  have hd0 : 0 ≤ s 0 ∧ s 0 ≤ 9999 := hσ.1
  refine tz_iload1 (n := 6) (g_at ck_X11_days 3 rfl) rfl ?_
  refine tz_iconst (n := 7) (g_at ck_X11_days 4 rfl) rfl ?_
  refine tz_bipush (n := 9) (g_at ck_X11_days 5 rfl) rfl rfl ?_
  refine tz_csI3 (n := 12) (μ' := μX11_within) (cb' := 0) (sb' := 0) ml_X11_374 mo_X11_within ms_X11_within np_X11_within (g_at ck_X11_days 6 rfl) (mp_within hR1 hy (by decide) (by decide)) rfl rfl ⟨by decide, by decide⟩ (Nat.le_of_ble_eq_true rfl) (by decide) (by decide) (fun x9 ρ9 m9 hq => ?_)
  obtain ⟨rfl, hR2, rfl, rfl⟩ := hq
  have h01 := wiF_01 y 1 20
  refine tz_if_eq (n := 15) (tgt := 29) (g_at ck_X11_days 7 rfl) rfl rfl (by omega) (fun h12 => ?_) (fun h12 => ?_)
  · skip
    refine tz_aload0 (n := 30) (g_at ck_X11_days 16 rfl) rfl (g_ne kd_84) ?_
    refine tz_iconst (n := 31) (g_at ck_X11_days 17 rfl) rfl ?_
    refine tz_cvI1 (n := 34) (μ' := μX11_refuses) (cb' := 0) (sb' := 0) ml_X11_411 mo_X11_refuses mv_X11_refuses np_X11_refuses kd_84 (g_at ck_X11_days 18 rfl) (mp_refuses hL hR2 (by decide) (hf0 1 (by decide) (by decide))) rfl rfl rfl ⟨by decide, by decide⟩ (Nat.le_of_ble_eq_true rfl) (by decide) (by decide) (fun x31 ρ9 m31 hq => ?_)
    obtain ⟨rfl, hR3, rfl, rfl⟩ := hq
    exact tz_iret (g_at ck_X11_days 19 rfl) rfl (rI_mk ⟨rfl, hR3, by rw [wr_ne (by decide), h00], fun _ => ⟨rfl, RfX.mk hU0⟩, fun h8 => absurd (by have h8 := wi_no h12; omega) h8⟩)
  · skip
    have hwi := wi_ok h12
    refine tz_aload0 (n := 16) (g_at ck_X11_days 8 rfl) rfl (g_ne kd_84) ?_
    refine tz_getAv (n := 19) (a := 103) fk_X11_75 kd_84 (ly_84_43 hL) (g_at ck_X11_days 9 rfl) rfl ?_
    refine tz_iconst (n := 20) (g_at ck_X11_days 10 rfl) rfl ?_
    refine tz_iald (n := 21) kd_103 (by omega) (g_at ck_X11_days 11 rfl) rfl ?_
    rw [hs0 0 (by decide) (by decide)]
    refine tz_iload1 (n := 22) (g_at ck_X11_days 12 rfl) rfl ?_
    refine tz_iadd (n := 23) (g_at ck_X11_days 13 rfl) rfl ?_
    refine tz_sipush (n := 26) (g_at ck_X11_days 14 rfl) rfl rfl ?_
    refine tz_icmp_le (n := 29) (tgt := 35) (g_at ck_X11_days 15 rfl) rfl rfl (by omega) (fun h26 => ?_) (fun h26 => ?_)
    · skip
      refine tz_aload0 (n := 36) (g_at ck_X11_days 20 rfl) rfl (g_ne kd_84) ?_
      refine tz_cvV0 (n := 39) (μ' := μX11_keeps) (cb' := 0) (sb' := 0) ml_X11_414 mo_X11_keeps mv_X11_keeps np_X11_keeps kd_84 (g_at ck_X11_days 21 rfl) (mp_keeps hL hR2 hA0 hn hs0) rfl rfl rfl ⟨by decide, by decide⟩ (Nat.le_of_ble_eq_true rfl) (by decide) (by decide) (fun ρ9 m36 hq => ?_)
      obtain ⟨rfl, hR4, hA36, hX36⟩ := hq
      have hs9 := hs0.x hX36 (by decide)
      have hV9 : FX [84, 103, 104] [0, 45] m m36 := (hU0.sub (by decide) (by decide)).tr (hX36.sub (by decide) (by decide))
      have hM9 := hM0.x hX36 (by decide) (by decide)
      obtain ⟨e, hT36⟩ := MT_0 (Λ := Λ) hR4 hs9
      have hz9 : m36 84 51 = 0 := (hX36.2 51 (by decide)).trans hz0
      have hwi := wi_ok h12
      refine tz_iconst (n := 40) (g_at ck_X11_days 22 rfl) rfl ?_
      refine tz_istore2 (n := 41) (g_at ck_X11_days 23 rfl) rfl (by decide) g_hpI ?_
      refine g_for (fun i : Nat => ∀ m1 : Mm, (MR m1 ∧ MT m1 0 Λ e (daysP Λ hl tl (sig0 s) i) ∧ FD 0 m36 m1) → gT l γ μX11_days 5 0 0 _ _ KK ρ m1 41 [some (vR 84), some (vI y), some (vI (i : Int))] []) y.toNat ?_ (fun i hi ihi => ?_) 0 (Nat.zero_le _) _ ⟨hR4, hT36, FD.rf⟩
      · intro m1 hinv
        obtain ⟨hR1, hT1, hD1⟩ := hinv
        refine tz_iload2 (n := 42) (g_at ck_X11_days 24 rfl) rfl ?_
        refine tz_iload1 (n := 43) (g_at ck_X11_days 25 rfl) rfl ?_
        refine tz_icmp_ge (n := 46) (tgt := 57) (g_at ck_X11_days 26 rfl) rfl rfl (by omega) (fun h43 => ?_) (fun h43 => absurd h43 (by omega))
        refine tz_aload0 (n := 58) (g_at ck_X11_days 32 rfl) rfl (g_ne kd_84) ?_
        refine tz_getAv (n := 61) (a := 103) fk_X11_75 kd_84 (ly_84_43 hL) (g_at ck_X11_days 33 rfl) rfl ?_
        refine tz_iconst (n := 62) (g_at ck_X11_days 34 rfl) rfl ?_
        refine tz_iald (n := 63) kd_103 (by omega) (g_at ck_X11_days 35 rfl) rfl ?_
        have hr0 := hT1.1 0 (by decide) (by decide)
        rw [show (0 : Int) + 0 = 0 by decide] at hr0
        rw [hr0]
        exact tz_iret (g_at ck_X11_days 36 rfl) rfl (rI_mk ⟨rfl, hR1, by rw [hD1.1 84 (by decide), hX36.2 0 (by decide), h00], fun h8 => absurd h8 (by omega), fun _ => ⟨rfl, hA36.x (FX.l (ks := []) hD1.1 (by decide)) (by decide) (by decide), fun k k1 k2 => by have h8 := hT1.1 k k1 k2; rw [Int.zero_add] at h8; exact h8, (hV9.sub (by decide) (by decide)).tr (FX.l (ks := [0, 45]) (hD1.1.sub (show ∀ x ∈ mDay, x ∈ [(103 : Int), 104, 105, 106, 107, 108, 109] by decide)) (by decide) |>.sub (by decide) (by decide))⟩⟩)
      · intro m1 hinv
        obtain ⟨hR1, hT1, hD1⟩ := hinv
        have hσ1 := daysP_WS (hl := hl) (tl := tl) hW hσ (Int.le_refl 0) i
        refine tz_iload2 (n := 42) (g_at ck_X11_days 24 rfl) rfl ?_
        refine tz_iload1 (n := 43) (g_at ck_X11_days 25 rfl) rfl ?_
        refine tz_icmp_ge (n := 46) (tgt := 57) (g_at ck_X11_days 26 rfl) rfl rfl (by omega) (fun h43 => absurd h43 (by omega)) (fun h43 => ?_)
        refine tz_aload0 (n := 47) (g_at ck_X11_days 27 rfl) rfl (g_ne kd_84) ?_
        refine tz_iconst (n := 48) (g_at ck_X11_days 28 rfl) rfl ?_
        refine tz_cvV1 (n := 51) (μ' := μX11_dayGoes) (cb' := 0) (sb' := 0) ml_X11_353 mo_X11_dayGoes mv_X11_dayGoes np_X11_dayGoes kd_84 (g_at ck_X11_days 29 rfl) (mp_dayGoes hL hR1 hW (hM9.fr hD1.1 mDay_91) hT1 hσ1 (by omega) (Or.inl rfl) (hw_fr (hw_0 hz9) hD1)) rfl rfl rfl ⟨by decide, by decide⟩ (Nat.le_of_ble_eq_true rfl) (by decide) (by decide) (fun ρ9 m48 hq => ?_)
        obtain ⟨rfl, hR5, hT48, hD48⟩ := hq
        have hT9 : MT m48 0 Λ e (daysP Λ hl tl (sig0 s) (i + 1)) := hT48
        refine tz_iinc2 (n := 54) (g_at ck_X11_days 30 rfl) rfl (by decide) g_hpI ?_
        refine tz_goto (tgt := 41) (g_at ck_X11_days 31 rfl) rfl ?_
        exact ihi _ ⟨hR5, hT9, hD1.tr hD48⟩
    · skip
      refine tz_aload0 (n := 30) (g_at ck_X11_days 16 rfl) rfl (g_ne kd_84) ?_
      refine tz_iconst (n := 31) (g_at ck_X11_days 17 rfl) rfl ?_
      refine tz_cvI1 (n := 34) (μ' := μX11_refuses) (cb' := 0) (sb' := 0) ml_X11_411 mo_X11_refuses mv_X11_refuses np_X11_refuses kd_84 (g_at ck_X11_days 18 rfl) (mp_refuses hL hR2 (by decide) (hf0 1 (by decide) (by decide))) rfl rfl rfl ⟨by decide, by decide⟩ (Nat.le_of_ble_eq_true rfl) (by decide) (by decide) (fun x31 ρ9 m31 hq => ?_)
      obtain ⟨rfl, hR6, rfl, rfl⟩ := hq
      exact tz_iret (g_at ck_X11_days 19 rfl) rfl (rI_mk ⟨rfl, hR6, by rw [wr_ne (by decide), h00], fun _ => ⟨rfl, RfX.mk hU0⟩, fun h8 => absurd (Or.inr (Or.inr (by omega))) h8⟩)
