/-! The reference: the looks ahead. -/
theorem MT.r {m Λ e σ : Mm} {x k : Int} (h : MT m 35 Λ e σ) (hx : x = 35 + k) (hk : 0 ≤ k ∧ k < 35) : m 103 x = σ 0 k := by rw [hx]; exact h.1 k hk.1 hk.2
theorem MT.st {m Λ σ : Mm} {B p : Int} (h : MT m 35 Λ z00 σ) (hW : WL Λ) (hσ : WS Λ B σ) (hB : B < 100000) (hp : 0 ≤ p ∧ p < Λ 0 1) : m 107 p = σ 1 p := by
  have h1 := hσ.2.1 p hp.1 hp.2
  have h8 := hW.2.1
  rw [h.2.1 p hp.1 (by omega)]
  exact kw32 (by omega)
theorem MT.gn {m Λ σ : Mm} {B j : Int} (h : MT m 35 Λ z00 σ) (hσ : WS Λ B σ) (hB : B < 100000) (hj : 0 ≤ j ∧ j < 45) : m 105 j = σ 2 j := by
  have h1 := hσ.2.2.2 j hj.1 hj.2
  rw [h.2.2.1 j hj.1 hj.2]
  exact kw32 (by omega)
theorem tkR_rg {Λ σ : Mm} {B c a v : Int} (hσ : WS Λ B σ) (ha : 0 ≤ a ∧ a < 9) : ∀ n : Nat, n ≤ 5 → v ≤ tkR Λ σ c a v n ∧ tkR Λ σ c a v n ≤ v + n * (8 * B)
  | 0, _ => by
    show v ≤ v ∧ v ≤ v + 0 * (8 * B)
    omega
  | n + 1, h => by
    have ih := tkR_rg (c := c) (v := v) hσ ha n (by omega)
    have h1 := hσ.2.2.2 (a * 5 + (n : Int)) (by omega) (by omega)
    have e : ((n + 1 : Nat) : Int) * (8 * B) = n * (8 * B) + 8 * B := by rw [Int.natCast_succ, Int.add_mul, Int.one_mul]
    show v ≤ (if Λ 4 (a * 5 + (n : Int)) = c then tkR Λ σ c a v n + σ 2 (a * 5 + (n : Int)) else tkR Λ σ c a v n) ∧ (if Λ 4 (a * 5 + (n : Int)) = c then tkR Λ σ c a v n + σ 2 (a * 5 + (n : Int)) else tkR Λ σ c a v n) ≤ v + ((n + 1 : Nat) : Int) * (8 * B)
    rw [e]
    split <;> omega
theorem tkN_rg {Λ σ : Mm} {B c : Int} (hW : WL Λ) (hσ : WS Λ B σ) (hB : 0 ≤ B) : ∀ n : Nat, n ≤ (Λ 0 0).toNat → 0 ≤ tkN Λ σ c n ∧ tkN Λ σ c n ≤ n * (40 * B)
  | 0, _ => by
    show 0 ≤ (0 : Int) ∧ (0 : Int) ≤ 0 * (40 * B)
    omega
  | n + 1, h => by
    have h0 := hW.1
    have ih := tkN_rg (c := c) hW hσ hB n (by omega)
    have hn := hW.2.2.1 (n : Int) (by omega) (by omega)
    have h1 := tkR_rg (c := c) (v := tkN Λ σ c n) hσ (show 0 ≤ (n : Int) ∧ (n : Int) < 9 by omega) (Λ 3 (n : Int)).toNat (by omega)
    have e : ((n + 1 : Nat) : Int) * (40 * B) = n * (40 * B) + 40 * B := by rw [Int.natCast_succ, Int.add_mul, Int.one_mul]
    have e2 : ((Λ 3 (n : Int)).toNat : Int) * (8 * B) ≤ 5 * (8 * B) := Int.mul_le_mul_of_nonneg_right (by omega) (by omega)
    show 0 ≤ tkR Λ σ c (n : Int) (tkN Λ σ c n) (Λ 3 (n : Int)).toNat ∧ tkR Λ σ c (n : Int) (tkN Λ σ c n) (Λ 3 (n : Int)).toNat ≤ ((n + 1 : Nat) : Int) * (40 * B)
    rw [e]
    omega
theorem tkT_rg {Λ σ : Mm} {B c : Int} (hW : WL Λ) (hσ : WS Λ B σ) (hB : 0 ≤ B ∧ B ≤ 1000) (hc : 0 ≤ c ∧ c < Λ 0 0) : 0 ≤ tkN Λ σ c (Λ 0 0).toNat * Λ 1 c ∧ tkN Λ σ c (Λ 0 0).toNat * Λ 1 c ≤ 4000000 := by
  have h1 := tkN_rg (c := c) hW hσ hB.1 (Λ 0 0).toNat (Nat.le_refl _)
  have h0 := hW.1
  have h2 := hW.2.2.1 c hc.1 hc.2
  have e2 : ((Λ 0 0).toNat : Int) * (40 * B) ≤ 9 * (40 * B) := Int.mul_le_mul_of_nonneg_right (by omega) (by omega)
  have e3 : tkN Λ σ c (Λ 0 0).toNat * Λ 1 c ≤ 400000 * Λ 1 c := Int.mul_le_mul_of_nonneg_right (by omega) h2.1
  have e4 : 0 ≤ tkN Λ σ c (Λ 0 0).toNat * Λ 1 c := Int.mul_nonneg h1.1 h2.1
  omega
theorem MT.pd {m Λ σ : Mm} {B c : Int} (h : MT m 35 Λ z00 σ) (hW : WL Λ) (hσ : WS Λ B σ) (hB : 0 ≤ B ∧ B ≤ 1000) (hc : 0 ≤ c ∧ c < Λ 0 0) : m 106 c = tkN Λ σ c (Λ 0 0).toNat * Λ 1 c := by
  have h0 := hW.1
  rw [h.2.2.2 c hc.1 (by omega)]
  have h1 := tkT_rg hW hσ hB hc
  exact kw32 (by omega)
theorem mp_then {l : Launch} {γ : Gh} {ρ m : Mm} {p n w : Int} (hp : -2147483648 ≤ p ∧ p < 2147483648) (hn : -2147483648 ≤ n ∧ n < 2147483648) (hw : -2147483648 ≤ w ∧ w < 2147483648) {s : Int → Int} {Λ : Mm} {hl tl : List Int} (hL : LY ρ) (hR : MR m) (hW : WL Λ) (hM : MLand m Λ hl tl) (hs : MRow m s) (hσ : WS Λ 0 (sig0 s)) (hz : m 84 51 = 0) : gE l γ μX11_then 6 0 0 (rI KK fun x ρ9 m9 => ρ = ρ9 ∧ MR m9 ∧ mK m m9 ∧ m9 84 0 = sq (cdP Λ p) (sq (cdW w 2) (cdD n 0 100)) ∧ (sq (cdP Λ p) (sq (cdW w 2) (cdD n 0 100)) = 0 → (if w = 0 then (daysP Λ hl tl (sig0 s) n.toNat) 0 (1 + p) else if w = 1 then (daysP Λ hl tl (sig0 s) n.toNat) 0 (9 + p) else (daysP Λ hl tl (sig0 s) n.toNat) 1 p) = x)) xN KK ρ m [vR 84, vI p, vI n, vI w] := by
  refine gE.ofw cl_X11.2 ?_ rfl rfl (Nat.le_of_ble_eq_true rfl)
  show gT l γ μX11_then 6 0 0 _ _ KK ρ m 0 [some (vR 84), some (vI p), some (vI n), some (vI w)] []
  have hn1 := hW.1
  have hn8 := hW.2.1
  refine tz_aload0 (n := 1) (g_at ck_X11_then 0 rfl) rfl (g_ne kd_84) ?_
  refine tz_iconst (n := 2) (g_at ck_X11_then 1 rfl) rfl ?_
  refine tz_putIr (n := 5) (kz := 0) fk_X11_132 kd_84 (g_at ck_X11_then 2 rfl) rfl hR ⟨(by decide), (by decide)⟩ rfl (fun hR1 => ?_)
  obtain ⟨m0, e0⟩ : ∃ m0, m0 = wr m 84 0 0 := ⟨_, rfl⟩
  rw [← e0] at hR1 ⊢
  have hk0 : mK m m0 := by rw [e0]; exact mK.w0
  have hM0 := hk0.land hM
  have hs0 := hk0.row hs
  have hz0 : m0 84 51 = 0 := hk0.w51.trans hz
  have h00 : m0 84 0 = 0 := by rw [e0, wr_same]
  have hw0 := hw_0 hz0
  refine tz_aload0 (n := 6) (g_at ck_X11_then 3 rfl) rfl (g_ne kd_84) ?_
  refine tz_iload1 (n := 7) (g_at ck_X11_then 4 rfl) rfl ?_
  refine tz_cvI1 (n := 10) (μ' := μX11_isPerson) (cb' := 0) (sb' := 0) ml_X11_405 mo_X11_isPerson mv_X11_isPerson np_X11_isPerson kd_84 (g_at ck_X11_then 5 rfl) (mp_isPerson hp hL hR1 hW hM0 h00) rfl rfl rfl ⟨by decide, by decide⟩ (Nat.le_of_ble_eq_true rfl) (by decide) (by decide) (fun x7 ρ9 m7 hq => ?_)
  obtain ⟨rfl, hR2, hq7⟩ := hq
  refine tz_if_eq (n := 13) (tgt := 32) (g_at ck_X11_then 6 rfl) rfl rfl (by rcases hq7.b01 with h9 | h9 <;> omega) (fun h10 => ?_) (fun h10 => ?_)
  · skip
    refine tz_iconst (n := 33) (g_at ck_X11_then 18 rfl) rfl ?_
    exact tz_iret (g_at ck_X11_then 19 rfl) rfl (rI_mk ⟨rfl, hR2, by rw [(hq7.no h10).2]; exact hk0.tr mK.w0, by rw [(hq7.no h10).2, wr_same, sqn (hq7.no h10).1], fun h9 => absurd h9 (by rw [sqn (hq7.no h10).1]; exact (hq7.no h10).1)⟩)
  · skip
    obtain ⟨hc0, rfl⟩ := hq7.ok h10
    have hi0 := cdP_i hc0
    refine tz_aload0 (n := 14) (g_at ck_X11_then 7 rfl) rfl (g_ne kd_84) ?_
    refine tz_iload3 (n := 15) (g_at ck_X11_then 8 rfl) rfl ?_
    refine tz_iconst (n := 16) (g_at ck_X11_then 9 rfl) rfl ?_
    refine tz_cvI2 (n := 19) (μ' := μX11_isWhat) (cb' := 0) (sb' := 0) ml_X11_396 mo_X11_isWhat mv_X11_isWhat np_X11_isWhat kd_84 (g_at ck_X11_then 10 rfl) (mp_isWhat hw (by decide) hL hR2 h00) rfl rfl rfl ⟨by decide, by decide⟩ (Nat.le_of_ble_eq_true rfl) (by decide) (by decide) (fun x16 ρ9 m16 hq => ?_)
    obtain ⟨rfl, hR3, hq16⟩ := hq
    refine tz_if_eq (n := 22) (tgt := 32) (g_at ck_X11_then 11 rfl) rfl rfl (by rcases hq16.b01 with h9 | h9 <;> omega) (fun h19 => ?_) (fun h19 => ?_)
    · skip
      refine tz_iconst (n := 33) (g_at ck_X11_then 18 rfl) rfl ?_
      exact tz_iret (g_at ck_X11_then 19 rfl) rfl (rI_mk ⟨rfl, hR3, by rw [(hq16.no h19).2]; exact hk0.tr mK.w0, by rw [(hq16.no h19).2, wr_same, hc0, sq0, sqn (hq16.no h19).1], fun h9 => absurd h9 (by rw [hc0, sq0, sqn (hq16.no h19).1]; exact (hq16.no h19).1)⟩)
    · skip
      obtain ⟨hc1, rfl⟩ := hq16.ok h19
      have hi1 := cdW_i hc1
      refine tz_aload0 (n := 23) (g_at ck_X11_then 12 rfl) rfl (g_ne kd_84) ?_
      refine tz_iload2 (n := 24) (g_at ck_X11_then 13 rfl) rfl ?_
      refine tz_iconst (n := 25) (g_at ck_X11_then 14 rfl) rfl ?_
      refine tz_iconst (n := 26) (g_at ck_X11_then 15 rfl) rfl ?_
      refine tz_cvI3 (n := 29) (μ' := μX11_isSoon) (cb' := 0) (sb' := 0) ml_X11_417 mo_X11_isSoon mv_X11_isSoon np_X11_isSoon kd_84 (g_at ck_X11_then 16 rfl) (mp_isSoon hn (by decide) hL hR3 h00) rfl rfl rfl ⟨by decide, by decide⟩ (Nat.le_of_ble_eq_true rfl) (by decide) (by decide) (fun x26 ρ9 m26 hq => ?_)
      obtain ⟨rfl, hR4, hq26⟩ := hq
      refine tz_if_ne (n := 32) (tgt := 34) (g_at ck_X11_then 17 rfl) rfl rfl (by rcases hq26.b01 with h9 | h9 <;> omega) (fun h29 => ?_) (fun h29 => ?_)
      · skip
        obtain ⟨hc2, rfl⟩ := hq26.ok h29
        have hi2 := cdD_i hc2
        refine tz_aload0 (n := 35) (g_at ck_X11_then 20 rfl) rfl (g_ne kd_84) ?_
        refine tz_iload2 (n := 36) (g_at ck_X11_then 21 rfl) rfl ?_
        refine tz_cvV1 (n := 39) (μ' := μX11_goesTo) (cb' := 0) (sb' := 0) ml_X11_420 mo_X11_goesTo mv_X11_goesTo np_X11_goesTo kd_84 (g_at ck_X11_then 22 rfl) (mp_goesTo hL hR4 hW hM0 hs0 hσ hw0 (by omega)) rfl rfl rfl ⟨by decide, by decide⟩ (Nat.le_of_ble_eq_true rfl) (by decide) (by decide) (fun ρ9 m36 hq => ?_)
        obtain ⟨rfl, hR5, hT36, hD36⟩ := hq
        have hTx : MT m36 35 Λ z00 (daysP Λ hl tl (sig0 s) n.toNat) := hT36
        have hσx := daysP_WS (hl := hl) (tl := tl) hW hσ (Int.le_refl 0) n.toNat
        refine tz_iload3 (n := 40) (g_at ck_X11_then 23 rfl) rfl ?_
        refine tz_if_ne (n := 43) (tgt := 55) (g_at ck_X11_then 24 rfl) rfl rfl ⟨hw.1, hw.2⟩ (fun h40 => ?_) (fun h40 => ?_)
        · skip
          refine tz_iload3 (n := 56) (g_at ck_X11_then 32 rfl) rfl ?_
          refine tz_iconst (n := 57) (g_at ck_X11_then 33 rfl) rfl ?_
          refine tz_icmp_ne (n := 60) (tgt := 72) (g_at ck_X11_then 34 rfl) rfl rfl ⟨hw.1, hw.2, (by decide), (by decide)⟩ (fun h57 => ?_) (fun h57 => ?_)
          · skip
            refine tz_aload0 (n := 73) (g_at ck_X11_then 42 rfl) rfl (g_ne kd_84) ?_
            refine tz_getAv (n := 76) (a := 107) fk_X11_87 kd_84 (ly_84_48 hL) (g_at ck_X11_then 43 rfl) rfl ?_
            refine tz_iload1 (n := 77) (g_at ck_X11_then 44 rfl) rfl ?_
            refine tz_iald (n := 78) kd_107 (by omega) (g_at ck_X11_then 45 rfl) rfl ?_
            rw [hTx.st hW hσx (by omega) hi0]
            exact tz_iret (g_at ck_X11_then 46 rfl) rfl (rI_mk ⟨rfl, hR5, hk0.tr (mK.fd hD36), by rw [hD36.1 84 (by decide), h00, hc0, hc1, hc2]; rfl, fun _ => by rw [if_neg h40, if_neg h57]⟩)
          · skip
            refine tz_aload0 (n := 61) (g_at ck_X11_then 35 rfl) rfl (g_ne kd_84) ?_
            refine tz_getAv (n := 64) (a := 103) fk_X11_75 kd_84 (ly_84_43 hL) (g_at ck_X11_then 36 rfl) rfl ?_
            refine tz_bipush (n := 66) (g_at ck_X11_then 37 rfl) rfl rfl ?_
            refine tz_iload1 (n := 67) (g_at ck_X11_then 38 rfl) rfl ?_
            refine tz_iadd (n := 68) (g_at ck_X11_then 39 rfl) rfl ?_
            refine tz_iald (n := 69) kd_103 (by omega) (g_at ck_X11_then 40 rfl) rfl ?_
            rw [hTx.r (k := 9 + p) (by omega) (by omega)]
            refine tz_goto (tgt := 78) (g_at ck_X11_then 41 rfl) rfl ?_
            exact tz_iret (g_at ck_X11_then 46 rfl) rfl (rI_mk ⟨rfl, hR5, hk0.tr (mK.fd hD36), by rw [hD36.1 84 (by decide), h00, hc0, hc1, hc2]; rfl, fun _ => by rw [if_neg h40, if_pos h57]⟩)
        · skip
          refine tz_aload0 (n := 44) (g_at ck_X11_then 25 rfl) rfl (g_ne kd_84) ?_
          refine tz_getAv (n := 47) (a := 103) fk_X11_75 kd_84 (ly_84_43 hL) (g_at ck_X11_then 26 rfl) rfl ?_
          refine tz_bipush (n := 49) (g_at ck_X11_then 27 rfl) rfl rfl ?_
          refine tz_iload1 (n := 50) (g_at ck_X11_then 28 rfl) rfl ?_
          refine tz_iadd (n := 51) (g_at ck_X11_then 29 rfl) rfl ?_
          refine tz_iald (n := 52) kd_103 (by omega) (g_at ck_X11_then 30 rfl) rfl ?_
          rw [hTx.r (k := 1 + p) (by omega) (by omega)]
          refine tz_goto (tgt := 78) (g_at ck_X11_then 31 rfl) rfl ?_
          exact tz_iret (g_at ck_X11_then 46 rfl) rfl (rI_mk ⟨rfl, hR5, hk0.tr (mK.fd hD36), by rw [hD36.1 84 (by decide), h00, hc0, hc1, hc2]; rfl, fun _ => if_pos h40⟩)
      · skip
        refine tz_iconst (n := 33) (g_at ck_X11_then 18 rfl) rfl ?_
        exact tz_iret (g_at ck_X11_then 19 rfl) rfl (rI_mk ⟨rfl, hR4, by rw [(hq26.no h29).2]; exact hk0.tr mK.w0, by rw [(hq26.no h29).2, wr_same, hc0, hc1, sq0, sq0], fun h9 => absurd h9 (by rw [hc0, hc1, sq0, sq0]; exact (hq26.no h29).1)⟩)
theorem mp_points {l : Launch} {γ : Gh} {ρ m : Mm} {c n : Int} (hc : -2147483648 ≤ c ∧ c < 2147483648) (hn : -2147483648 ≤ n ∧ n < 2147483648) {s : Int → Int} {Λ : Mm} {hl tl : List Int} (hL : LY ρ) (hR : MR m) (hW : WL Λ) (hM : MLand m Λ hl tl) (hs : MRow m s) (hσ : WS Λ 0 (sig0 s)) (hz : m 84 51 = 0) : gE l γ μX11_points 6 0 0 (rI KK fun x ρ9 m9 => ρ = ρ9 ∧ MR m9 ∧ mK m m9 ∧ m9 84 0 = sq (cdC Λ c) (cdD n 0 100) ∧ (sq (cdC Λ c) (cdD n 0 100) = 0 → (daysP Λ hl tl (sig0 s) n.toNat) 0 (17 + c) = x)) xN KK ρ m [vR 84, vI c, vI n] := by
  refine gE.ofw cl_X11.2 ?_ rfl rfl (Nat.le_of_ble_eq_true rfl)
  show gT l γ μX11_points 6 0 0 _ _ KK ρ m 0 [some (vR 84), some (vI c), some (vI n)] []
  have hn1 := hW.1
  have hn8 := hW.2.1
  refine tz_aload0 (n := 1) (g_at ck_X11_points 0 rfl) rfl (g_ne kd_84) ?_
  refine tz_iconst (n := 2) (g_at ck_X11_points 1 rfl) rfl ?_
  refine tz_putIr (n := 5) (kz := 0) fk_X11_132 kd_84 (g_at ck_X11_points 2 rfl) rfl hR ⟨(by decide), (by decide)⟩ rfl (fun hR1 => ?_)
  obtain ⟨m0, e0⟩ : ∃ m0, m0 = wr m 84 0 0 := ⟨_, rfl⟩
  rw [← e0] at hR1 ⊢
  have hk0 : mK m m0 := by rw [e0]; exact mK.w0
  have hM0 := hk0.land hM
  have hs0 := hk0.row hs
  have hz0 : m0 84 51 = 0 := hk0.w51.trans hz
  have h00 : m0 84 0 = 0 := by rw [e0, wr_same]
  have hw0 := hw_0 hz0
  refine tz_aload0 (n := 6) (g_at ck_X11_points 3 rfl) rfl (g_ne kd_84) ?_
  refine tz_iload1 (n := 7) (g_at ck_X11_points 4 rfl) rfl ?_
  refine tz_cvI1 (n := 10) (μ' := μX11_isCrossing) (cb' := 0) (sb' := 0) ml_X11_393 mo_X11_isCrossing mv_X11_isCrossing np_X11_isCrossing kd_84 (g_at ck_X11_points 5 rfl) (mp_isCrossing hc hL hR1 hW hM0 h00) rfl rfl rfl ⟨by decide, by decide⟩ (Nat.le_of_ble_eq_true rfl) (by decide) (by decide) (fun x7 ρ9 m7 hq => ?_)
  obtain ⟨rfl, hR2, hq7⟩ := hq
  refine tz_if_eq (n := 13) (tgt := 23) (g_at ck_X11_points 6 rfl) rfl rfl (by rcases hq7.b01 with h9 | h9 <;> omega) (fun h10 => ?_) (fun h10 => ?_)
  · skip
    refine tz_iconst (n := 24) (g_at ck_X11_points 13 rfl) rfl ?_
    exact tz_iret (g_at ck_X11_points 14 rfl) rfl (rI_mk ⟨rfl, hR2, by rw [(hq7.no h10).2]; exact hk0.tr mK.w0, by rw [(hq7.no h10).2, wr_same, sqn (hq7.no h10).1], fun h9 => absurd h9 (by rw [sqn (hq7.no h10).1]; exact (hq7.no h10).1)⟩)
  · skip
    obtain ⟨hc0, rfl⟩ := hq7.ok h10
    have hi0 := cdC_i hc0
    refine tz_aload0 (n := 14) (g_at ck_X11_points 7 rfl) rfl (g_ne kd_84) ?_
    refine tz_iload2 (n := 15) (g_at ck_X11_points 8 rfl) rfl ?_
    refine tz_iconst (n := 16) (g_at ck_X11_points 9 rfl) rfl ?_
    refine tz_iconst (n := 17) (g_at ck_X11_points 10 rfl) rfl ?_
    refine tz_cvI3 (n := 20) (μ' := μX11_isSoon) (cb' := 0) (sb' := 0) ml_X11_417 mo_X11_isSoon mv_X11_isSoon np_X11_isSoon kd_84 (g_at ck_X11_points 11 rfl) (mp_isSoon hn (by decide) hL hR2 h00) rfl rfl rfl ⟨by decide, by decide⟩ (Nat.le_of_ble_eq_true rfl) (by decide) (by decide) (fun x17 ρ9 m17 hq => ?_)
    obtain ⟨rfl, hR3, hq17⟩ := hq
    refine tz_if_ne (n := 23) (tgt := 25) (g_at ck_X11_points 12 rfl) rfl rfl (by rcases hq17.b01 with h9 | h9 <;> omega) (fun h20 => ?_) (fun h20 => ?_)
    · skip
      obtain ⟨hc1, rfl⟩ := hq17.ok h20
      have hi1 := cdD_i hc1
      refine tz_aload0 (n := 26) (g_at ck_X11_points 15 rfl) rfl (g_ne kd_84) ?_
      refine tz_iload2 (n := 27) (g_at ck_X11_points 16 rfl) rfl ?_
      refine tz_cvV1 (n := 30) (μ' := μX11_goesTo) (cb' := 0) (sb' := 0) ml_X11_420 mo_X11_goesTo mv_X11_goesTo np_X11_goesTo kd_84 (g_at ck_X11_points 17 rfl) (mp_goesTo hL hR3 hW hM0 hs0 hσ hw0 (by omega)) rfl rfl rfl ⟨by decide, by decide⟩ (Nat.le_of_ble_eq_true rfl) (by decide) (by decide) (fun ρ9 m27 hq => ?_)
      obtain ⟨rfl, hR4, hT27, hD27⟩ := hq
      have hTx : MT m27 35 Λ z00 (daysP Λ hl tl (sig0 s) n.toNat) := hT27
      have hσx := daysP_WS (hl := hl) (tl := tl) hW hσ (Int.le_refl 0) n.toNat
      refine tz_aload0 (n := 31) (g_at ck_X11_points 18 rfl) rfl (g_ne kd_84) ?_
      refine tz_getAv (n := 34) (a := 103) fk_X11_75 kd_84 (ly_84_43 hL) (g_at ck_X11_points 19 rfl) rfl ?_
      refine tz_bipush (n := 36) (g_at ck_X11_points 20 rfl) rfl rfl ?_
      refine tz_iload1 (n := 37) (g_at ck_X11_points 21 rfl) rfl ?_
      refine tz_iadd (n := 38) (g_at ck_X11_points 22 rfl) rfl ?_
      refine tz_iald (n := 39) kd_103 (by omega) (g_at ck_X11_points 23 rfl) rfl ?_
      rw [hTx.r (k := 17 + c) (by omega) (by omega)]
      exact tz_iret (g_at ck_X11_points 24 rfl) rfl (rI_mk ⟨rfl, hR4, hk0.tr (mK.fd hD27), by rw [hD27.1 84 (by decide), h00, hc0, hc1]; rfl, fun _ => rfl⟩)
    · skip
      refine tz_iconst (n := 24) (g_at ck_X11_points 13 rfl) rfl ?_
      exact tz_iret (g_at ck_X11_points 14 rfl) rfl (rI_mk ⟨rfl, hR3, by rw [(hq17.no h20).2]; exact hk0.tr mK.w0, by rw [(hq17.no h20).2, wr_same, hc0, sq0], fun h9 => absurd h9 (by rw [hc0, sq0]; exact (hq17.no h20).1)⟩)
theorem mp_gone {l : Launch} {γ : Gh} {ρ m : Mm} {c r n : Int} (hc : -2147483648 ≤ c ∧ c < 2147483648) (hr : -2147483648 ≤ r ∧ r < 2147483648) (hn : -2147483648 ≤ n ∧ n < 2147483648) {s : Int → Int} {Λ : Mm} {hl tl : List Int} (hL : LY ρ) (hR : MR m) (hW : WL Λ) (hM : MLand m Λ hl tl) (hs : MRow m s) (hσ : WS Λ 0 (sig0 s)) (hz : m 84 51 = 0) : gE l γ μX11_gone 6 0 0 (rI KK fun x ρ9 m9 => ρ = ρ9 ∧ MR m9 ∧ mK m m9 ∧ m9 84 0 = sq (cdR Λ c r) (cdD n 0 100) ∧ (sq (cdR Λ c r) (cdD n 0 100) = 0 → (daysP Λ hl tl (sig0 s) n.toNat) 2 (c * 5 + r) = x)) xN KK ρ m [vR 84, vI c, vI r, vI n] := by
  refine gE.ofw cl_X11.2 ?_ rfl rfl (Nat.le_of_ble_eq_true rfl)
  show gT l γ μX11_gone 6 0 0 _ _ KK ρ m 0 [some (vR 84), some (vI c), some (vI r), some (vI n)] []
  have hn1 := hW.1
  have hn8 := hW.2.1
  refine tz_aload0 (n := 1) (g_at ck_X11_gone 0 rfl) rfl (g_ne kd_84) ?_
  refine tz_iconst (n := 2) (g_at ck_X11_gone 1 rfl) rfl ?_
  refine tz_putIr (n := 5) (kz := 0) fk_X11_132 kd_84 (g_at ck_X11_gone 2 rfl) rfl hR ⟨(by decide), (by decide)⟩ rfl (fun hR1 => ?_)
  obtain ⟨m0, e0⟩ : ∃ m0, m0 = wr m 84 0 0 := ⟨_, rfl⟩
  rw [← e0] at hR1 ⊢
  have hk0 : mK m m0 := by rw [e0]; exact mK.w0
  have hM0 := hk0.land hM
  have hs0 := hk0.row hs
  have hz0 : m0 84 51 = 0 := hk0.w51.trans hz
  have h00 : m0 84 0 = 0 := by rw [e0, wr_same]
  have hw0 := hw_0 hz0
  refine tz_aload0 (n := 6) (g_at ck_X11_gone 3 rfl) rfl (g_ne kd_84) ?_
  refine tz_iload1 (n := 7) (g_at ck_X11_gone 4 rfl) rfl ?_
  refine tz_iload2 (n := 8) (g_at ck_X11_gone 5 rfl) rfl ?_
  refine tz_cvI2 (n := 11) (μ' := μX11_isRoad) (cb' := 0) (sb' := 0) ml_X11_402 mo_X11_isRoad mv_X11_isRoad np_X11_isRoad kd_84 (g_at ck_X11_gone 6 rfl) (mp_isRoad hc hr hL hR1 hW hM0 h00) rfl rfl rfl ⟨by decide, by decide⟩ (Nat.le_of_ble_eq_true rfl) (by decide) (by decide) (fun x8 ρ9 m8 hq => ?_)
  obtain ⟨rfl, hR2, hq8⟩ := hq
  refine tz_if_eq (n := 14) (tgt := 24) (g_at ck_X11_gone 7 rfl) rfl rfl (by rcases hq8.b01 with h9 | h9 <;> omega) (fun h11 => ?_) (fun h11 => ?_)
  · skip
    refine tz_iconst (n := 25) (g_at ck_X11_gone 14 rfl) rfl ?_
    exact tz_iret (g_at ck_X11_gone 15 rfl) rfl (rI_mk ⟨rfl, hR2, by rw [(hq8.no h11).2]; exact hk0.tr mK.w0, by rw [(hq8.no h11).2, wr_same, sqn (hq8.no h11).1], fun h9 => absurd h9 (by rw [sqn (hq8.no h11).1]; exact (hq8.no h11).1)⟩)
  · skip
    obtain ⟨hc0, rfl⟩ := hq8.ok h11
    have hi0 := cdR_i hc0
    refine tz_aload0 (n := 15) (g_at ck_X11_gone 8 rfl) rfl (g_ne kd_84) ?_
    refine tz_iload3 (n := 16) (g_at ck_X11_gone 9 rfl) rfl ?_
    refine tz_iconst (n := 17) (g_at ck_X11_gone 10 rfl) rfl ?_
    refine tz_iconst (n := 18) (g_at ck_X11_gone 11 rfl) rfl ?_
    refine tz_cvI3 (n := 21) (μ' := μX11_isSoon) (cb' := 0) (sb' := 0) ml_X11_417 mo_X11_isSoon mv_X11_isSoon np_X11_isSoon kd_84 (g_at ck_X11_gone 12 rfl) (mp_isSoon hn (by decide) hL hR2 h00) rfl rfl rfl ⟨by decide, by decide⟩ (Nat.le_of_ble_eq_true rfl) (by decide) (by decide) (fun x18 ρ9 m18 hq => ?_)
    obtain ⟨rfl, hR3, hq18⟩ := hq
    refine tz_if_ne (n := 24) (tgt := 26) (g_at ck_X11_gone 13 rfl) rfl rfl (by rcases hq18.b01 with h9 | h9 <;> omega) (fun h21 => ?_) (fun h21 => ?_)
    · skip
      obtain ⟨hc1, rfl⟩ := hq18.ok h21
      have hi1 := cdD_i hc1
      have hcw := hW.2.2.1 c hi0.1 hi0.2.1
      refine tz_aload0 (n := 27) (g_at ck_X11_gone 16 rfl) rfl (g_ne kd_84) ?_
      refine tz_iload3 (n := 28) (g_at ck_X11_gone 17 rfl) rfl ?_
      refine tz_cvV1 (n := 31) (μ' := μX11_goesTo) (cb' := 0) (sb' := 0) ml_X11_420 mo_X11_goesTo mv_X11_goesTo np_X11_goesTo kd_84 (g_at ck_X11_gone 18 rfl) (mp_goesTo hL hR3 hW hM0 hs0 hσ hw0 (by omega)) rfl rfl rfl ⟨by decide, by decide⟩ (Nat.le_of_ble_eq_true rfl) (by decide) (by decide) (fun ρ9 m28 hq => ?_)
      obtain ⟨rfl, hR4, hT28, hD28⟩ := hq
      have hTx : MT m28 35 Λ z00 (daysP Λ hl tl (sig0 s) n.toNat) := hT28
      have hσx := daysP_WS (hl := hl) (tl := tl) hW hσ (Int.le_refl 0) n.toNat
      refine tz_aload0 (n := 32) (g_at ck_X11_gone 19 rfl) rfl (g_ne kd_84) ?_
      refine tz_getAv (n := 35) (a := 105) fk_X11_81 kd_84 (ly_84_46 hL) (g_at ck_X11_gone 20 rfl) rfl ?_
      refine tz_iconst (n := 36) (g_at ck_X11_gone 21 rfl) rfl ?_
      refine tz_iload1 (n := 37) (g_at ck_X11_gone 22 rfl) rfl ?_
      refine tz_imul (n := 38) (g_at ck_X11_gone 23 rfl) rfl ?_
      refine tz_iload2 (n := 39) (g_at ck_X11_gone 24 rfl) rfl ?_
      refine tz_iadd (n := 40) (g_at ck_X11_gone 25 rfl) rfl ?_
      rw [show 5 * c + r = c * 5 + r by omega]
      refine tz_iald (n := 41) kd_105 (by omega) (g_at ck_X11_gone 26 rfl) rfl ?_
      rw [hTx.gn hσx (by omega) (by omega)]
      exact tz_iret (g_at ck_X11_gone 27 rfl) rfl (rI_mk ⟨rfl, hR4, hk0.tr (mK.fd hD28), by rw [hD28.1 84 (by decide), h00, hc0, hc1]; rfl, fun _ => rfl⟩)
    · skip
      refine tz_iconst (n := 25) (g_at ck_X11_gone 14 rfl) rfl ?_
      exact tz_iret (g_at ck_X11_gone 15 rfl) rfl (rI_mk ⟨rfl, hR3, by rw [(hq18.no h21).2]; exact hk0.tr mK.w0, by rw [(hq18.no h21).2, wr_same, hc0, sq0], fun h9 => absurd h9 (by rw [hc0, sq0]; exact (hq18.no h21).1)⟩)
theorem mp_taken {l : Launch} {γ : Gh} {ρ m : Mm} {c n : Int} (hc : -2147483648 ≤ c ∧ c < 2147483648) (hn : -2147483648 ≤ n ∧ n < 2147483648) {s : Int → Int} {Λ : Mm} {hl tl : List Int} (hL : LY ρ) (hR : MR m) (hW : WL Λ) (hM : MLand m Λ hl tl) (hs : MRow m s) (hσ : WS Λ 0 (sig0 s)) (hz : m 84 51 = 0) : gE l γ μX11_taken 6 0 0 (rI KK fun x ρ9 m9 => ρ = ρ9 ∧ MR m9 ∧ mK m m9 ∧ m9 84 0 = sq (cdC Λ c) (cdD n 0 100) ∧ (sq (cdC Λ c) (cdD n 0 100) = 0 → tkN Λ (daysP Λ hl tl (sig0 s) n.toNat) c (Λ 0 0).toNat * Λ 1 c = x)) xN KK ρ m [vR 84, vI c, vI n] := by
  refine gE.ofw cl_X11.2 ?_ rfl rfl (Nat.le_of_ble_eq_true rfl)
  show gT l γ μX11_taken 6 0 0 _ _ KK ρ m 0 [some (vR 84), some (vI c), some (vI n)] []
  have hn1 := hW.1
  have hn8 := hW.2.1
  refine tz_aload0 (n := 1) (g_at ck_X11_taken 0 rfl) rfl (g_ne kd_84) ?_
  refine tz_iconst (n := 2) (g_at ck_X11_taken 1 rfl) rfl ?_
  refine tz_putIr (n := 5) (kz := 0) fk_X11_132 kd_84 (g_at ck_X11_taken 2 rfl) rfl hR ⟨(by decide), (by decide)⟩ rfl (fun hR1 => ?_)
  obtain ⟨m0, e0⟩ : ∃ m0, m0 = wr m 84 0 0 := ⟨_, rfl⟩
  rw [← e0] at hR1 ⊢
  have hk0 : mK m m0 := by rw [e0]; exact mK.w0
  have hM0 := hk0.land hM
  have hs0 := hk0.row hs
  have hz0 : m0 84 51 = 0 := hk0.w51.trans hz
  have h00 : m0 84 0 = 0 := by rw [e0, wr_same]
  have hw0 := hw_0 hz0
  refine tz_aload0 (n := 6) (g_at ck_X11_taken 3 rfl) rfl (g_ne kd_84) ?_
  refine tz_iload1 (n := 7) (g_at ck_X11_taken 4 rfl) rfl ?_
  refine tz_cvI1 (n := 10) (μ' := μX11_isCrossing) (cb' := 0) (sb' := 0) ml_X11_393 mo_X11_isCrossing mv_X11_isCrossing np_X11_isCrossing kd_84 (g_at ck_X11_taken 5 rfl) (mp_isCrossing hc hL hR1 hW hM0 h00) rfl rfl rfl ⟨by decide, by decide⟩ (Nat.le_of_ble_eq_true rfl) (by decide) (by decide) (fun x7 ρ9 m7 hq => ?_)
  obtain ⟨rfl, hR2, hq7⟩ := hq
  refine tz_if_eq (n := 13) (tgt := 23) (g_at ck_X11_taken 6 rfl) rfl rfl (by rcases hq7.b01 with h9 | h9 <;> omega) (fun h10 => ?_) (fun h10 => ?_)
  · skip
    refine tz_iconst (n := 24) (g_at ck_X11_taken 13 rfl) rfl ?_
    exact tz_iret (g_at ck_X11_taken 14 rfl) rfl (rI_mk ⟨rfl, hR2, by rw [(hq7.no h10).2]; exact hk0.tr mK.w0, by rw [(hq7.no h10).2, wr_same, sqn (hq7.no h10).1], fun h9 => absurd h9 (by rw [sqn (hq7.no h10).1]; exact (hq7.no h10).1)⟩)
  · skip
    obtain ⟨hc0, rfl⟩ := hq7.ok h10
    have hi0 := cdC_i hc0
    refine tz_aload0 (n := 14) (g_at ck_X11_taken 7 rfl) rfl (g_ne kd_84) ?_
    refine tz_iload2 (n := 15) (g_at ck_X11_taken 8 rfl) rfl ?_
    refine tz_iconst (n := 16) (g_at ck_X11_taken 9 rfl) rfl ?_
    refine tz_iconst (n := 17) (g_at ck_X11_taken 10 rfl) rfl ?_
    refine tz_cvI3 (n := 20) (μ' := μX11_isSoon) (cb' := 0) (sb' := 0) ml_X11_417 mo_X11_isSoon mv_X11_isSoon np_X11_isSoon kd_84 (g_at ck_X11_taken 11 rfl) (mp_isSoon hn (by decide) hL hR2 h00) rfl rfl rfl ⟨by decide, by decide⟩ (Nat.le_of_ble_eq_true rfl) (by decide) (by decide) (fun x17 ρ9 m17 hq => ?_)
    obtain ⟨rfl, hR3, hq17⟩ := hq
    refine tz_if_ne (n := 23) (tgt := 25) (g_at ck_X11_taken 12 rfl) rfl rfl (by rcases hq17.b01 with h9 | h9 <;> omega) (fun h20 => ?_) (fun h20 => ?_)
    · skip
      obtain ⟨hc1, rfl⟩ := hq17.ok h20
      have hi1 := cdD_i hc1
      refine tz_aload0 (n := 26) (g_at ck_X11_taken 15 rfl) rfl (g_ne kd_84) ?_
      refine tz_iload2 (n := 27) (g_at ck_X11_taken 16 rfl) rfl ?_
      refine tz_cvV1 (n := 30) (μ' := μX11_goesTo) (cb' := 0) (sb' := 0) ml_X11_420 mo_X11_goesTo mv_X11_goesTo np_X11_goesTo kd_84 (g_at ck_X11_taken 17 rfl) (mp_goesTo hL hR3 hW hM0 hs0 hσ hw0 (by omega)) rfl rfl rfl ⟨by decide, by decide⟩ (Nat.le_of_ble_eq_true rfl) (by decide) (by decide) (fun ρ9 m27 hq => ?_)
      obtain ⟨rfl, hR4, hT27, hD27⟩ := hq
      have hTx : MT m27 35 Λ z00 (daysP Λ hl tl (sig0 s) n.toNat) := hT27
      have hσx := daysP_WS (hl := hl) (tl := tl) hW hσ (Int.le_refl 0) n.toNat
      refine tz_aload0 (n := 31) (g_at ck_X11_taken 18 rfl) rfl (g_ne kd_84) ?_
      refine tz_getAv (n := 34) (a := 106) fk_X11_84 kd_84 (ly_84_47 hL) (g_at ck_X11_taken 19 rfl) rfl ?_
      refine tz_iload1 (n := 35) (g_at ck_X11_taken 20 rfl) rfl ?_
      refine tz_iald (n := 36) kd_106 (by omega) (g_at ck_X11_taken 21 rfl) rfl ?_
      rw [hTx.pd hW hσx (by omega) hi0]
      exact tz_iret (g_at ck_X11_taken 22 rfl) rfl (rI_mk ⟨rfl, hR4, hk0.tr (mK.fd hD27), by rw [hD27.1 84 (by decide), h00, hc0, hc1]; rfl, fun _ => rfl⟩)
    · skip
      refine tz_iconst (n := 24) (g_at ck_X11_taken 13 rfl) rfl ?_
      exact tz_iret (g_at ck_X11_taken 14 rfl) rfl (rI_mk ⟨rfl, hR3, by rw [(hq17.no h20).2]; exact hk0.tr mK.w0, by rw [(hq17.no h20).2, wr_same, hc0, sq0], fun h9 => absurd h9 (by rw [hc0, sq0]; exact (hq17.no h20).1)⟩)
