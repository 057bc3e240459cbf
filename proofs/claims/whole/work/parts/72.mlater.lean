/-! The reference: uneven, busiest, stuck, later. -/
theorem mnG_lt {Λ σ : Mm} {b c : Int} (h : WS Λ b σ) (hb : 0 ≤ b ∧ b ≤ 1200) (hc : 0 ≤ c ∧ c < 9) : ∀ n : Nat, 0 < n → n ≤ 5 → mnG σ c n < 9999
  | n + 1, _, h5 => by
    have h1 := h.2.2.2 (c * 5 + (n : Int)) (by omega) (by omega)
    show (if σ 2 (c * 5 + (n : Int)) < mnG σ c n then σ 2 (c * 5 + (n : Int)) else mnG σ c n) < 9999
    split <;> omega
theorem mnG_s {σ : Mm} {c : Int} {n : Nat} : mnG σ c (n + 1) = lesF (mnG σ c n) (σ 2 (c * 5 + (n : Int))) := by
  show (if σ 2 (c * 5 + (n : Int)) < mnG σ c n then σ 2 (c * 5 + (n : Int)) else mnG σ c n) = _
  unfold lesF
  repeat' split
  all_goals omega
theorem bzN_v {f : Int → Int} : ∀ n : Nat, ((bzN f n).1 = -1 → (bzN f n).2 = 0) ∧ ((bzN f n).1 ≠ -1 → (bzN f n).2 = f (bzN f n).1 ∧ 0 ≤ (bzN f n).1 ∧ (bzN f n).1 < n)
  | 0 => ⟨fun _ => rfl, fun h => absurd rfl h⟩
  | n + 1 => by
    have ih := bzN_v (f := f) n
    have e : bzN f (n + 1) = if f (n : Int) ≤ (bzN f n).2 then bzN f n else ((n : Int), f (n : Int)) := rfl
    rw [e]
    split
    · exact ⟨ih.1, fun h => ⟨(ih.2 h).1, (ih.2 h).2.1, by have := (ih.2 h).2.2; omega⟩⟩
    · exact ⟨fun h => absurd (show (n : Int) = -1 from h) (by omega), fun _ => ⟨rfl, Int.natCast_nonneg n, by show (n : Int) < ((n + 1 : Nat) : Int); omega⟩⟩
theorem bAnd_m1 {x : Int} (h : -2147483648 ≤ x ∧ x < 2147483648) : bAnd x (-1) = x := by
  have e : Int32.ofInt x &&& Int32.ofInt (-1) = Int32.ofInt x := Int32.and_neg_one
  show (Int32.ofInt x &&& Int32.ofInt (-1)).toInt = x
  rw [e]
  exact w32_id h
theorem stkN_r {Λ τ : Mm} {v : Int} (h : -2147483648 ≤ v ∧ v < 2147483648) : ∀ n : Nat, -2147483648 ≤ stkN Λ τ v n ∧ stkN Λ τ v n < 2147483648
  | 0 => h
  | n + 1 => by
    have ih := stkN_r (Λ := Λ) (τ := τ) h n
    show -2147483648 ≤ (if τ 1 (n : Int) ≤ 0 then stkN Λ τ v n else bAnd (stkN Λ τ v n) (bXor (bShl 1 (n : Int)) (-1))) ∧ (if τ 1 (n : Int) ≤ 0 then stkN Λ τ v n else bAnd (stkN Λ τ v n) (bXor (bShl 1 (n : Int)) (-1))) < 2147483648
    split
    · exact ih
    · exact bAnd_rg _ _
theorem wi_cd {n a b : Int} (h : ¬ wiF n a b = 0) : cdD n a b = 0 := by
  unfold wiF at h
  unfold cdD
  split at h
  · rw [if_pos (by assumption)]
  · exact absurd rfl h
theorem wi_cn {n a b : Int} (h : wiF n a b = 0) : cdD n a b = 2 := by
  unfold wiF at h
  unfold cdD
  split at h
  · exact absurd h (by decide)
  · rw [if_neg (by assumption)]
theorem wi_m {m m' : Mm} {n a b : Int} (h : ¬ wiF n a b = 0) : (if wiF n a b = 0 then m' else m) = m := if_neg h
theorem wi_n {m m' : Mm} {n a b : Int} (h : wiF n a b = 0) : (if wiF n a b = 0 then m' else m) = m' := if_pos h
theorem po_i {a b x c : Int} {n : Nat} {f : Int → Int} (h : (a = -1 → n = 0 ∧ b = c) ∧ (a ≠ -1 → b = f (x + a) ∧ 0 ≤ a ∧ a < n)) : -1 ≤ a ∧ a ≤ n := by
  by_cases e : a = -1
  · omega
  · have := h.2 e
    omega
theorem bz_i {a b : Int} {n : Nat} {f : Int → Int} (h : (a = -1 → b = 0) ∧ (a ≠ -1 → b = f a ∧ 0 ≤ a ∧ a < n)) : -1 ≤ a ∧ a ≤ n := by
  by_cases e : a = -1
  · omega
  · have := h.2 e
    omega
theorem mp_uneven {l : Launch} {γ : Gh} {ρ m : Mm} {c n : Int} (hc : -2147483648 ≤ c ∧ c < 2147483648) (hn : -2147483648 ≤ n ∧ n < 2147483648) {s : Int → Int} {Λ : Mm} {hl tl : List Int} (hL : LY ρ) (hR : MR m) (hW : WL Λ) (hM : MLand m Λ hl tl) (hs : MRow m s) (hσ : WS Λ 0 (sig0 s)) (hz : m 84 51 = 0) : gE l γ μX11_uneven 6 0 0 (rI KK fun x ρ9 m9 => ρ = ρ9 ∧ MR m9 ∧ mK m m9 ∧ m9 84 0 = sq (cdC Λ c) (cdD n 0 100) ∧ (sq (cdC Λ c) (cdD n 0 100) = 0 → (if Λ 3 c = 0 then 0 else mxG (daysP Λ hl tl (sig0 s) n.toNat) c (Λ 3 c).toNat - mnG (daysP Λ hl tl (sig0 s) n.toNat) c (Λ 3 c).toNat) = x)) xN KK ρ m [vR 84, vI c, vI n] := by
  refine gE.ofw cl_X11.2 ?_ rfl rfl (Nat.le_of_ble_eq_true rfl)
  show gT l γ μX11_uneven 6 0 0 _ _ KK ρ m 0 [some (vR 84), some (vI c), some (vI n), none, none, none, none] []
  have hn1 := hW.1
  have hn8 := hW.2.1
  refine tz_aload0 (n := 1) (g_at ck_X11_uneven 0 rfl) rfl (g_ne kd_84) ?_
  refine tz_iconst (n := 2) (g_at ck_X11_uneven 1 rfl) rfl ?_
  refine tz_putIr (n := 5) (kz := 0) fk_X11_132 kd_84 (g_at ck_X11_uneven 2 rfl) rfl hR ⟨(by decide), (by decide)⟩ rfl (fun hR1 => ?_)
  obtain ⟨m0, e0⟩ : ∃ m0, m0 = wr m 84 0 0 := ⟨_, rfl⟩
  rw [← e0] at hR1 ⊢
  have hk0 : mK m m0 := by rw [e0]; exact mK.w0
  have hM0 := hk0.land hM
  have hs0 := hk0.row hs
  have hz0 : m0 84 51 = 0 := hk0.w51.trans hz
  have h00 : m0 84 0 = 0 := by rw [e0, wr_same]
  have hw0 := hw_0 hz0
  refine tz_aload0 (n := 6) (g_at ck_X11_uneven 3 rfl) rfl (g_ne kd_84) ?_
  refine tz_iload1 (n := 7) (g_at ck_X11_uneven 4 rfl) rfl ?_
  refine tz_cvI1 (n := 10) (μ' := μX11_isCrossing) (cb' := 0) (sb' := 0) ml_X11_393 mo_X11_isCrossing mv_X11_isCrossing np_X11_isCrossing kd_84 (g_at ck_X11_uneven 5 rfl) (mp_isCrossing hc hL hR1 hW hM0 h00) rfl rfl rfl ⟨by decide, by decide⟩ (Nat.le_of_ble_eq_true rfl) (by decide) (by decide) (fun x7 ρ9 m7 hq => ?_)
  obtain ⟨rfl, hR2, hq7⟩ := hq
  refine tz_if_eq (n := 13) (tgt := 23) (g_at ck_X11_uneven 6 rfl) rfl rfl (by rcases hq7.b01 with h9 | h9 <;> omega) (fun h10 => ?_) (fun h10 => ?_)
  · skip
    refine tz_iconst (n := 24) (g_at ck_X11_uneven 13 rfl) rfl ?_
    exact tz_iret (g_at ck_X11_uneven 14 rfl) rfl (rI_mk ⟨rfl, hR2, by rw [(hq7.no h10).2]; exact hk0.tr mK.w0, by rw [(hq7.no h10).2, wr_same, sqn (hq7.no h10).1], fun h9 => absurd h9 (by rw [sqn (hq7.no h10).1]; exact (hq7.no h10).1)⟩)
  · skip
    obtain ⟨hc0, rfl⟩ := hq7.ok h10
    have hi0 := cdC_i hc0
    refine tz_aload0 (n := 14) (g_at ck_X11_uneven 7 rfl) rfl (g_ne kd_84) ?_
    refine tz_iload2 (n := 15) (g_at ck_X11_uneven 8 rfl) rfl ?_
    refine tz_iconst (n := 16) (g_at ck_X11_uneven 9 rfl) rfl ?_
    refine tz_iconst (n := 17) (g_at ck_X11_uneven 10 rfl) rfl ?_
    refine tz_cvI3 (n := 20) (μ' := μX11_isSoon) (cb' := 0) (sb' := 0) ml_X11_417 mo_X11_isSoon mv_X11_isSoon np_X11_isSoon kd_84 (g_at ck_X11_uneven 11 rfl) (mp_isSoon hn (by decide) hL hR2 h00) rfl rfl rfl ⟨by decide, by decide⟩ (Nat.le_of_ble_eq_true rfl) (by decide) (by decide) (fun x17 ρ9 m17 hq => ?_)
    obtain ⟨rfl, hR3, hq17⟩ := hq
    refine tz_if_ne (n := 23) (tgt := 25) (g_at ck_X11_uneven 12 rfl) rfl rfl (by rcases hq17.b01 with h9 | h9 <;> omega) (fun h20 => ?_) (fun h20 => ?_)
    · skip
      obtain ⟨hc1, rfl⟩ := hq17.ok h20
      have hi1 := cdD_i hc1
      refine tz_aload0 (n := 26) (g_at ck_X11_uneven 15 rfl) rfl (g_ne kd_84) ?_
      refine tz_iload2 (n := 27) (g_at ck_X11_uneven 16 rfl) rfl ?_
      refine tz_cvV1 (n := 30) (μ' := μX11_goesTo) (cb' := 0) (sb' := 0) ml_X11_420 mo_X11_goesTo mv_X11_goesTo np_X11_goesTo kd_84 (g_at ck_X11_uneven 17 rfl) (mp_goesTo hL hR3 hW hM0 hs0 hσ hw0 (by omega)) rfl rfl rfl ⟨by decide, by decide⟩ (Nat.le_of_ble_eq_true rfl) (by decide) (by decide) (fun ρ9 m27 hq => ?_)
      obtain ⟨rfl, hR4, hT27, hD27⟩ := hq
      have hTx : MT m27 35 Λ z00 (daysP Λ hl tl (sig0 s) n.toNat) := hT27
      have hσx := daysP_WS (hl := hl) (tl := tl) hW hσ (Int.le_refl 0) n.toNat
      have hcw := hW.2.2.1 c hi0.1 hi0.2
      have r87 : m27 87 c = Λ 3 c := (((hM0.fr hD27.1 mDay_91).2.2.1 c hi0.1 hi0.2).2.2)
      refine tz_iconst (n := 31) (g_at ck_X11_uneven 18 rfl) rfl ?_
      refine tz_istore3 (n := 32) (g_at ck_X11_uneven 19 rfl) rfl (by decide) g_hpI ?_
      refine tz_sipush (n := 35) (g_at ck_X11_uneven 20 rfl) rfl rfl ?_
      refine tz_istore4 (n := 37) (g_at ck_X11_uneven 21 rfl) rfl (by decide) g_hpI ?_
      refine tz_iconst (n := 38) (g_at ck_X11_uneven 22 rfl) rfl ?_
      refine tz_istore5 (n := 40) (g_at ck_X11_uneven 23 rfl) rfl (by decide) g_hpI ?_
      refine g_for (fun i : Nat => gT l γ μX11_uneven 6 0 0 _ _ KK ρ m27 40 [some (vR 84), some (vI c), some (vI n), some (vI (mxG (daysP Λ hl tl (sig0 s) n.toNat) c i)), some (vI (mnG (daysP Λ hl tl (sig0 s) n.toNat) c i)), some (vI (i : Int)), none] []) (Λ 3 c).toNat ?_ (fun i hi ihi => ?_) 0 (Nat.zero_le _)
      · skip
        have hmr := mxG_rg hσx (show 0 ≤ 0 + 9 * (n.toNat : Int) ∧ 0 + 9 * (n.toNat : Int) ≤ 1200 by omega) (show 0 ≤ c ∧ c < 9 by omega) (Λ 3 c).toNat (by omega)
        refine tz_iload5 (n := 42) (g_at ck_X11_uneven 24 rfl) rfl ?_
        refine tz_aload0 (n := 43) (g_at ck_X11_uneven 25 rfl) rfl (g_ne kd_84) ?_
        refine tz_getAv (n := 46) (a := 87) fk_X11_23 kd_84 (ly_84_7 hL) (g_at ck_X11_uneven 26 rfl) rfl ?_
        refine tz_iload1 (n := 47) (g_at ck_X11_uneven 27 rfl) rfl ?_
        refine tz_iald (n := 48) kd_87 (by omega) (g_at ck_X11_uneven 28 rfl) rfl ?_
        rw [r87]
        refine tz_icmp_ge (n := 51) (tgt := 92) (g_at ck_X11_uneven 29 rfl) rfl rfl (by omega) (fun h48 => ?_) (fun h48 => absurd h48 (by omega))
        refine tz_iload4 (n := 94) (g_at ck_X11_uneven 52 rfl) rfl ?_
        refine tz_sipush (n := 97) (g_at ck_X11_uneven 53 rfl) rfl rfl ?_
        refine tz_icmp_ne (n := 100) (tgt := 104) (g_at ck_X11_uneven 54 rfl) rfl rfl (by omega) (fun h97 => ?_) (fun h97 => ?_)
        · skip
          refine tz_iload3 (n := 105) (g_at ck_X11_uneven 57 rfl) rfl ?_
          refine tz_iload4 (n := 107) (g_at ck_X11_uneven 58 rfl) rfl ?_
          refine tz_isub (n := 108) (g_at ck_X11_uneven 59 rfl) rfl ?_
          exact tz_iret (g_at ck_X11_uneven 60 rfl) rfl (rI_mk ⟨rfl, hR4, hk0.tr (mK.fd hD27), by rw [hD27.1 84 (by decide), h00, hc0, hc1]; rfl, fun _ => by rw [if_neg fun h9 => h97 (by rw [h9]; rfl)]⟩)
        · skip
          refine tz_iconst (n := 101) (g_at ck_X11_uneven 55 rfl) rfl ?_
          refine tz_goto (tgt := 108) (g_at ck_X11_uneven 56 rfl) rfl ?_
          exact tz_iret (g_at ck_X11_uneven 60 rfl) rfl (rI_mk ⟨rfl, hR4, hk0.tr (mK.fd hD27), by rw [hD27.1 84 (by decide), h00, hc0, hc1]; rfl, fun _ => if_pos (Classical.byContradiction fun h9 => absurd h97 (by have := mnG_lt hσx (show 0 ≤ 0 + 9 * (n.toNat : Int) ∧ 0 + 9 * (n.toNat : Int) ≤ 1200 by omega) (show 0 ≤ c ∧ c < 9 by omega) (Λ 3 c).toNat (by omega) (by omega); omega))⟩)
      · skip
        have hmr := mxG_rg hσx (show 0 ≤ 0 + 9 * (n.toNat : Int) ∧ 0 + 9 * (n.toNat : Int) ≤ 1200 by omega) (show 0 ≤ c ∧ c < 9 by omega) i (by omega)
        have hg := hσx.2.2.2 (c * 5 + (i : Int)) (by omega) (by omega)
        refine tz_iload5 (n := 42) (g_at ck_X11_uneven 24 rfl) rfl ?_
        refine tz_aload0 (n := 43) (g_at ck_X11_uneven 25 rfl) rfl (g_ne kd_84) ?_
        refine tz_getAv (n := 46) (a := 87) fk_X11_23 kd_84 (ly_84_7 hL) (g_at ck_X11_uneven 26 rfl) rfl ?_
        refine tz_iload1 (n := 47) (g_at ck_X11_uneven 27 rfl) rfl ?_
        refine tz_iald (n := 48) kd_87 (by omega) (g_at ck_X11_uneven 28 rfl) rfl ?_
        rw [r87]
        refine tz_icmp_ge (n := 51) (tgt := 92) (g_at ck_X11_uneven 29 rfl) rfl rfl (by omega) (fun h48 => absurd h48 (by omega)) (fun h48 => ?_)
        refine tz_aload0 (n := 52) (g_at ck_X11_uneven 30 rfl) rfl (g_ne kd_84) ?_
        refine tz_getAv (n := 55) (a := 105) fk_X11_81 kd_84 (ly_84_46 hL) (g_at ck_X11_uneven 31 rfl) rfl ?_
        refine tz_iconst (n := 56) (g_at ck_X11_uneven 32 rfl) rfl ?_
        refine tz_iload1 (n := 57) (g_at ck_X11_uneven 33 rfl) rfl ?_
        refine tz_imul (n := 58) (g_at ck_X11_uneven 34 rfl) rfl ?_
        refine tz_iload5 (n := 60) (g_at ck_X11_uneven 35 rfl) rfl ?_
        refine tz_iadd (n := 61) (g_at ck_X11_uneven 36 rfl) rfl ?_
        rw [show 5 * c + (i : Int) = c * 5 + (i : Int) by omega]
        refine tz_iald (n := 62) kd_105 (by omega) (g_at ck_X11_uneven 37 rfl) rfl ?_
        rw [hTx.gn hσx (by omega) (by omega)]
        refine tz_istore6 (n := 64) (g_at ck_X11_uneven 38 rfl) rfl (by decide) g_hpI ?_
        refine tz_iload6 (n := 66) (g_at ck_X11_uneven 39 rfl) rfl ?_
        refine tz_iload3 (n := 67) (g_at ck_X11_uneven 40 rfl) rfl ?_
        refine tz_icmp_le (n := 70) (tgt := 75) (g_at ck_X11_uneven 41 rfl) rfl rfl (by omega) (fun h67 => ?_) (fun h67 => ?_)
        · skip
          refine tz_iload3 (n := 76) (g_at ck_X11_uneven 44 rfl) rfl ?_
          refine tz_istore3 (n := 77) (g_at ck_X11_uneven 45 rfl) rfl (by decide) g_hpI ?_
          refine tz_iload4 (n := 79) (g_at ck_X11_uneven 46 rfl) rfl ?_
          refine tz_iload6 (n := 81) (g_at ck_X11_uneven 47 rfl) rfl ?_
          refine tz_csI2 (n := 84) (μ' := μX11_lesser) (cb' := 0) (sb' := 0) ml_X11_362 mo_X11_lesser ms_X11_lesser np_X11_lesser (g_at ck_X11_uneven 48 rfl) (mp_lesser hR4 (by omega) (by omega)) rfl rfl ⟨by decide, by decide⟩ (Nat.le_of_ble_eq_true rfl) (by decide) (by decide) (fun x81 ρ9 m81 hq => ?_)
          obtain ⟨rfl, hR5, rfl, rfl⟩ := hq
          refine tz_istore4 (n := 86) (g_at ck_X11_uneven 49 rfl) rfl (by decide) g_hpI ?_
          refine tz_iinc5 (n := 89) (g_at ck_X11_uneven 50 rfl) rfl (by decide) g_hpI ?_
          refine tz_goto (tgt := 40) (g_at ck_X11_uneven 51 rfl) rfl ?_
          refine tz_drop6 ?_
          have e9 : mxG (daysP Λ hl tl (sig0 s) n.toNat) c (i + 1) = mxG (daysP Λ hl tl (sig0 s) n.toNat) c i := if_neg (Int.not_lt.mpr h67)
          rw [e9, mnG_s] at ihi
          exact ihi
        · skip
          refine tz_iload6 (n := 72) (g_at ck_X11_uneven 42 rfl) rfl ?_
          refine tz_goto (tgt := 76) (g_at ck_X11_uneven 43 rfl) rfl ?_
          refine tz_istore3 (n := 77) (g_at ck_X11_uneven 45 rfl) rfl (by decide) g_hpI ?_
          refine tz_iload4 (n := 79) (g_at ck_X11_uneven 46 rfl) rfl ?_
          refine tz_iload6 (n := 81) (g_at ck_X11_uneven 47 rfl) rfl ?_
          refine tz_csI2 (n := 84) (μ' := μX11_lesser) (cb' := 0) (sb' := 0) ml_X11_362 mo_X11_lesser ms_X11_lesser np_X11_lesser (g_at ck_X11_uneven 48 rfl) (mp_lesser hR4 (by omega) (by omega)) rfl rfl ⟨by decide, by decide⟩ (Nat.le_of_ble_eq_true rfl) (by decide) (by decide) (fun x81 ρ9 m81 hq => ?_)
          obtain ⟨rfl, hR6, rfl, rfl⟩ := hq
          refine tz_istore4 (n := 86) (g_at ck_X11_uneven 49 rfl) rfl (by decide) g_hpI ?_
          refine tz_iinc5 (n := 89) (g_at ck_X11_uneven 50 rfl) rfl (by decide) g_hpI ?_
          refine tz_goto (tgt := 40) (g_at ck_X11_uneven 51 rfl) rfl ?_
          refine tz_drop6 ?_
          have e9 : mxG (daysP Λ hl tl (sig0 s) n.toNat) c (i + 1) = (daysP Λ hl tl (sig0 s) n.toNat) 2 (c * 5 + (i : Int)) := if_pos (Int.not_le.mp h67)
          rw [e9, mnG_s] at ihi
          exact ihi
    · skip
      refine tz_iconst (n := 24) (g_at ck_X11_uneven 13 rfl) rfl ?_
      exact tz_iret (g_at ck_X11_uneven 14 rfl) rfl (rI_mk ⟨rfl, hR3, by rw [(hq17.no h20).2]; exact hk0.tr mK.w0, by rw [(hq17.no h20).2, wr_same, hc0, sq0], fun h9 => absurd h9 (by rw [hc0, sq0]; exact (hq17.no h20).1)⟩)
theorem mK.wr {m m9 : Mm} {a k v : Int} (h : mK m m9) (ha : a ∈ mC) (hk : a = 84 → k = 0 ∨ k = 62) (hr : a = 103 → k < 0 ∨ 35 ≤ k) : mK m (wr m9 a k v) := ⟨h.1.wr ha, fun j h1 h2 => by
  by_cases e : a = 84
  · rw [e, wr_at, if_neg (by have := hk e; omega)]
    exact h.2.1 j h1 h2
  · rw [wr_ne (Ne.symm e)]
    exact h.2.1 j h1 h2, fun j h1 h2 => by
  by_cases e : a = 103
  · rw [e, wr_at, if_neg (by have := hr e; omega)]
    exact h.2.2 j h1 h2
  · rw [wr_ne (Ne.symm e)]
    exact h.2.2 j h1 h2⟩
theorem mK.l {m m9 : Mm} {L : List Int} (h : Fr L m m9) (hL : ∀ x ∈ L, x ∈ mC ∧ x ≠ 84 ∧ x ≠ 103) : mK m m9 := ⟨h.sub fun x hx => (hL x hx).1, fun k _ _ => by rw [h 84 fun h9 => (hL _ h9).2.1 rfl], fun k _ _ => by rw [h 103 fun h9 => (hL _ h9).2.2 rfl]⟩
theorem MT.wrn {m Λ e σ : Mm} {b a k v : Int} (h : MT m b Λ e σ) (h1 : a ≠ 103 ∧ a ≠ 105 ∧ a ≠ 106 ∧ a ≠ 107) : MT (wr m a k v) b Λ e σ := by
  unfold MT at h ⊢
  rw [wr_ne (Ne.symm h1.1), wr_ne (Ne.symm h1.2.1), wr_ne (Ne.symm h1.2.2.1), wr_ne (Ne.symm h1.2.2.2)]
  exact h
theorem ofN_s {Λ σ : Mm} {hl tl : List Int} {i : Nat} : ofN Λ hl tl σ (i + 1) = ofP (daysP Λ hl tl σ (i + 1)) (ofN Λ hl tl σ i) (Λ 0 1).toNat := rfl
theorem ofP_s {σ : Mm} {f : Int → Int} {j : Nat} : ofP σ f (j + 1) = up (ofP σ f j) (σ 0 (1 + (j : Int))) (ofP σ f j (σ 0 (1 + (j : Int))) + 1) := rfl
theorem mp_busiest {l : Launch} {γ : Gh} {ρ m : Mm} {n : Int} {s : Int → Int} {Λ : Mm} {hl tl : List Int} (hL : LY ρ) (hR : MR m) (hW : WL Λ) (hM : MLand m Λ hl tl) (hs : MRow m s) (hσ : WS Λ 0 (sig0 s)) (hz : m 84 51 = 0) (hn : 0 ≤ n ∧ n ≤ 100) : gE l γ μX11_busiest 6 0 0 (rI KK fun x ρ9 m9 => ρ = ρ9 ∧ MR m9 ∧ mK m m9 ∧ m9 84 = m 84 ∧ (bzN (ofN Λ hl tl (sig0 s) n.toNat) (Λ 0 0).toNat).1 = x) xN KK ρ m [vR 84, vI n] := by
  refine gE.ofw cl_X11.2 ?_ rfl rfl (Nat.le_of_ble_eq_true rfl)
  show gT l γ μX11_busiest 6 0 0 _ _ KK ρ m 0 [some (vR 84), some (vI n), none, none] []
  have hn1 := hW.1
  have hn8 := hW.2.1
  refine tz_iconst (n := 1) (g_at ck_X11_busiest 0 rfl) rfl ?_
  refine tz_istore2 (n := 2) (g_at ck_X11_busiest 1 rfl) rfl (by decide) g_hpI ?_
  refine g_for (fun i : Nat => ∀ m1 : Mm, (MR m1 ∧ Fr [112] m m1 ∧ ∀ c, 0 ≤ c → c < (i : Int) → m1 112 c = 0) → gT l γ μX11_busiest 6 0 0 _ _ KK ρ m1 2 [some (vR 84), some (vI n), some (vI (i : Int)), none] []) 9 ?_ (fun i hi ihi => ?_) 0 (Nat.zero_le _) _ ⟨hR, Fr.rf, fun c h1 h2 => absurd h2 (by omega)⟩
  · intro m1 hinv
    obtain ⟨hR1, hF1, h1⟩ := hinv
    have hk1 : mK m m1 := mK.l hF1 (by decide)
    refine tz_iload2 (n := 3) (g_at ck_X11_busiest 2 rfl) rfl ?_
    refine tz_bipush (n := 5) (g_at ck_X11_busiest 3 rfl) rfl rfl ?_
    refine tz_icmp_ge (n := 8) (tgt := 21) (g_at ck_X11_busiest 4 rfl) rfl rfl ⟨(by omega), (by omega), (by decide), (by decide)⟩ (fun h5 => ?_) (fun h5 => absurd h5 (by omega))
    refine tz_aload0 (n := 22) (g_at ck_X11_busiest 12 rfl) rfl (g_ne kd_84) ?_
    refine tz_cvV0 (n := 25) (μ' := μX11_tries) (cb' := 0) (sb' := 0) ml_X11_356 mo_X11_tries mv_X11_tries np_X11_tries kd_84 (g_at ck_X11_busiest 13 rfl) (mp_tries (Λ := Λ) hL hR1 (hk1.row hs)) rfl rfl rfl ⟨by decide, by decide⟩ (Nat.le_of_ble_eq_true rfl) (by decide) (by decide) (fun ρ9 m22 hq => ?_)
    obtain ⟨rfl, hR1, hT22, hD22⟩ := hq
    refine tz_iconst (n := 26) (g_at ck_X11_busiest 14 rfl) rfl ?_
    refine tz_istore2 (n := 27) (g_at ck_X11_busiest 15 rfl) rfl (by decide) g_hpI ?_
    refine g_for (fun i : Nat => ∀ m2 : Mm, (MR m2 ∧ MT m2 35 Λ z00 (daysP Λ hl tl (sig0 s) (i)) ∧ mK m m2 ∧ m2 84 = m 84 ∧ ∀ c, 0 ≤ c → c < 9 → m2 112 c = ofN Λ hl tl (sig0 s) i c) → gT l γ μX11_busiest 6 0 0 _ _ KK ρ m2 27 [some (vR 84), some (vI n), some (vI (i : Int)), none] []) n.toNat ?_ (fun i hi ihi => ?_) 0 (Nat.zero_le _) _ ⟨hR1, hT22, hk1.tr (mK.fd hD22), (hD22.1 84 (by decide)).trans (hF1 84 (by decide)), fun c g1 g2 => by rw [hD22.1 112 (by decide)]; exact h1 c g1 g2⟩
    · intro m2 hinv
      obtain ⟨hR2, hT2, hk2, e842, ho2⟩ := hinv
      have hor := ofN_rg hW hl tl (sig0 s) n.toNat
      have hN := hM.1
      refine tz_iload2 (n := 28) (g_at ck_X11_busiest 16 rfl) rfl ?_
      refine tz_iload1 (n := 29) (g_at ck_X11_busiest 17 rfl) rfl ?_
      refine tz_icmp_ge (n := 32) (tgt := 78) (g_at ck_X11_busiest 18 rfl) rfl rfl (by omega) (fun h29 => ?_) (fun h29 => absurd h29 (by omega))
      refine tz_iconst (n := 79) (g_at ck_X11_busiest 45 rfl) rfl ?_
      refine tz_istore2 (n := 80) (g_at ck_X11_busiest 46 rfl) rfl (by decide) g_hpI ?_
      refine tz_iconst (n := 81) (g_at ck_X11_busiest 47 rfl) rfl ?_
      refine tz_istore3 (n := 82) (g_at ck_X11_busiest 48 rfl) rfl (by decide) g_hpI ?_
      refine g_for (fun i : Nat => gT l γ μX11_busiest 6 0 0 _ _ KK ρ m2 82 [some (vR 84), some (vI n), some (vI (bzN (ofN Λ hl tl (sig0 s) n.toNat) i).1), some (vI (i : Int))] []) (Λ 0 0).toNat ?_ (fun i hi ihi => ?_) 0 (Nat.zero_le _)
      · skip
        refine tz_iload3 (n := 83) (g_at ck_X11_busiest 49 rfl) rfl ?_
        refine tz_aload0 (n := 84) (g_at ck_X11_busiest 50 rfl) rfl (g_ne kd_84) ?_
        refine tz_getIw (n := 87) (kz := 1) fk_X11_302 kd_84 (g_at ck_X11_busiest 51 rfl) rfl rfl ?_
        rw [e842, hN]
        refine tz_icmp_ge (n := 90) (tgt := 122) (g_at ck_X11_busiest 52 rfl) rfl rfl (by omega) (fun h87 => ?_) (fun h87 => absurd h87 (by omega))
        refine tz_iload2 (n := 123) (g_at ck_X11_busiest 71 rfl) rfl ?_
        exact tz_iret (g_at ck_X11_busiest 72 rfl) rfl (rI_mk ⟨rfl, hR2, hk2, e842, rfl⟩)
      · skip
        have hbv := bzN_v (f := ofN Λ hl tl (sig0 s) n.toNat) i
        have hoi := hor (i : Int)
        have hbr := bzN_rg (b := 8 * (n.toNat : Int)) (by omega) hor i
        have hle : ofN Λ hl tl (sig0 s) n.toNat (i : Int) ≤ (bzN (ofN Λ hl tl (sig0 s) n.toNat) i).2 → ofN Λ hl tl (sig0 s) n.toNat (i : Int) ≤ (bzN (ofN Λ hl tl (sig0 s) n.toNat) i).2 := id
        have hnl : ¬ ofN Λ hl tl (sig0 s) n.toNat (i : Int) ≤ (bzN (ofN Λ hl tl (sig0 s) n.toNat) i).2 → ¬ ofN Λ hl tl (sig0 s) n.toNat (i : Int) ≤ (bzN (ofN Λ hl tl (sig0 s) n.toNat) i).2 := id
        refine tz_iload3 (n := 83) (g_at ck_X11_busiest 49 rfl) rfl ?_
        refine tz_aload0 (n := 84) (g_at ck_X11_busiest 50 rfl) rfl (g_ne kd_84) ?_
        refine tz_getIw (n := 87) (kz := 1) fk_X11_302 kd_84 (g_at ck_X11_busiest 51 rfl) rfl rfl ?_
        rw [e842, hN]
        refine tz_icmp_ge (n := 90) (tgt := 122) (g_at ck_X11_busiest 52 rfl) rfl rfl (by omega) (fun h87 => absurd h87 (by omega)) (fun h87 => ?_)
        refine tz_aload0 (n := 91) (g_at ck_X11_busiest 53 rfl) rfl (g_ne kd_84) ?_
        refine tz_getAv (n := 94) (a := 112) fk_X11_102 kd_84 (ly_84_54 hL) (g_at ck_X11_busiest 54 rfl) rfl ?_
        refine tz_iload3 (n := 95) (g_at ck_X11_busiest 55 rfl) rfl ?_
        refine tz_iald (n := 96) kd_112 (by omega) (g_at ck_X11_busiest 56 rfl) rfl ?_
        rw [ho2 _ (by omega) (by omega)]
        refine tz_iload2 (n := 97) (g_at ck_X11_busiest 57 rfl) rfl ?_
        refine tz_iconst (n := 98) (g_at ck_X11_busiest 58 rfl) rfl ?_
        refine tz_icmp_ne (n := 101) (tgt := 105) (g_at ck_X11_busiest 59 rfl) rfl rfl ⟨by have := bz_i hbv; omega, by have := bz_i hbv; omega, by decide, by decide⟩ (fun h98 => ?_) (fun h98 => ?_)
        · skip
          refine tz_aload0 (n := 106) (g_at ck_X11_busiest 62 rfl) rfl (g_ne kd_84) ?_
          refine tz_getAv (n := 109) (a := 112) fk_X11_102 kd_84 (ly_84_54 hL) (g_at ck_X11_busiest 63 rfl) rfl ?_
          refine tz_iload2 (n := 110) (g_at ck_X11_busiest 64 rfl) rfl ?_
          refine tz_iald (n := 111) kd_112 (by have := hbv.2 h98; omega) (g_at ck_X11_busiest 65 rfl) rfl ?_
          have hb3 := hbv.2 h98
          rw [ho2 _ (by omega) (by omega), ← hb3.1]
          refine tz_icmp_le (n := 114) (tgt := 116) (g_at ck_X11_busiest 66 rfl) rfl rfl (by omega) (fun h111 => ?_) (fun h111 => ?_)
          · skip
            refine tz_iinc3 (n := 119) (g_at ck_X11_busiest 69 rfl) rfl (by decide) g_hpI ?_
            refine tz_goto (tgt := 82) (g_at ck_X11_busiest 70 rfl) rfl ?_
            have e9 : bzN (ofN Λ hl tl (sig0 s) n.toNat) (i + 1) = (bzN (ofN Λ hl tl (sig0 s) n.toNat) i) := if_pos (hle h111)
            rw [e9] at ihi
            exact ihi
          · skip
            refine tz_iload3 (n := 115) (g_at ck_X11_busiest 67 rfl) rfl ?_
            refine tz_istore2 (n := 116) (g_at ck_X11_busiest 68 rfl) rfl (by decide) g_hpI ?_
            refine tz_iinc3 (n := 119) (g_at ck_X11_busiest 69 rfl) rfl (by decide) g_hpI ?_
            refine tz_goto (tgt := 82) (g_at ck_X11_busiest 70 rfl) rfl ?_
            have e9 : bzN (ofN Λ hl tl (sig0 s) n.toNat) (i + 1) = ((i : Int), (ofN Λ hl tl (sig0 s) n.toNat (i : Int))) := if_neg (hnl h111)
            rw [e9] at ihi
            exact ihi
        · skip
          refine tz_iconst (n := 102) (g_at ck_X11_busiest 60 rfl) rfl ?_
          have hb2 := hbv.1 h98
          refine tz_goto (tgt := 111) (g_at ck_X11_busiest 61 rfl) rfl ?_
          refine tz_icmp_le (n := 114) (tgt := 116) (g_at ck_X11_busiest 66 rfl) rfl rfl (by omega) (fun h111 => ?_) (fun h111 => ?_)
          · skip
            refine tz_iinc3 (n := 119) (g_at ck_X11_busiest 69 rfl) rfl (by decide) g_hpI ?_
            refine tz_goto (tgt := 82) (g_at ck_X11_busiest 70 rfl) rfl ?_
            have e9 : bzN (ofN Λ hl tl (sig0 s) n.toNat) (i + 1) = (bzN (ofN Λ hl tl (sig0 s) n.toNat) i) := if_pos (hle (by rw [hb2]; exact h111))
            rw [e9] at ihi
            exact ihi
          · skip
            refine tz_iload3 (n := 115) (g_at ck_X11_busiest 67 rfl) rfl ?_
            refine tz_istore2 (n := 116) (g_at ck_X11_busiest 68 rfl) rfl (by decide) g_hpI ?_
            refine tz_iinc3 (n := 119) (g_at ck_X11_busiest 69 rfl) rfl (by decide) g_hpI ?_
            refine tz_goto (tgt := 82) (g_at ck_X11_busiest 70 rfl) rfl ?_
            have e9 : bzN (ofN Λ hl tl (sig0 s) n.toNat) (i + 1) = ((i : Int), (ofN Λ hl tl (sig0 s) n.toNat (i : Int))) := if_neg (hnl (by rw [hb2]; exact h111))
            rw [e9] at ihi
            exact ihi
    · intro m2 hinv
      obtain ⟨hR2, hT2, hk2, e842, ho2⟩ := hinv
      have hσ2 := daysP_WS (hl := hl) (tl := tl) hW hσ (Int.le_refl 0) i
      have hor := ofN_rg hW hl tl (sig0 s) i
      refine tz_iload2 (n := 28) (g_at ck_X11_busiest 16 rfl) rfl ?_
      refine tz_iload1 (n := 29) (g_at ck_X11_busiest 17 rfl) rfl ?_
      refine tz_icmp_ge (n := 32) (tgt := 78) (g_at ck_X11_busiest 18 rfl) rfl rfl (by omega) (fun h29 => absurd h29 (by omega)) (fun h29 => ?_)
      refine tz_aload0 (n := 33) (g_at ck_X11_busiest 19 rfl) rfl (g_ne kd_84) ?_
      refine tz_bipush (n := 35) (g_at ck_X11_busiest 20 rfl) rfl rfl ?_
      refine tz_cvV1 (n := 38) (μ' := μX11_dayGoes) (cb' := 0) (sb' := 0) ml_X11_353 mo_X11_dayGoes mv_X11_dayGoes np_X11_dayGoes kd_84 (g_at ck_X11_busiest 21 rfl) (mp_dayGoes hL hR2 hW (hk2.land hM) hT2 hσ2 (by omega) (Or.inr rfl) (hw_0 (hk2.w51.trans hz))) rfl rfl rfl ⟨by decide, by decide⟩ (Nat.le_of_ble_eq_true rfl) (by decide) (by decide) (fun ρ9 m35 hq => ?_)
      obtain ⟨rfl, hR2, hT35, hD35⟩ := hq
      have hT9 : MT m35 35 Λ z00 (daysP Λ hl tl (sig0 s) (i + 1)) := hT35
      have hσ9 := daysP_WS (hl := hl) (tl := tl) hW hσ (Int.le_refl 0) (i + 1)
      have e112 : m35 112 = m2 112 := hD35.1 112 (by decide)
      have e84b : m35 84 = m 84 := (hD35.1 84 (by decide)).trans e842
      have hkx := hk2.tr (mK.fd hD35)
      refine tz_iconst (n := 39) (g_at ck_X11_busiest 22 rfl) rfl ?_
      refine tz_istore3 (n := 40) (g_at ck_X11_busiest 23 rfl) rfl (by decide) g_hpI ?_
      refine g_for (fun j : Nat => ∀ m3 : Mm, (MR m3 ∧ MT m3 35 Λ z00 (daysP Λ hl tl (sig0 s) (i + 1)) ∧ mK m m3 ∧ m3 84 = m 84 ∧ ∀ c, 0 ≤ c → c < 9 → m3 112 c = (ofP (daysP Λ hl tl (sig0 s) (i + 1)) (ofN Λ hl tl (sig0 s) i) j) c) → gT l γ μX11_busiest 6 0 0 _ _ KK ρ m3 40 [some (vR 84), some (vI n), some (vI (i : Int)), some (vI (j : Int))] []) (Λ 0 1).toNat ?_ (fun j hj ihj => ?_) 0 (Nat.zero_le _) _ ⟨hR2, hT9, hkx, e84b, fun c g1 g2 => by rw [e112]; exact ho2 c g1 g2⟩
      · intro m3 hinv
        obtain ⟨hR3, hT3, hk3, e843, ho3⟩ := hinv
        have hN := hM.2.1
        refine tz_iload3 (n := 41) (g_at ck_X11_busiest 24 rfl) rfl ?_
        refine tz_aload0 (n := 42) (g_at ck_X11_busiest 25 rfl) rfl (g_ne kd_84) ?_
        refine tz_getIw (n := 45) (kz := 2) fk_X11_305 kd_84 (g_at ck_X11_busiest 26 rfl) rfl rfl ?_
        rw [e843, hN]
        refine tz_icmp_ge (n := 48) (tgt := 72) (g_at ck_X11_busiest 27 rfl) rfl rfl (by omega) (fun h45 => ?_) (fun h45 => absurd h45 (by omega))
        refine tz_iinc2 (n := 75) (g_at ck_X11_busiest 43 rfl) rfl (by decide) g_hpI ?_
        refine tz_goto (tgt := 27) (g_at ck_X11_busiest 44 rfl) rfl ?_
        refine tz_drop3 ?_
        exact ihi _ ⟨hR3, hT3, hk3, e843, ho3⟩
      · intro m3 hinv
        obtain ⟨hR3, hT3, hk3, e843, ho3⟩ := hinv
        have hN := hM.2.1
        have hp9 := hσ9.2.1 (j : Int) (by omega) (by omega)
        have hoq := ofP_rg (σ := (daysP Λ hl tl (sig0 s) (i + 1))) hor j ((daysP Λ hl tl (sig0 s) (i + 1)) 0 (1 + (j : Int)))
        refine tz_iload3 (n := 41) (g_at ck_X11_busiest 24 rfl) rfl ?_
        refine tz_aload0 (n := 42) (g_at ck_X11_busiest 25 rfl) rfl (g_ne kd_84) ?_
        refine tz_getIw (n := 45) (kz := 2) fk_X11_305 kd_84 (g_at ck_X11_busiest 26 rfl) rfl rfl ?_
        rw [e843, hN]
        refine tz_icmp_ge (n := 48) (tgt := 72) (g_at ck_X11_busiest 27 rfl) rfl rfl (by omega) (fun h45 => absurd h45 (by omega)) (fun h45 => ?_)
        refine tz_aload0 (n := 49) (g_at ck_X11_busiest 28 rfl) rfl (g_ne kd_84) ?_
        refine tz_getAv (n := 52) (a := 112) fk_X11_102 kd_84 (ly_84_54 hL) (g_at ck_X11_busiest 29 rfl) rfl ?_
        refine tz_aload0 (n := 53) (g_at ck_X11_busiest 30 rfl) rfl (g_ne kd_84) ?_
        refine tz_getAv (n := 56) (a := 103) fk_X11_75 kd_84 (ly_84_43 hL) (g_at ck_X11_busiest 31 rfl) rfl ?_
        refine tz_bipush (n := 58) (g_at ck_X11_busiest 32 rfl) rfl rfl ?_
        refine tz_iload3 (n := 59) (g_at ck_X11_busiest 33 rfl) rfl ?_
        refine tz_iadd (n := 60) (g_at ck_X11_busiest 34 rfl) rfl ?_
        refine tz_iald (n := 61) kd_103 (by omega) (g_at ck_X11_busiest 35 rfl) rfl ?_
        rw [hT3.r (k := 1 + (j : Int)) (by omega) (by omega)]
        refine tz_dup2 (n := 62) (g_at ck_X11_busiest 36 rfl) rfl ?_
        refine tz_iald (n := 63) kd_112 (by omega) (g_at ck_X11_busiest 37 rfl) rfl ?_
        rw [ho3 _ (by omega) (by omega)]
        refine tz_iconst (n := 64) (g_at ck_X11_busiest 38 rfl) rfl ?_
        refine tz_iadd (n := 65) (g_at ck_X11_busiest 39 rfl) rfl ?_
        refine tz_iastr (n := 66) kd_112 (by omega) (g_at ck_X11_busiest 40 rfl) rfl hR3 (by omega) (fun hR3 => ?_)
        refine tz_iinc3 (n := 69) (g_at ck_X11_busiest 41 rfl) rfl (by decide) g_hpI ?_
        refine tz_goto (tgt := 40) (g_at ck_X11_busiest 42 rfl) rfl ?_
        refine ihj _ ⟨hR3, hT3.wrn (by decide), hk3.wr (by decide) (fun h9 => absurd h9 (by decide)) (fun h9 => absurd h9 (by decide)), (wr_ne (by decide)).trans e843, fun c g1 g2 => ?_⟩
        rw [wr_at, ofP_s]
        unfold up
        split
        · rfl
        · exact ho3 c g1 g2
  · intro m1 hinv
    obtain ⟨hR1, hF1, h1⟩ := hinv
    refine tz_iload2 (n := 3) (g_at ck_X11_busiest 2 rfl) rfl ?_
    refine tz_bipush (n := 5) (g_at ck_X11_busiest 3 rfl) rfl rfl ?_
    refine tz_icmp_ge (n := 8) (tgt := 21) (g_at ck_X11_busiest 4 rfl) rfl rfl ⟨(by omega), (by omega), (by decide), (by decide)⟩ (fun h5 => absurd h5 (by omega)) (fun h5 => ?_)
    refine tz_aload0 (n := 9) (g_at ck_X11_busiest 5 rfl) rfl (g_ne kd_84) ?_
    refine tz_getAv (n := 12) (a := 112) fk_X11_102 kd_84 (ly_84_54 hL) (g_at ck_X11_busiest 6 rfl) rfl ?_
    refine tz_iload2 (n := 13) (g_at ck_X11_busiest 7 rfl) rfl ?_
    refine tz_iconst (n := 14) (g_at ck_X11_busiest 8 rfl) rfl ?_
    refine tz_iastr (n := 15) kd_112 (by omega) (g_at ck_X11_busiest 9 rfl) rfl hR1 ⟨(by decide), (by decide)⟩ (fun hR4 => ?_)
    refine tz_iinc2 (n := 18) (g_at ck_X11_busiest 10 rfl) rfl (by decide) g_hpI ?_
    refine tz_goto (tgt := 2) (g_at ck_X11_busiest 11 rfl) rfl ?_
    exact ihi _ ⟨hR4, hF1.wr (by decide), fun c g1 g2 => by rw [wr_at]; split; rfl; exact h1 c g1 (by omega)⟩
theorem home_M {m Λ σ e : Mm} {hl tl : List Int} {b : Int} (hW : WL Λ) (hM : MLand m Λ hl tl) (hT : MT m b Λ e σ) : bitsH (fun p => m 103 (b + 1 + p)) (m 89) (m 84 2).toNat = homB Λ σ := by
  have h8 := hW.2.1
  rw [hM.2.1]
  exact bitsH_congr fun p hp => ⟨by rw [← hT.1 (1 + (p : Int)) (by omega) (by omega), show b + 1 + (p : Int) = b + (1 + (p : Int)) by omega], hM.2.2.2.2.1 p (by omega) (by omega)⟩
/-- the steps forgotten: those of the people at 0, the rest kept as an offset -/
def eSt (m Λ : Mm) : Mm := fun k p => if k = 1 then (if p < Λ 0 1 then 0 else m 107 p) else 0
theorem eSt_0 {m Λ : Mm} {p : Int} (h : p < Λ 0 1) : eSt m Λ 1 p = 0 := by unfold eSt; rw [if_pos rfl, if_pos h]
theorem tkN_up {Λ σ : Mm} {f : Int → Int} {d : Int} (n : Nat) : tkN Λ (upA σ 1 f) d n = tkN Λ σ d n := tkN_s (upA_ne (by decide)) n
theorem MT_st0 {m m9 Λ σ : Mm} (hW : WL Λ) (h : MT m 35 Λ z00 σ) (hF : Fr [107] m m9) (h0 : ∀ p, 0 ≤ p → p < Λ 0 1 → m9 107 p = 0) (h1 : ∀ p, Λ 0 1 ≤ p → m9 107 p = m 107 p) (hr : MR m) : MT m9 35 Λ (eSt m Λ) (upA σ 1 fun _ => 0) := by
  refine ⟨fun k a b => by rw [hF 103 (by decide)]; exact h.1 k a b, fun p a b => ?_, fun j a b => by rw [hF 105 (by decide), upA_ne (by decide)]; exact h.2.2.1 j a b, fun c a b => by rw [hF 106 (by decide), tkN_up]; exact h.2.2.2 c a b⟩
  rw [upA_at]
  show m9 107 p = w32 (0 + if p < Λ 0 1 then 0 else m 107 p)
  split
  · exact h0 p a (by assumption)
  · rw [Int.zero_add, w32_id (hr _ _)]
    exact h1 p (by omega)
theorem WS_s0 {Λ σ : Mm} {b : Int} (h : WS Λ b σ) (hb : 0 ≤ b) : WS Λ b (upA σ 1 fun _ => 0) := WS_stp h hb
theorem mp_stuck {l : Launch} {γ : Gh} {ρ m : Mm} {n : Int} {s : Int → Int} {Λ : Mm} {hl tl : List Int} (hL : LY ρ) (hR : MR m) (hW : WL Λ) (hM : MLand m Λ hl tl) (hs : MRow m s) (hσ : WS Λ 0 (sig0 s)) (hz : m 84 51 = 0) (hn : 0 ≤ n ∧ n ≤ 100) : gE l γ μX11_stuck 6 0 0 (rI KK fun x ρ9 m9 => ρ = ρ9 ∧ MR m9 ∧ mK m m9 ∧ m9 84 = m 84 ∧ stkP Λ hl tl (daysP Λ hl tl (sig0 s) n.toNat) = x) xN KK ρ m [vR 84, vI n] := by
  refine gE.ofw cl_X11.2 ?_ rfl rfl (Nat.le_of_ble_eq_true rfl)
  show gT l γ μX11_stuck 6 0 0 _ _ KK ρ m 0 [some (vR 84), some (vI n), none, none] []
  have hn1 := hW.1
  have hn8 := hW.2.1
  have hN := hM.2.1
  refine tz_aload0 (n := 1) (g_at ck_X11_stuck 0 rfl) rfl (g_ne kd_84) ?_
  refine tz_iload1 (n := 2) (g_at ck_X11_stuck 1 rfl) rfl ?_
  refine tz_cvV1 (n := 5) (μ' := μX11_goesTo) (cb' := 0) (sb' := 0) ml_X11_420 mo_X11_goesTo mv_X11_goesTo np_X11_goesTo kd_84 (g_at ck_X11_stuck 2 rfl) (mp_goesTo hL hR hW hM hs hσ (hw_0 hz) (by omega)) rfl rfl rfl ⟨by decide, by decide⟩ (Nat.le_of_ble_eq_true rfl) (by decide) (by decide) (fun ρ9 m2 hq => ?_)
  obtain ⟨rfl, hR1, hT2, hD2⟩ := hq
  have hTx : MT m2 35 Λ z00 (daysP Λ hl tl (sig0 s) n.toNat) := hT2
  have hσx := daysP_WS (hl := hl) (tl := tl) hW hσ (Int.le_refl 0) n.toNat
  have e84 : m2 84 = m 84 := hD2.1 84 (by decide)
  have hM2 := hM.fr hD2.1 mDay_91
  refine tz_iconst (n := 6) (g_at ck_X11_stuck 3 rfl) rfl ?_
  refine tz_aload0 (n := 7) (g_at ck_X11_stuck 4 rfl) rfl (g_ne kd_84) ?_
  refine tz_getIw (n := 10) (kz := 2) fk_X11_305 kd_84 (g_at ck_X11_stuck 5 rfl) rfl rfl ?_
  rw [e84, hN]
  refine tz_ishl (n := 11) (g_at ck_X11_stuck 6 rfl) rfl ?_
  refine tz_iconst (n := 12) (g_at ck_X11_stuck 7 rfl) rfl ?_
  refine tz_isub (n := 13) (g_at ck_X11_stuck 8 rfl) rfl ?_
  refine tz_aload0 (n := 14) (g_at ck_X11_stuck 9 rfl) rfl (g_ne kd_84) ?_
  refine tz_bipush (n := 16) (g_at ck_X11_stuck 10 rfl) rfl rfl ?_
  refine tz_cvI1 (n := 19) (μ' := μX11_homeOnes) (cb' := 0) (sb' := 0) ml_X11_381 mo_X11_homeOnes mv_X11_homeOnes np_X11_homeOnes kd_84 (g_at ck_X11_stuck 11 rfl) (mp_homeOnes hL hR1 (by rw [e84]; omega) (Or.inr rfl)) rfl rfl rfl ⟨by decide, by decide⟩ (Nat.le_of_ble_eq_true rfl) (by decide) (by decide) (fun x16 ρ9 m16 hq => ?_)
  obtain ⟨rfl, hR2, rfl, rfl⟩ := hq
  rw [home_M (b := 35) hW hM2 hTx]
  refine tz_iconst (n := 20) (g_at ck_X11_stuck 12 rfl) rfl ?_
  refine tz_ixor (n := 21) (g_at ck_X11_stuck 13 rfl) rfl ?_
  refine tz_iand (n := 22) (g_at ck_X11_stuck 14 rfl) rfl ?_
  refine tz_istore2 (n := 23) (g_at ck_X11_stuck 15 rfl) rfl (by decide) g_hpI ?_
  refine tz_iconst (n := 24) (g_at ck_X11_stuck 16 rfl) rfl ?_
  refine tz_istore3 (n := 25) (g_at ck_X11_stuck 17 rfl) rfl (by decide) g_hpI ?_
  refine g_for (fun i : Nat => ∀ m3 : Mm, (MR m3 ∧ Fr [107] m2 m3 ∧ (∀ p, 0 ≤ p → p < (i : Int) → m3 107 p = 0) ∧ ∀ p, (i : Int) ≤ p → m3 107 p = m2 107 p) → gT l γ μX11_stuck 6 0 0 _ _ KK ρ m3 25 [some (vR 84), some (vI n), some (vI (bAnd (bShl 1 (Λ 0 1) - 1) (bXor (homB Λ (daysP Λ hl tl (sig0 s) n.toNat)) (-1)))), some (vI (i : Int))] []) (Λ 0 1).toNat ?_ (fun i hi ihi => ?_) 0 (Nat.zero_le _) _ ⟨hR2, Fr.rf, fun p g1 g2 => absurd g2 (by omega), fun _ _ => rfl⟩
  · intro m3 hinv
    obtain ⟨hR3, hF3, hy0, hy1⟩ := hinv
    have hT3 := MT_st0 hW hTx hF3 (fun p g1 g2 => hy0 p g1 (by omega)) (fun p g1 => hy1 p (by omega)) hR1
    have hk3 : mK m2 m3 := mK.l hF3 (by decide)
    refine tz_iload3 (n := 26) (g_at ck_X11_stuck 18 rfl) rfl ?_
    refine tz_aload0 (n := 27) (g_at ck_X11_stuck 19 rfl) rfl (g_ne kd_84) ?_
    refine tz_getIw (n := 30) (kz := 2) fk_X11_305 kd_84 (g_at ck_X11_stuck 20 rfl) rfl rfl ?_
    rw [hF3 84 (by decide), e84, hN]
    refine tz_icmp_ge (n := 33) (tgt := 46) (g_at ck_X11_stuck 21 rfl) rfl rfl (by omega) (fun h30 => ?_) (fun h30 => absurd h30 (by omega))
    refine tz_aload0 (n := 47) (g_at ck_X11_stuck 29 rfl) rfl (g_ne kd_84) ?_
    refine tz_bipush (n := 49) (g_at ck_X11_stuck 30 rfl) rfl rfl ?_
    refine tz_cvV1 (n := 52) (μ' := μX11_daysGo) (cb' := 0) (sb' := 0) ml_X11_359 mo_X11_daysGo mv_X11_daysGo np_X11_daysGo kd_84 (g_at ck_X11_stuck 31 rfl) (mp_daysGo hL hR3 hW (hM2.fr hF3 (by decide)) hT3 (WS_s0 hσx (by omega)) (by omega) (hw_0 (by rw [hF3 84 (by decide), e84]; exact hz)) (by decide)) rfl rfl rfl ⟨by decide, by decide⟩ (Nat.le_of_ble_eq_true rfl) (by decide) (by decide) (fun ρ9 m49 hq => ?_)
    obtain ⟨rfl, hR3, hT49, hD49⟩ := hq
    have hT9 : MT m49 35 Λ (eSt m2 Λ) (stkT Λ hl tl (daysP Λ hl tl (sig0 s) n.toNat)) := hT49
    have hσ9 : WS Λ _ (stkT Λ hl tl (daysP Λ hl tl (sig0 s) n.toNat)) := daysP_WS (hl := hl) (tl := tl) hW (WS_s0 hσx (by omega)) (by omega) 20
    have e84c : m49 84 = m 84 := (hD49.1 84 (by decide)).trans ((hF3 84 (by decide)).trans e84)
    refine tz_iconst (n := 53) (g_at ck_X11_stuck 32 rfl) rfl ?_
    refine tz_istore3 (n := 54) (g_at ck_X11_stuck 33 rfl) rfl (by decide) g_hpI ?_
    refine g_for (fun i : Nat => gT l γ μX11_stuck 6 0 0 _ _ KK ρ m49 54 [some (vR 84), some (vI n), some (vI (stkN Λ (stkT Λ hl tl (daysP Λ hl tl (sig0 s) n.toNat)) (bAnd (bShl 1 (Λ 0 1) - 1) (bXor (homB Λ (daysP Λ hl tl (sig0 s) n.toNat)) (-1))) i)), some (vI (i : Int))] []) (Λ 0 1).toNat ?_ (fun i hi ihi => ?_) 0 (Nat.zero_le _)
    · skip
      refine tz_iload3 (n := 55) (g_at ck_X11_stuck 34 rfl) rfl ?_
      refine tz_aload0 (n := 56) (g_at ck_X11_stuck 35 rfl) rfl (g_ne kd_84) ?_
      refine tz_getIw (n := 59) (kz := 2) fk_X11_305 kd_84 (g_at ck_X11_stuck 36 rfl) rfl rfl ?_
      rw [e84c, hN]
      refine tz_icmp_ge (n := 62) (tgt := 89) (g_at ck_X11_stuck 37 rfl) rfl rfl (by omega) (fun h59 => ?_) (fun h59 => absurd h59 (by omega))
      refine tz_iload2 (n := 90) (g_at ck_X11_stuck 55 rfl) rfl ?_
      exact tz_iret (g_at ck_X11_stuck 56 rfl) rfl (rI_mk ⟨rfl, hR3, ((mK.fd hD2).tr hk3).tr (mK.fd hD49), e84c, rfl⟩)
    · skip
      have hp9 := hσ9.2.1 (i : Int) (by omega) (by omega)
      have hs9 : m49 107 (i : Int) = stkT Λ hl tl (daysP Λ hl tl (sig0 s) n.toNat) 1 (i : Int) := by rw [hT9.2.1 (i : Int) (by omega) (by omega), eSt_0 (m := m2) (Λ := Λ) (p := (i : Int)) (by omega)]; exact kw32 (by omega)
      refine tz_iload3 (n := 55) (g_at ck_X11_stuck 34 rfl) rfl ?_
      refine tz_aload0 (n := 56) (g_at ck_X11_stuck 35 rfl) rfl (g_ne kd_84) ?_
      refine tz_getIw (n := 59) (kz := 2) fk_X11_305 kd_84 (g_at ck_X11_stuck 36 rfl) rfl rfl ?_
      rw [e84c, hN]
      refine tz_icmp_ge (n := 62) (tgt := 89) (g_at ck_X11_stuck 37 rfl) rfl rfl (by omega) (fun h59 => absurd h59 (by omega)) (fun h59 => ?_)
      refine tz_iload2 (n := 63) (g_at ck_X11_stuck 38 rfl) rfl ?_
      refine tz_aload0 (n := 64) (g_at ck_X11_stuck 39 rfl) rfl (g_ne kd_84) ?_
      refine tz_getAv (n := 67) (a := 107) fk_X11_87 kd_84 (ly_84_48 hL) (g_at ck_X11_stuck 40 rfl) rfl ?_
      refine tz_iload3 (n := 68) (g_at ck_X11_stuck 41 rfl) rfl ?_
      refine tz_iald (n := 69) kd_107 (by omega) (g_at ck_X11_stuck 42 rfl) rfl ?_
      rw [hs9]
      refine tz_if_le (n := 72) (tgt := 80) (g_at ck_X11_stuck 43 rfl) rfl rfl (by omega) (fun h69 => ?_) (fun h69 => ?_)
      · skip
        refine tz_iconst (n := 81) (g_at ck_X11_stuck 50 rfl) rfl ?_
        refine tz_iand (n := 82) (g_at ck_X11_stuck 51 rfl) rfl ?_
        refine tz_istore2 (n := 83) (g_at ck_X11_stuck 52 rfl) rfl (by decide) g_hpI ?_
        refine tz_iinc3 (n := 86) (g_at ck_X11_stuck 53 rfl) rfl (by decide) g_hpI ?_
        refine tz_goto (tgt := 54) (g_at ck_X11_stuck 54 rfl) rfl ?_
        have e9 : stkN Λ (stkT Λ hl tl (daysP Λ hl tl (sig0 s) n.toNat)) (bAnd (bShl 1 (Λ 0 1) - 1) (bXor (homB Λ (daysP Λ hl tl (sig0 s) n.toNat)) (-1))) (i + 1) = (stkN Λ (stkT Λ hl tl (daysP Λ hl tl (sig0 s) n.toNat)) (bAnd (bShl 1 (Λ 0 1) - 1) (bXor (homB Λ (daysP Λ hl tl (sig0 s) n.toNat)) (-1))) i) := if_pos h69
        rw [bAnd_m1 (stkN_r (bAnd_rg _ _) _)]
        rw [e9] at ihi
        exact ihi
      · skip
        refine tz_iconst (n := 73) (g_at ck_X11_stuck 44 rfl) rfl ?_
        refine tz_iload3 (n := 74) (g_at ck_X11_stuck 45 rfl) rfl ?_
        refine tz_ishl (n := 75) (g_at ck_X11_stuck 46 rfl) rfl ?_
        refine tz_iconst (n := 76) (g_at ck_X11_stuck 47 rfl) rfl ?_
        refine tz_ixor (n := 77) (g_at ck_X11_stuck 48 rfl) rfl ?_
        refine tz_goto (tgt := 81) (g_at ck_X11_stuck 49 rfl) rfl ?_
        refine tz_iand (n := 82) (g_at ck_X11_stuck 51 rfl) rfl ?_
        refine tz_istore2 (n := 83) (g_at ck_X11_stuck 52 rfl) rfl (by decide) g_hpI ?_
        refine tz_iinc3 (n := 86) (g_at ck_X11_stuck 53 rfl) rfl (by decide) g_hpI ?_
        refine tz_goto (tgt := 54) (g_at ck_X11_stuck 54 rfl) rfl ?_
        have e9 : stkN Λ (stkT Λ hl tl (daysP Λ hl tl (sig0 s) n.toNat)) (bAnd (bShl 1 (Λ 0 1) - 1) (bXor (homB Λ (daysP Λ hl tl (sig0 s) n.toNat)) (-1))) (i + 1) = bAnd (stkN Λ (stkT Λ hl tl (daysP Λ hl tl (sig0 s) n.toNat)) (bAnd (bShl 1 (Λ 0 1) - 1) (bXor (homB Λ (daysP Λ hl tl (sig0 s) n.toNat)) (-1))) i) (bXor (bShl 1 (i : Int)) (-1)) := if_neg h69
        rw [e9] at ihi
        exact ihi
  · intro m3 hinv
    obtain ⟨hR3, hF3, hy0, hy1⟩ := hinv
    refine tz_iload3 (n := 26) (g_at ck_X11_stuck 18 rfl) rfl ?_
    refine tz_aload0 (n := 27) (g_at ck_X11_stuck 19 rfl) rfl (g_ne kd_84) ?_
    refine tz_getIw (n := 30) (kz := 2) fk_X11_305 kd_84 (g_at ck_X11_stuck 20 rfl) rfl rfl ?_
    rw [hF3 84 (by decide), e84, hN]
    refine tz_icmp_ge (n := 33) (tgt := 46) (g_at ck_X11_stuck 21 rfl) rfl rfl (by omega) (fun h30 => absurd h30 (by omega)) (fun h30 => ?_)
    refine tz_aload0 (n := 34) (g_at ck_X11_stuck 22 rfl) rfl (g_ne kd_84) ?_
    refine tz_getAv (n := 37) (a := 107) fk_X11_87 kd_84 (ly_84_48 hL) (g_at ck_X11_stuck 23 rfl) rfl ?_
    refine tz_iload3 (n := 38) (g_at ck_X11_stuck 24 rfl) rfl ?_
    refine tz_iconst (n := 39) (g_at ck_X11_stuck 25 rfl) rfl ?_
    refine tz_iastr (n := 40) kd_107 (by omega) (g_at ck_X11_stuck 26 rfl) rfl hR3 ⟨(by decide), (by decide)⟩ (fun hR4 => ?_)
    refine tz_iinc3 (n := 43) (g_at ck_X11_stuck 27 rfl) rfl (by decide) g_hpI ?_
    refine tz_goto (tgt := 25) (g_at ck_X11_stuck 28 rfl) rfl ?_
    refine ihi _ ⟨hR4, hF3.wr (by decide), fun p g1 g2 => ?_, fun p g1 => ?_⟩
    · rw [wr_at]; split; rfl; exact hy0 p g1 (by omega)
    · rw [wr_at, if_neg (by omega)]; exact hy1 p (by omega)
theorem porN_v {Λ σ : Mm} {b : Int} (h : WS Λ b σ) : ∀ n : Nat, (n : Int) ≤ Λ 0 1 → ((porN σ n).1 = -1 → n = 0 ∧ (porN σ n).2 = 100) ∧ ((porN σ n).1 ≠ -1 → (porN σ n).2 = σ 0 (9 + (porN σ n).1) ∧ 0 ≤ (porN σ n).1 ∧ (porN σ n).1 < n)
  | 0, _ => ⟨fun _ => ⟨rfl, rfl⟩, fun h => absurd rfl h⟩
  | n + 1, hn => by
    have ih := porN_v h n (by omega)
    have hp := h.2.1 (n : Int) (by omega) (by omega)
    have e : porN σ (n + 1) = if (porN σ n).2 ≤ σ 0 (9 + (n : Int)) then porN σ n else ((n : Int), σ 0 (9 + (n : Int))) := rfl
    rw [e]
    by_cases h9 : (porN σ n).2 ≤ σ 0 (9 + (n : Int))
    · rw [if_pos h9]
      refine ⟨fun k => absurd (ih.1 k).2 (by omega), fun k => ⟨(ih.2 k).1, (ih.2 k).2.1, by have := (ih.2 k).2.2; omega⟩⟩
    · rw [if_neg h9]
      exact ⟨fun k => absurd (show (n : Int) = -1 from k) (by omega), fun _ => ⟨rfl, Int.natCast_nonneg n, by show (n : Int) < ((n + 1 : Nat) : Int); omega⟩⟩
theorem mp_later {l : Launch} {γ : Gh} {ρ m : Mm} {n w : Int} (hn : -2147483648 ≤ n ∧ n < 2147483648) (hw : -2147483648 ≤ w ∧ w < 2147483648) {s : Int → Int} {Λ : Mm} {hl tl : List Int} (hL : LY ρ) (hR : MR m) (hW : WL Λ) (hM : MLand m Λ hl tl) (hs : MRow m s) (hσ : WS Λ 0 (sig0 s)) (hz : m 84 51 = 0) : gE l γ μX11_later 7 0 0 (rI KK fun x ρ9 m9 => ρ = ρ9 ∧ MR m9 ∧ mK m m9 ∧ m9 84 0 = sq (cdW w 3) (cdD n (if w = 2 then 1 else 0) (if w = 3 then 60 else 100)) ∧ (sq (cdW w 3) (cdD n (if w = 2 then 1 else 0) (if w = 3 then 60 else 100)) = 0 → (if w = 0 then homB Λ (daysP Λ hl tl (sig0 s) n.toNat) else if w = 1 then (porN (daysP Λ hl tl (sig0 s) n.toNat) (Λ 0 1).toNat).1 else if w = 2 then (bzN (ofN Λ hl tl (sig0 s) n.toNat) (Λ 0 0).toNat).1 else stkP Λ hl tl (daysP Λ hl tl (sig0 s) n.toNat)) = x)) xN KK ρ m [vR 84, vI n, vI w] := by
  refine gE.ofw cl_X11.2 ?_ rfl rfl (Nat.le_of_ble_eq_true rfl)
  show gT l γ μX11_later 7 0 0 _ _ KK ρ m 0 [some (vR 84), some (vI n), some (vI w), none, none] []
  have hn1 := hW.1
  have hn8 := hW.2.1
  refine tz_aload0 (n := 1) (g_at ck_X11_later 0 rfl) rfl (g_ne kd_84) ?_
  refine tz_iconst (n := 2) (g_at ck_X11_later 1 rfl) rfl ?_
  refine tz_putIr (n := 5) (kz := 0) fk_X11_132 kd_84 (g_at ck_X11_later 2 rfl) rfl hR ⟨(by decide), (by decide)⟩ rfl (fun hR1 => ?_)
  obtain ⟨m0, e0⟩ : ∃ m0, m0 = wr m 84 0 0 := ⟨_, rfl⟩
  rw [← e0] at hR1 ⊢
  have hk0 : mK m m0 := by rw [e0]; exact mK.w0
  have hM0 := hk0.land hM
  have hs0 := hk0.row hs
  have hz0 : m0 84 51 = 0 := hk0.w51.trans hz
  have h00 : m0 84 0 = 0 := by rw [e0, wr_same]
  have hw0 := hw_0 hz0
  refine tz_aload0 (n := 6) (g_at ck_X11_later 3 rfl) rfl (g_ne kd_84) ?_
  refine tz_iload2 (n := 7) (g_at ck_X11_later 4 rfl) rfl ?_
  refine tz_iconst (n := 8) (g_at ck_X11_later 5 rfl) rfl ?_
  refine tz_cvI2 (n := 11) (μ' := μX11_isWhat) (cb' := 0) (sb' := 0) ml_X11_396 mo_X11_isWhat mv_X11_isWhat np_X11_isWhat kd_84 (g_at ck_X11_later 6 rfl) (mp_isWhat hw (by decide) hL hR1 h00) rfl rfl rfl ⟨by decide, by decide⟩ (Nat.le_of_ble_eq_true rfl) (by decide) (by decide) (fun x8 ρ9 m8 hq => ?_)
  obtain ⟨rfl, hR2, hq8⟩ := hq
  refine tz_if_eq (n := 14) (tgt := 48) (g_at ck_X11_later 7 rfl) rfl rfl (by rcases hq8.b01 with h9 | h9 <;> omega) (fun h11 => ?_) (fun h11 => ?_)
  · skip
    refine tz_iconst (n := 49) (g_at ck_X11_later 26 rfl) rfl ?_
    exact tz_iret (g_at ck_X11_later 27 rfl) rfl (rI_mk ⟨rfl, hR2, by rw [(hq8.no h11).2]; exact hk0.tr mK.w0, by rw [(hq8.no h11).2, wr_same, sqn (hq8.no h11).1], fun h9 => absurd h9 (by rw [sqn (hq8.no h11).1]; exact (hq8.no h11).1)⟩)
  · skip
    obtain ⟨hc0, rfl⟩ := hq8.ok h11
    have hi0 := cdW_i hc0
    refine tz_aload0 (n := 15) (g_at ck_X11_later 8 rfl) rfl (g_ne kd_84) ?_
    refine tz_iload1 (n := 16) (g_at ck_X11_later 9 rfl) rfl ?_
    refine tz_iload2 (n := 17) (g_at ck_X11_later 10 rfl) rfl ?_
    refine tz_iconst (n := 18) (g_at ck_X11_later 11 rfl) rfl ?_
    refine tz_icmp_ne (n := 21) (tgt := 25) (g_at ck_X11_later 12 rfl) rfl rfl ⟨hw.1, hw.2, by decide, by decide⟩ (fun h18 => ?_) (fun h18 => ?_)
    · skip
      refine tz_iconst (n := 26) (g_at ck_X11_later 15 rfl) rfl ?_
      refine tz_iload2 (n := 27) (g_at ck_X11_later 16 rfl) rfl ?_
      refine tz_iconst (n := 28) (g_at ck_X11_later 17 rfl) rfl ?_
      refine tz_icmp_ne (n := 31) (tgt := 36) (g_at ck_X11_later 18 rfl) rfl rfl ⟨hw.1, hw.2, by decide, by decide⟩ (fun h28 => ?_) (fun h28 => ?_)
      · skip
        refine tz_bipush (n := 38) (g_at ck_X11_later 21 rfl) rfl rfl ?_
        have h01 := wiF_01 n 0 100
        refine tz_csI3 (n := 41) (μ' := μX11_within) (cb' := 0) (sb' := 0) ml_X11_374 mo_X11_within ms_X11_within np_X11_within (g_at ck_X11_later 22 rfl) (mp_within hR2 hn (by decide) (by decide)) rfl rfl ⟨by decide, by decide⟩ (Nat.le_of_ble_eq_true rfl) (by decide) (by decide) (fun x38 ρ9 m38 hq => ?_)
        obtain ⟨rfl, hR3, rfl, rfl⟩ := hq
        refine tz_iconst (n := 42) (g_at ck_X11_later 23 rfl) rfl ?_
        refine tz_cvI2 (n := 45) (μ' := μX11_right) (cb' := 0) (sb' := 0) ml_X11_295 mo_X11_right mv_X11_right np_X11_right kd_84 (g_at ck_X11_later 24 rfl) (mp_right hR3 h00 h01 (by decide)) rfl rfl rfl ⟨by decide, by decide⟩ (Nat.le_of_ble_eq_true rfl) (by decide) (by decide) (fun x42 ρ9 m42 hq => ?_)
        obtain ⟨rfl, hR4, rfl, rfl⟩ := hq
        refine tz_if_ne (n := 48) (tgt := 50) (g_at ck_X11_later 25 rfl) rfl rfl (by omega) (fun h45 => ?_) (fun h45 => ?_)
        · skip
          have hc1 : cdD n 0 100 = 0 := wi_cd h45
          have hi1 := cdD_i hc1
          rw [wi_m h45]
          rw [wi_m h45] at hR4
          refine tz_iload2 (n := 51) (g_at ck_X11_later 28 rfl) rfl ?_
          refine tz_iconst (n := 52) (g_at ck_X11_later 29 rfl) rfl ?_
          refine tz_icmp_ne (n := 55) (tgt := 61) (g_at ck_X11_later 30 rfl) rfl rfl ⟨hw.1, hw.2, by decide, by decide⟩ (fun h52 => ?_) (fun h52 => ?_)
          · skip
            refine tz_iload2 (n := 62) (g_at ck_X11_later 35 rfl) rfl ?_
            refine tz_iconst (n := 63) (g_at ck_X11_later 36 rfl) rfl ?_
            refine tz_icmp_ne (n := 66) (tgt := 72) (g_at ck_X11_later 37 rfl) rfl rfl ⟨hw.1, hw.2, by decide, by decide⟩ (fun h63 => ?_) (fun h63 => ?_)
            · skip
              refine tz_aload0 (n := 73) (g_at ck_X11_later 42 rfl) rfl (g_ne kd_84) ?_
              refine tz_iload1 (n := 74) (g_at ck_X11_later 43 rfl) rfl ?_
              refine tz_cvV1 (n := 77) (μ' := μX11_goesTo) (cb' := 0) (sb' := 0) ml_X11_420 mo_X11_goesTo mv_X11_goesTo np_X11_goesTo kd_84 (g_at ck_X11_later 44 rfl) (mp_goesTo hL hR4 hW hM0 hs0 hσ hw0 (by omega)) rfl rfl rfl ⟨by decide, by decide⟩ (Nat.le_of_ble_eq_true rfl) (by decide) (by decide) (fun ρ9 m74 hq => ?_)
              obtain ⟨rfl, hR5, hT74, hD74⟩ := hq
              have hTx : MT m74 35 Λ z00 (daysP Λ hl tl (sig0 s) n.toNat) := hT74
              have hσx := daysP_WS (hl := hl) (tl := tl) hW hσ (Int.le_refl 0) n.toNat
              have e84 : m74 84 = m0 84 := hD74.1 84 (by decide)
              have hN : m0 84 2 = Λ 0 1 := hM0.2.1
              have hM7 := hM0.fr hD74.1 mDay_91
              refine tz_iconst (n := 78) (g_at ck_X11_later 45 rfl) rfl ?_
              refine tz_istore3 (n := 79) (g_at ck_X11_later 46 rfl) rfl (by decide) g_hpI ?_
              refine tz_iconst (n := 80) (g_at ck_X11_later 47 rfl) rfl ?_
              refine tz_istore4 (n := 82) (g_at ck_X11_later 48 rfl) rfl (by decide) g_hpI ?_
              refine g_for (fun i : Nat => gT l γ μX11_later 7 0 0 _ _ KK ρ m74 82 [some (vR 84), some (vI n), some (vI w), some (vI (porN (daysP Λ hl tl (sig0 s) n.toNat) i).1), some (vI (i : Int))] []) (Λ 0 1).toNat ?_ (fun i hi ihi => ?_) 0 (Nat.zero_le _)
              · skip
                refine tz_iload4 (n := 84) (g_at ck_X11_later 49 rfl) rfl ?_
                refine tz_aload0 (n := 85) (g_at ck_X11_later 50 rfl) rfl (g_ne kd_84) ?_
                refine tz_getIw (n := 88) (kz := 2) fk_X11_305 kd_84 (g_at ck_X11_later 51 rfl) rfl rfl ?_
                rw [e84, hN]
                refine tz_icmp_ge (n := 91) (tgt := 127) (g_at ck_X11_later 52 rfl) rfl rfl (by omega) (fun h88 => ?_) (fun h88 => absurd h88 (by omega))
                refine tz_iload2 (n := 128) (g_at ck_X11_later 73 rfl) rfl ?_
                refine tz_if_ne (n := 131) (tgt := 140) (g_at ck_X11_later 74 rfl) rfl rfl hw (fun h128 => ?_) (fun h128 => ?_)
                · skip
                  refine tz_iload3 (n := 141) (g_at ck_X11_later 79 rfl) rfl ?_
                  exact tz_iret (g_at ck_X11_later 80 rfl) rfl (rI_mk ⟨rfl, hR5, hk0.tr (mK.fd hD74), by rw [e84, h00, hc0, (show cdD n (if w = 2 then 1 else 0) (if w = 3 then 60 else 100) = cdD n 0 100 by rw [if_neg h18, if_neg h28]), hc1]; rfl, fun _ => by rw [if_neg h128, if_pos (by omega)]⟩)
                · skip
                  refine tz_aload0 (n := 132) (g_at ck_X11_later 75 rfl) rfl (g_ne kd_84) ?_
                  refine tz_bipush (n := 134) (g_at ck_X11_later 76 rfl) rfl rfl ?_
                  refine tz_cvI1 (n := 137) (μ' := μX11_homeOnes) (cb' := 0) (sb' := 0) ml_X11_381 mo_X11_homeOnes mv_X11_homeOnes np_X11_homeOnes kd_84 (g_at ck_X11_later 77 rfl) (mp_homeOnes hL hR5 (by rw [e84, hN]; omega) (Or.inr rfl)) rfl rfl rfl ⟨by decide, by decide⟩ (Nat.le_of_ble_eq_true rfl) (by decide) (by decide) (fun x134 ρ9 m134 hq => ?_)
                  obtain ⟨rfl, hR6, rfl, rfl⟩ := hq
                  rw [home_M (b := 35) hW hM7 hTx]
                  refine tz_goto (tgt := 141) (g_at ck_X11_later 78 rfl) rfl ?_
                  exact tz_iret (g_at ck_X11_later 80 rfl) rfl (rI_mk ⟨rfl, hR6, hk0.tr (mK.fd hD74), by rw [e84, h00, hc0, (show cdD n (if w = 2 then 1 else 0) (if w = 3 then 60 else 100) = cdD n 0 100 by rw [if_neg h18, if_neg h28]), hc1]; rfl, fun _ => by rw [if_pos h128]⟩)
              · skip
                have hpv := porN_v hσx i (by omega)
                have hpr := porN_rg hσx i (by omega)
                have hp9 := hσx.2.1 (i : Int) (by omega) (by omega)
                have hpl : (porN (daysP Λ hl tl (sig0 s) n.toNat) i).2 ≤ (daysP Λ hl tl (sig0 s) n.toNat) 0 (9 + (i : Int)) → (porN (daysP Λ hl tl (sig0 s) n.toNat) i).2 ≤ (daysP Λ hl tl (sig0 s) n.toNat) 0 (9 + (i : Int)) := id
                have hpn : ¬ (porN (daysP Λ hl tl (sig0 s) n.toNat) i).2 ≤ (daysP Λ hl tl (sig0 s) n.toNat) 0 (9 + (i : Int)) → ¬ (porN (daysP Λ hl tl (sig0 s) n.toNat) i).2 ≤ (daysP Λ hl tl (sig0 s) n.toNat) 0 (9 + (i : Int)) := id
                refine tz_iload4 (n := 84) (g_at ck_X11_later 49 rfl) rfl ?_
                refine tz_aload0 (n := 85) (g_at ck_X11_later 50 rfl) rfl (g_ne kd_84) ?_
                refine tz_getIw (n := 88) (kz := 2) fk_X11_305 kd_84 (g_at ck_X11_later 51 rfl) rfl rfl ?_
                rw [e84, hN]
                refine tz_icmp_ge (n := 91) (tgt := 127) (g_at ck_X11_later 52 rfl) rfl rfl (by omega) (fun h88 => absurd h88 (by omega)) (fun h88 => ?_)
                refine tz_iload3 (n := 92) (g_at ck_X11_later 53 rfl) rfl ?_
                refine tz_iconst (n := 93) (g_at ck_X11_later 54 rfl) rfl ?_
                refine tz_icmp_eq (n := 96) (tgt := 118) (g_at ck_X11_later 55 rfl) rfl rfl ⟨by have := po_i hpv; omega, by have := po_i hpv; omega, by decide, by decide⟩ (fun h93 => ?_) (fun h93 => ?_)
                · skip
                  refine tz_iload4 (n := 120) (g_at ck_X11_later 69 rfl) rfl ?_
                  refine tz_istore3 (n := 121) (g_at ck_X11_later 70 rfl) rfl (by decide) g_hpI ?_
                  refine tz_iinc4 (n := 124) (g_at ck_X11_later 71 rfl) rfl (by decide) g_hpI ?_
                  refine tz_goto (tgt := 82) (g_at ck_X11_later 72 rfl) rfl ?_
                  have e9 : porN (daysP Λ hl tl (sig0 s) n.toNat) (i + 1) = ((i : Int), (daysP Λ hl tl (sig0 s) n.toNat) 0 (9 + (i : Int))) := if_neg (hpn (by rw [(hpv.1 h93).2]; omega))
                  rw [e9] at ihi
                  exact ihi
                · skip
                  refine tz_aload0 (n := 97) (g_at ck_X11_later 56 rfl) rfl (g_ne kd_84) ?_
                  refine tz_getAv (n := 100) (a := 103) fk_X11_75 kd_84 (ly_84_43 hL) (g_at ck_X11_later 57 rfl) rfl ?_
                  refine tz_bipush (n := 102) (g_at ck_X11_later 58 rfl) rfl rfl ?_
                  refine tz_iload4 (n := 104) (g_at ck_X11_later 59 rfl) rfl ?_
                  refine tz_iadd (n := 105) (g_at ck_X11_later 60 rfl) rfl ?_
                  refine tz_iald (n := 106) kd_103 (by omega) (g_at ck_X11_later 61 rfl) rfl ?_
                  rw [hTx.r (k := 9 + (i : Int)) (by omega) (by omega)]
                  refine tz_aload0 (n := 107) (g_at ck_X11_later 62 rfl) rfl (g_ne kd_84) ?_
                  refine tz_getAv (n := 110) (a := 103) fk_X11_75 kd_84 (ly_84_43 hL) (g_at ck_X11_later 63 rfl) rfl ?_
                  refine tz_bipush (n := 112) (g_at ck_X11_later 64 rfl) rfl rfl ?_
                  refine tz_iload3 (n := 113) (g_at ck_X11_later 65 rfl) rfl ?_
                  refine tz_iadd (n := 114) (g_at ck_X11_later 66 rfl) rfl ?_
                  refine tz_iald (n := 115) kd_103 (by have := hpv.2 h93; omega) (g_at ck_X11_later 67 rfl) rfl ?_
                  have hpv3 := hpv.2 h93
                  rw [hTx.r (x := 44 + (porN (daysP Λ hl tl (sig0 s) n.toNat) i).1) (k := 9 + (porN (daysP Λ hl tl (sig0 s) n.toNat) i).1) (by omega) (by omega)]
                  refine tz_icmp_ge (n := 118) (tgt := 121) (g_at ck_X11_later 68 rfl) rfl rfl (by have h9 := hpr; rw [hpv3.1] at h9; omega) (fun h115 => ?_) (fun h115 => ?_)
                  · skip
                    refine tz_iinc4 (n := 124) (g_at ck_X11_later 71 rfl) rfl (by decide) g_hpI ?_
                    refine tz_goto (tgt := 82) (g_at ck_X11_later 72 rfl) rfl ?_
                    have e9 : porN (daysP Λ hl tl (sig0 s) n.toNat) (i + 1) = (porN (daysP Λ hl tl (sig0 s) n.toNat) i) := if_pos (hpl (by rw [hpv3.1]; exact h115))
                    rw [e9] at ihi
                    exact ihi
                  · skip
                    refine tz_iload4 (n := 120) (g_at ck_X11_later 69 rfl) rfl ?_
                    refine tz_istore3 (n := 121) (g_at ck_X11_later 70 rfl) rfl (by decide) g_hpI ?_
                    refine tz_iinc4 (n := 124) (g_at ck_X11_later 71 rfl) rfl (by decide) g_hpI ?_
                    refine tz_goto (tgt := 82) (g_at ck_X11_later 72 rfl) rfl ?_
                    have e9 : porN (daysP Λ hl tl (sig0 s) n.toNat) (i + 1) = ((i : Int), (daysP Λ hl tl (sig0 s) n.toNat) 0 (9 + (i : Int))) := if_neg (hpn (by rw [hpv3.1]; exact h115))
                    rw [e9] at ihi
                    exact ihi
            · skip
              refine tz_aload0 (n := 67) (g_at ck_X11_later 38 rfl) rfl (g_ne kd_84) ?_
              refine tz_iload1 (n := 68) (g_at ck_X11_later 39 rfl) rfl ?_
              refine tz_cvI1 (n := 71) (μ' := μX11_stuck) (cb' := 0) (sb' := 0) ml_X11_429 mo_X11_stuck mv_X11_stuck np_X11_stuck kd_84 (g_at ck_X11_later 40 rfl) (mp_stuck hL hR4 hW hM0 hs0 hσ hz0 (by omega)) rfl rfl rfl ⟨by decide, by decide⟩ (Nat.le_of_ble_eq_true rfl) (by decide) (by decide) (fun x68 ρ9 m68 hq => ?_)
              obtain ⟨rfl, hR7, hk68, he68, hx68⟩ := hq
              exact tz_iret (g_at ck_X11_later 41 rfl) rfl (rI_mk ⟨rfl, hR7, hk0.tr (hk68), by rw [he68, h00, hc0, (show cdD n (if w = 2 then 1 else 0) (if w = 3 then 60 else 100) = cdD n 0 100 by rw [if_neg h18, if_neg h28]), hc1]; rfl, fun _ => by rw [if_neg (by omega), if_neg (by omega), if_neg h52]; exact hx68⟩)
          · skip
            refine tz_aload0 (n := 56) (g_at ck_X11_later 31 rfl) rfl (g_ne kd_84) ?_
            refine tz_iload1 (n := 57) (g_at ck_X11_later 32 rfl) rfl ?_
            refine tz_cvI1 (n := 60) (μ' := μX11_busiest) (cb' := 0) (sb' := 0) ml_X11_426 mo_X11_busiest mv_X11_busiest np_X11_busiest kd_84 (g_at ck_X11_later 33 rfl) (mp_busiest hL hR4 hW hM0 hs0 hσ hz0 (by omega)) rfl rfl rfl ⟨by decide, by decide⟩ (Nat.le_of_ble_eq_true rfl) (by decide) (by decide) (fun x57 ρ9 m57 hq => ?_)
            obtain ⟨rfl, hR8, hk57, he57, hx57⟩ := hq
            exact tz_iret (g_at ck_X11_later 34 rfl) rfl (rI_mk ⟨rfl, hR8, hk0.tr (hk57), by rw [he57, h00, hc0, (show cdD n (if w = 2 then 1 else 0) (if w = 3 then 60 else 100) = cdD n 0 100 by rw [if_neg h18, if_neg h28]), hc1]; rfl, fun _ => by rw [if_neg (by omega), if_neg (by omega), if_pos h52]; exact hx57⟩)
        · skip
          refine tz_iconst (n := 49) (g_at ck_X11_later 26 rfl) rfl ?_
          exact tz_iret (g_at ck_X11_later 27 rfl) rfl (rI_mk ⟨rfl, hR4, by rw [wi_n h45]; exact hk0.tr mK.w0, by rw [wi_n h45, wr_same, hc0, sq0, (show cdD n (if w = 2 then 1 else 0) (if w = 3 then 60 else 100) = cdD n 0 100 by rw [if_neg h18, if_neg h28]), wi_cn h45], fun h9 => absurd h9 (by rw [hc0, sq0, (show cdD n (if w = 2 then 1 else 0) (if w = 3 then 60 else 100) = cdD n 0 100 by rw [if_neg h18, if_neg h28]), wi_cn h45]; decide)⟩)
      · skip
        refine tz_bipush (n := 33) (g_at ck_X11_later 19 rfl) rfl rfl ?_
        refine tz_goto (tgt := 38) (g_at ck_X11_later 20 rfl) rfl ?_
        have h01 := wiF_01 n 0 60
        refine tz_csI3 (n := 41) (μ' := μX11_within) (cb' := 0) (sb' := 0) ml_X11_374 mo_X11_within ms_X11_within np_X11_within (g_at ck_X11_later 22 rfl) (mp_within hR2 hn (by decide) (by decide)) rfl rfl ⟨by decide, by decide⟩ (Nat.le_of_ble_eq_true rfl) (by decide) (by decide) (fun x38 ρ9 m38 hq => ?_)
        obtain ⟨rfl, hR9, rfl, rfl⟩ := hq
        refine tz_iconst (n := 42) (g_at ck_X11_later 23 rfl) rfl ?_
        refine tz_cvI2 (n := 45) (μ' := μX11_right) (cb' := 0) (sb' := 0) ml_X11_295 mo_X11_right mv_X11_right np_X11_right kd_84 (g_at ck_X11_later 24 rfl) (mp_right hR9 h00 h01 (by decide)) rfl rfl rfl ⟨by decide, by decide⟩ (Nat.le_of_ble_eq_true rfl) (by decide) (by decide) (fun x42 ρ9 m42 hq => ?_)
        obtain ⟨rfl, hR10, rfl, rfl⟩ := hq
        refine tz_if_ne (n := 48) (tgt := 50) (g_at ck_X11_later 25 rfl) rfl rfl (by omega) (fun h45 => ?_) (fun h45 => ?_)
        · skip
          have hc1 : cdD n 0 60 = 0 := wi_cd h45
          have hi1 := cdD_i hc1
          rw [wi_m h45]
          rw [wi_m h45] at hR10
          refine tz_iload2 (n := 51) (g_at ck_X11_later 28 rfl) rfl ?_
          refine tz_iconst (n := 52) (g_at ck_X11_later 29 rfl) rfl ?_
          refine tz_icmp_ne (n := 55) (tgt := 61) (g_at ck_X11_later 30 rfl) rfl rfl ⟨hw.1, hw.2, by decide, by decide⟩ (fun h52 => ?_) (fun h52 => ?_)
          · skip
            refine tz_iload2 (n := 62) (g_at ck_X11_later 35 rfl) rfl ?_
            refine tz_iconst (n := 63) (g_at ck_X11_later 36 rfl) rfl ?_
            refine tz_icmp_ne (n := 66) (tgt := 72) (g_at ck_X11_later 37 rfl) rfl rfl ⟨hw.1, hw.2, by decide, by decide⟩ (fun h63 => ?_) (fun h63 => ?_)
            · skip
              refine tz_aload0 (n := 73) (g_at ck_X11_later 42 rfl) rfl (g_ne kd_84) ?_
              refine tz_iload1 (n := 74) (g_at ck_X11_later 43 rfl) rfl ?_
              refine tz_cvV1 (n := 77) (μ' := μX11_goesTo) (cb' := 0) (sb' := 0) ml_X11_420 mo_X11_goesTo mv_X11_goesTo np_X11_goesTo kd_84 (g_at ck_X11_later 44 rfl) (mp_goesTo hL hR10 hW hM0 hs0 hσ hw0 (by omega)) rfl rfl rfl ⟨by decide, by decide⟩ (Nat.le_of_ble_eq_true rfl) (by decide) (by decide) (fun ρ9 m74 hq => ?_)
              obtain ⟨rfl, hR11, hT74, hD74⟩ := hq
              have hTx : MT m74 35 Λ z00 (daysP Λ hl tl (sig0 s) n.toNat) := hT74
              have hσx := daysP_WS (hl := hl) (tl := tl) hW hσ (Int.le_refl 0) n.toNat
              have e84 : m74 84 = m0 84 := hD74.1 84 (by decide)
              have hN : m0 84 2 = Λ 0 1 := hM0.2.1
              have hM7 := hM0.fr hD74.1 mDay_91
              refine tz_iconst (n := 78) (g_at ck_X11_later 45 rfl) rfl ?_
              refine tz_istore3 (n := 79) (g_at ck_X11_later 46 rfl) rfl (by decide) g_hpI ?_
              refine tz_iconst (n := 80) (g_at ck_X11_later 47 rfl) rfl ?_
              refine tz_istore4 (n := 82) (g_at ck_X11_later 48 rfl) rfl (by decide) g_hpI ?_
              refine g_for (fun i : Nat => gT l γ μX11_later 7 0 0 _ _ KK ρ m74 82 [some (vR 84), some (vI n), some (vI w), some (vI (porN (daysP Λ hl tl (sig0 s) n.toNat) i).1), some (vI (i : Int))] []) (Λ 0 1).toNat ?_ (fun i hi ihi => ?_) 0 (Nat.zero_le _)
              · skip
                refine tz_iload4 (n := 84) (g_at ck_X11_later 49 rfl) rfl ?_
                refine tz_aload0 (n := 85) (g_at ck_X11_later 50 rfl) rfl (g_ne kd_84) ?_
                refine tz_getIw (n := 88) (kz := 2) fk_X11_305 kd_84 (g_at ck_X11_later 51 rfl) rfl rfl ?_
                rw [e84, hN]
                refine tz_icmp_ge (n := 91) (tgt := 127) (g_at ck_X11_later 52 rfl) rfl rfl (by omega) (fun h88 => ?_) (fun h88 => absurd h88 (by omega))
                refine tz_iload2 (n := 128) (g_at ck_X11_later 73 rfl) rfl ?_
                refine tz_if_ne (n := 131) (tgt := 140) (g_at ck_X11_later 74 rfl) rfl rfl hw (fun h128 => ?_) (fun h128 => ?_)
                · skip
                  refine tz_iload3 (n := 141) (g_at ck_X11_later 79 rfl) rfl ?_
                  exact tz_iret (g_at ck_X11_later 80 rfl) rfl (rI_mk ⟨rfl, hR11, hk0.tr (mK.fd hD74), by rw [e84, h00, hc0, (show cdD n (if w = 2 then 1 else 0) (if w = 3 then 60 else 100) = cdD n 0 60 by rw [if_neg h18, if_pos h28]), hc1]; rfl, fun _ => by rw [if_neg h128, if_pos (by omega)]⟩)
                · skip
                  refine tz_aload0 (n := 132) (g_at ck_X11_later 75 rfl) rfl (g_ne kd_84) ?_
                  refine tz_bipush (n := 134) (g_at ck_X11_later 76 rfl) rfl rfl ?_
                  refine tz_cvI1 (n := 137) (μ' := μX11_homeOnes) (cb' := 0) (sb' := 0) ml_X11_381 mo_X11_homeOnes mv_X11_homeOnes np_X11_homeOnes kd_84 (g_at ck_X11_later 77 rfl) (mp_homeOnes hL hR11 (by rw [e84, hN]; omega) (Or.inr rfl)) rfl rfl rfl ⟨by decide, by decide⟩ (Nat.le_of_ble_eq_true rfl) (by decide) (by decide) (fun x134 ρ9 m134 hq => ?_)
                  obtain ⟨rfl, hR12, rfl, rfl⟩ := hq
                  rw [home_M (b := 35) hW hM7 hTx]
                  refine tz_goto (tgt := 141) (g_at ck_X11_later 78 rfl) rfl ?_
                  exact tz_iret (g_at ck_X11_later 80 rfl) rfl (rI_mk ⟨rfl, hR12, hk0.tr (mK.fd hD74), by rw [e84, h00, hc0, (show cdD n (if w = 2 then 1 else 0) (if w = 3 then 60 else 100) = cdD n 0 60 by rw [if_neg h18, if_pos h28]), hc1]; rfl, fun _ => by rw [if_pos h128]⟩)
              · skip
                have hpv := porN_v hσx i (by omega)
                have hpr := porN_rg hσx i (by omega)
                have hp9 := hσx.2.1 (i : Int) (by omega) (by omega)
                have hpl : (porN (daysP Λ hl tl (sig0 s) n.toNat) i).2 ≤ (daysP Λ hl tl (sig0 s) n.toNat) 0 (9 + (i : Int)) → (porN (daysP Λ hl tl (sig0 s) n.toNat) i).2 ≤ (daysP Λ hl tl (sig0 s) n.toNat) 0 (9 + (i : Int)) := id
                have hpn : ¬ (porN (daysP Λ hl tl (sig0 s) n.toNat) i).2 ≤ (daysP Λ hl tl (sig0 s) n.toNat) 0 (9 + (i : Int)) → ¬ (porN (daysP Λ hl tl (sig0 s) n.toNat) i).2 ≤ (daysP Λ hl tl (sig0 s) n.toNat) 0 (9 + (i : Int)) := id
                refine tz_iload4 (n := 84) (g_at ck_X11_later 49 rfl) rfl ?_
                refine tz_aload0 (n := 85) (g_at ck_X11_later 50 rfl) rfl (g_ne kd_84) ?_
                refine tz_getIw (n := 88) (kz := 2) fk_X11_305 kd_84 (g_at ck_X11_later 51 rfl) rfl rfl ?_
                rw [e84, hN]
                refine tz_icmp_ge (n := 91) (tgt := 127) (g_at ck_X11_later 52 rfl) rfl rfl (by omega) (fun h88 => absurd h88 (by omega)) (fun h88 => ?_)
                refine tz_iload3 (n := 92) (g_at ck_X11_later 53 rfl) rfl ?_
                refine tz_iconst (n := 93) (g_at ck_X11_later 54 rfl) rfl ?_
                refine tz_icmp_eq (n := 96) (tgt := 118) (g_at ck_X11_later 55 rfl) rfl rfl ⟨by have := po_i hpv; omega, by have := po_i hpv; omega, by decide, by decide⟩ (fun h93 => ?_) (fun h93 => ?_)
                · skip
                  refine tz_iload4 (n := 120) (g_at ck_X11_later 69 rfl) rfl ?_
                  refine tz_istore3 (n := 121) (g_at ck_X11_later 70 rfl) rfl (by decide) g_hpI ?_
                  refine tz_iinc4 (n := 124) (g_at ck_X11_later 71 rfl) rfl (by decide) g_hpI ?_
                  refine tz_goto (tgt := 82) (g_at ck_X11_later 72 rfl) rfl ?_
                  have e9 : porN (daysP Λ hl tl (sig0 s) n.toNat) (i + 1) = ((i : Int), (daysP Λ hl tl (sig0 s) n.toNat) 0 (9 + (i : Int))) := if_neg (hpn (by rw [(hpv.1 h93).2]; omega))
                  rw [e9] at ihi
                  exact ihi
                · skip
                  refine tz_aload0 (n := 97) (g_at ck_X11_later 56 rfl) rfl (g_ne kd_84) ?_
                  refine tz_getAv (n := 100) (a := 103) fk_X11_75 kd_84 (ly_84_43 hL) (g_at ck_X11_later 57 rfl) rfl ?_
                  refine tz_bipush (n := 102) (g_at ck_X11_later 58 rfl) rfl rfl ?_
                  refine tz_iload4 (n := 104) (g_at ck_X11_later 59 rfl) rfl ?_
                  refine tz_iadd (n := 105) (g_at ck_X11_later 60 rfl) rfl ?_
                  refine tz_iald (n := 106) kd_103 (by omega) (g_at ck_X11_later 61 rfl) rfl ?_
                  rw [hTx.r (k := 9 + (i : Int)) (by omega) (by omega)]
                  refine tz_aload0 (n := 107) (g_at ck_X11_later 62 rfl) rfl (g_ne kd_84) ?_
                  refine tz_getAv (n := 110) (a := 103) fk_X11_75 kd_84 (ly_84_43 hL) (g_at ck_X11_later 63 rfl) rfl ?_
                  refine tz_bipush (n := 112) (g_at ck_X11_later 64 rfl) rfl rfl ?_
                  refine tz_iload3 (n := 113) (g_at ck_X11_later 65 rfl) rfl ?_
                  refine tz_iadd (n := 114) (g_at ck_X11_later 66 rfl) rfl ?_
                  refine tz_iald (n := 115) kd_103 (by have := hpv.2 h93; omega) (g_at ck_X11_later 67 rfl) rfl ?_
                  have hpv3 := hpv.2 h93
                  rw [hTx.r (x := 44 + (porN (daysP Λ hl tl (sig0 s) n.toNat) i).1) (k := 9 + (porN (daysP Λ hl tl (sig0 s) n.toNat) i).1) (by omega) (by omega)]
                  refine tz_icmp_ge (n := 118) (tgt := 121) (g_at ck_X11_later 68 rfl) rfl rfl (by have h9 := hpr; rw [hpv3.1] at h9; omega) (fun h115 => ?_) (fun h115 => ?_)
                  · skip
                    refine tz_iinc4 (n := 124) (g_at ck_X11_later 71 rfl) rfl (by decide) g_hpI ?_
                    refine tz_goto (tgt := 82) (g_at ck_X11_later 72 rfl) rfl ?_
                    have e9 : porN (daysP Λ hl tl (sig0 s) n.toNat) (i + 1) = (porN (daysP Λ hl tl (sig0 s) n.toNat) i) := if_pos (hpl (by rw [hpv3.1]; exact h115))
                    rw [e9] at ihi
                    exact ihi
                  · skip
                    refine tz_iload4 (n := 120) (g_at ck_X11_later 69 rfl) rfl ?_
                    refine tz_istore3 (n := 121) (g_at ck_X11_later 70 rfl) rfl (by decide) g_hpI ?_
                    refine tz_iinc4 (n := 124) (g_at ck_X11_later 71 rfl) rfl (by decide) g_hpI ?_
                    refine tz_goto (tgt := 82) (g_at ck_X11_later 72 rfl) rfl ?_
                    have e9 : porN (daysP Λ hl tl (sig0 s) n.toNat) (i + 1) = ((i : Int), (daysP Λ hl tl (sig0 s) n.toNat) 0 (9 + (i : Int))) := if_neg (hpn (by rw [hpv3.1]; exact h115))
                    rw [e9] at ihi
                    exact ihi
            · skip
              refine tz_aload0 (n := 67) (g_at ck_X11_later 38 rfl) rfl (g_ne kd_84) ?_
              refine tz_iload1 (n := 68) (g_at ck_X11_later 39 rfl) rfl ?_
              refine tz_cvI1 (n := 71) (μ' := μX11_stuck) (cb' := 0) (sb' := 0) ml_X11_429 mo_X11_stuck mv_X11_stuck np_X11_stuck kd_84 (g_at ck_X11_later 40 rfl) (mp_stuck hL hR10 hW hM0 hs0 hσ hz0 (by omega)) rfl rfl rfl ⟨by decide, by decide⟩ (Nat.le_of_ble_eq_true rfl) (by decide) (by decide) (fun x68 ρ9 m68 hq => ?_)
              obtain ⟨rfl, hR13, hk68, he68, hx68⟩ := hq
              exact tz_iret (g_at ck_X11_later 41 rfl) rfl (rI_mk ⟨rfl, hR13, hk0.tr (hk68), by rw [he68, h00, hc0, (show cdD n (if w = 2 then 1 else 0) (if w = 3 then 60 else 100) = cdD n 0 60 by rw [if_neg h18, if_pos h28]), hc1]; rfl, fun _ => by rw [if_neg (by omega), if_neg (by omega), if_neg h52]; exact hx68⟩)
          · skip
            refine tz_aload0 (n := 56) (g_at ck_X11_later 31 rfl) rfl (g_ne kd_84) ?_
            refine tz_iload1 (n := 57) (g_at ck_X11_later 32 rfl) rfl ?_
            refine tz_cvI1 (n := 60) (μ' := μX11_busiest) (cb' := 0) (sb' := 0) ml_X11_426 mo_X11_busiest mv_X11_busiest np_X11_busiest kd_84 (g_at ck_X11_later 33 rfl) (mp_busiest hL hR10 hW hM0 hs0 hσ hz0 (by omega)) rfl rfl rfl ⟨by decide, by decide⟩ (Nat.le_of_ble_eq_true rfl) (by decide) (by decide) (fun x57 ρ9 m57 hq => ?_)
            obtain ⟨rfl, hR14, hk57, he57, hx57⟩ := hq
            exact tz_iret (g_at ck_X11_later 34 rfl) rfl (rI_mk ⟨rfl, hR14, hk0.tr (hk57), by rw [he57, h00, hc0, (show cdD n (if w = 2 then 1 else 0) (if w = 3 then 60 else 100) = cdD n 0 60 by rw [if_neg h18, if_pos h28]), hc1]; rfl, fun _ => by rw [if_neg (by omega), if_neg (by omega), if_pos h52]; exact hx57⟩)
        · skip
          refine tz_iconst (n := 49) (g_at ck_X11_later 26 rfl) rfl ?_
          exact tz_iret (g_at ck_X11_later 27 rfl) rfl (rI_mk ⟨rfl, hR10, by rw [wi_n h45]; exact hk0.tr mK.w0, by rw [wi_n h45, wr_same, hc0, sq0, (show cdD n (if w = 2 then 1 else 0) (if w = 3 then 60 else 100) = cdD n 0 60 by rw [if_neg h18, if_pos h28]), wi_cn h45], fun h9 => absurd h9 (by rw [hc0, sq0, (show cdD n (if w = 2 then 1 else 0) (if w = 3 then 60 else 100) = cdD n 0 60 by rw [if_neg h18, if_pos h28]), wi_cn h45]; decide)⟩)
    · skip
      refine tz_iconst (n := 22) (g_at ck_X11_later 13 rfl) rfl ?_
      refine tz_goto (tgt := 26) (g_at ck_X11_later 14 rfl) rfl ?_
      refine tz_iload2 (n := 27) (g_at ck_X11_later 16 rfl) rfl ?_
      refine tz_iconst (n := 28) (g_at ck_X11_later 17 rfl) rfl ?_
      refine tz_icmp_ne (n := 31) (tgt := 36) (g_at ck_X11_later 18 rfl) rfl rfl ⟨hw.1, hw.2, by decide, by decide⟩ (fun h28 => ?_) (fun h28 => ?_)
      · skip
        refine tz_bipush (n := 38) (g_at ck_X11_later 21 rfl) rfl rfl ?_
        have h01 := wiF_01 n 1 100
        refine tz_csI3 (n := 41) (μ' := μX11_within) (cb' := 0) (sb' := 0) ml_X11_374 mo_X11_within ms_X11_within np_X11_within (g_at ck_X11_later 22 rfl) (mp_within hR2 hn (by decide) (by decide)) rfl rfl ⟨by decide, by decide⟩ (Nat.le_of_ble_eq_true rfl) (by decide) (by decide) (fun x38 ρ9 m38 hq => ?_)
        obtain ⟨rfl, hR15, rfl, rfl⟩ := hq
        refine tz_iconst (n := 42) (g_at ck_X11_later 23 rfl) rfl ?_
        refine tz_cvI2 (n := 45) (μ' := μX11_right) (cb' := 0) (sb' := 0) ml_X11_295 mo_X11_right mv_X11_right np_X11_right kd_84 (g_at ck_X11_later 24 rfl) (mp_right hR15 h00 h01 (by decide)) rfl rfl rfl ⟨by decide, by decide⟩ (Nat.le_of_ble_eq_true rfl) (by decide) (by decide) (fun x42 ρ9 m42 hq => ?_)
        obtain ⟨rfl, hR16, rfl, rfl⟩ := hq
        refine tz_if_ne (n := 48) (tgt := 50) (g_at ck_X11_later 25 rfl) rfl rfl (by omega) (fun h45 => ?_) (fun h45 => ?_)
        · skip
          have hc1 : cdD n 1 100 = 0 := wi_cd h45
          have hi1 := cdD_i hc1
          rw [wi_m h45]
          rw [wi_m h45] at hR16
          refine tz_iload2 (n := 51) (g_at ck_X11_later 28 rfl) rfl ?_
          refine tz_iconst (n := 52) (g_at ck_X11_later 29 rfl) rfl ?_
          refine tz_icmp_ne (n := 55) (tgt := 61) (g_at ck_X11_later 30 rfl) rfl rfl ⟨hw.1, hw.2, by decide, by decide⟩ (fun h52 => ?_) (fun h52 => ?_)
          · skip
            refine tz_iload2 (n := 62) (g_at ck_X11_later 35 rfl) rfl ?_
            refine tz_iconst (n := 63) (g_at ck_X11_later 36 rfl) rfl ?_
            refine tz_icmp_ne (n := 66) (tgt := 72) (g_at ck_X11_later 37 rfl) rfl rfl ⟨hw.1, hw.2, by decide, by decide⟩ (fun h63 => ?_) (fun h63 => ?_)
            · skip
              refine tz_aload0 (n := 73) (g_at ck_X11_later 42 rfl) rfl (g_ne kd_84) ?_
              refine tz_iload1 (n := 74) (g_at ck_X11_later 43 rfl) rfl ?_
              refine tz_cvV1 (n := 77) (μ' := μX11_goesTo) (cb' := 0) (sb' := 0) ml_X11_420 mo_X11_goesTo mv_X11_goesTo np_X11_goesTo kd_84 (g_at ck_X11_later 44 rfl) (mp_goesTo hL hR16 hW hM0 hs0 hσ hw0 (by omega)) rfl rfl rfl ⟨by decide, by decide⟩ (Nat.le_of_ble_eq_true rfl) (by decide) (by decide) (fun ρ9 m74 hq => ?_)
              obtain ⟨rfl, hR17, hT74, hD74⟩ := hq
              have hTx : MT m74 35 Λ z00 (daysP Λ hl tl (sig0 s) n.toNat) := hT74
              have hσx := daysP_WS (hl := hl) (tl := tl) hW hσ (Int.le_refl 0) n.toNat
              have e84 : m74 84 = m0 84 := hD74.1 84 (by decide)
              have hN : m0 84 2 = Λ 0 1 := hM0.2.1
              have hM7 := hM0.fr hD74.1 mDay_91
              refine tz_iconst (n := 78) (g_at ck_X11_later 45 rfl) rfl ?_
              refine tz_istore3 (n := 79) (g_at ck_X11_later 46 rfl) rfl (by decide) g_hpI ?_
              refine tz_iconst (n := 80) (g_at ck_X11_later 47 rfl) rfl ?_
              refine tz_istore4 (n := 82) (g_at ck_X11_later 48 rfl) rfl (by decide) g_hpI ?_
              refine g_for (fun i : Nat => gT l γ μX11_later 7 0 0 _ _ KK ρ m74 82 [some (vR 84), some (vI n), some (vI w), some (vI (porN (daysP Λ hl tl (sig0 s) n.toNat) i).1), some (vI (i : Int))] []) (Λ 0 1).toNat ?_ (fun i hi ihi => ?_) 0 (Nat.zero_le _)
              · skip
                refine tz_iload4 (n := 84) (g_at ck_X11_later 49 rfl) rfl ?_
                refine tz_aload0 (n := 85) (g_at ck_X11_later 50 rfl) rfl (g_ne kd_84) ?_
                refine tz_getIw (n := 88) (kz := 2) fk_X11_305 kd_84 (g_at ck_X11_later 51 rfl) rfl rfl ?_
                rw [e84, hN]
                refine tz_icmp_ge (n := 91) (tgt := 127) (g_at ck_X11_later 52 rfl) rfl rfl (by omega) (fun h88 => ?_) (fun h88 => absurd h88 (by omega))
                refine tz_iload2 (n := 128) (g_at ck_X11_later 73 rfl) rfl ?_
                refine tz_if_ne (n := 131) (tgt := 140) (g_at ck_X11_later 74 rfl) rfl rfl hw (fun h128 => ?_) (fun h128 => ?_)
                · skip
                  refine tz_iload3 (n := 141) (g_at ck_X11_later 79 rfl) rfl ?_
                  exact tz_iret (g_at ck_X11_later 80 rfl) rfl (rI_mk ⟨rfl, hR17, hk0.tr (mK.fd hD74), by rw [e84, h00, hc0, (show cdD n (if w = 2 then 1 else 0) (if w = 3 then 60 else 100) = cdD n 1 100 by rw [if_pos h18, if_neg h28]), hc1]; rfl, fun _ => by rw [if_neg h128, if_pos (by omega)]⟩)
                · skip
                  refine tz_aload0 (n := 132) (g_at ck_X11_later 75 rfl) rfl (g_ne kd_84) ?_
                  refine tz_bipush (n := 134) (g_at ck_X11_later 76 rfl) rfl rfl ?_
                  refine tz_cvI1 (n := 137) (μ' := μX11_homeOnes) (cb' := 0) (sb' := 0) ml_X11_381 mo_X11_homeOnes mv_X11_homeOnes np_X11_homeOnes kd_84 (g_at ck_X11_later 77 rfl) (mp_homeOnes hL hR17 (by rw [e84, hN]; omega) (Or.inr rfl)) rfl rfl rfl ⟨by decide, by decide⟩ (Nat.le_of_ble_eq_true rfl) (by decide) (by decide) (fun x134 ρ9 m134 hq => ?_)
                  obtain ⟨rfl, hR18, rfl, rfl⟩ := hq
                  rw [home_M (b := 35) hW hM7 hTx]
                  refine tz_goto (tgt := 141) (g_at ck_X11_later 78 rfl) rfl ?_
                  exact tz_iret (g_at ck_X11_later 80 rfl) rfl (rI_mk ⟨rfl, hR18, hk0.tr (mK.fd hD74), by rw [e84, h00, hc0, (show cdD n (if w = 2 then 1 else 0) (if w = 3 then 60 else 100) = cdD n 1 100 by rw [if_pos h18, if_neg h28]), hc1]; rfl, fun _ => by rw [if_pos h128]⟩)
              · skip
                have hpv := porN_v hσx i (by omega)
                have hpr := porN_rg hσx i (by omega)
                have hp9 := hσx.2.1 (i : Int) (by omega) (by omega)
                have hpl : (porN (daysP Λ hl tl (sig0 s) n.toNat) i).2 ≤ (daysP Λ hl tl (sig0 s) n.toNat) 0 (9 + (i : Int)) → (porN (daysP Λ hl tl (sig0 s) n.toNat) i).2 ≤ (daysP Λ hl tl (sig0 s) n.toNat) 0 (9 + (i : Int)) := id
                have hpn : ¬ (porN (daysP Λ hl tl (sig0 s) n.toNat) i).2 ≤ (daysP Λ hl tl (sig0 s) n.toNat) 0 (9 + (i : Int)) → ¬ (porN (daysP Λ hl tl (sig0 s) n.toNat) i).2 ≤ (daysP Λ hl tl (sig0 s) n.toNat) 0 (9 + (i : Int)) := id
                refine tz_iload4 (n := 84) (g_at ck_X11_later 49 rfl) rfl ?_
                refine tz_aload0 (n := 85) (g_at ck_X11_later 50 rfl) rfl (g_ne kd_84) ?_
                refine tz_getIw (n := 88) (kz := 2) fk_X11_305 kd_84 (g_at ck_X11_later 51 rfl) rfl rfl ?_
                rw [e84, hN]
                refine tz_icmp_ge (n := 91) (tgt := 127) (g_at ck_X11_later 52 rfl) rfl rfl (by omega) (fun h88 => absurd h88 (by omega)) (fun h88 => ?_)
                refine tz_iload3 (n := 92) (g_at ck_X11_later 53 rfl) rfl ?_
                refine tz_iconst (n := 93) (g_at ck_X11_later 54 rfl) rfl ?_
                refine tz_icmp_eq (n := 96) (tgt := 118) (g_at ck_X11_later 55 rfl) rfl rfl ⟨by have := po_i hpv; omega, by have := po_i hpv; omega, by decide, by decide⟩ (fun h93 => ?_) (fun h93 => ?_)
                · skip
                  refine tz_iload4 (n := 120) (g_at ck_X11_later 69 rfl) rfl ?_
                  refine tz_istore3 (n := 121) (g_at ck_X11_later 70 rfl) rfl (by decide) g_hpI ?_
                  refine tz_iinc4 (n := 124) (g_at ck_X11_later 71 rfl) rfl (by decide) g_hpI ?_
                  refine tz_goto (tgt := 82) (g_at ck_X11_later 72 rfl) rfl ?_
                  have e9 : porN (daysP Λ hl tl (sig0 s) n.toNat) (i + 1) = ((i : Int), (daysP Λ hl tl (sig0 s) n.toNat) 0 (9 + (i : Int))) := if_neg (hpn (by rw [(hpv.1 h93).2]; omega))
                  rw [e9] at ihi
                  exact ihi
                · skip
                  refine tz_aload0 (n := 97) (g_at ck_X11_later 56 rfl) rfl (g_ne kd_84) ?_
                  refine tz_getAv (n := 100) (a := 103) fk_X11_75 kd_84 (ly_84_43 hL) (g_at ck_X11_later 57 rfl) rfl ?_
                  refine tz_bipush (n := 102) (g_at ck_X11_later 58 rfl) rfl rfl ?_
                  refine tz_iload4 (n := 104) (g_at ck_X11_later 59 rfl) rfl ?_
                  refine tz_iadd (n := 105) (g_at ck_X11_later 60 rfl) rfl ?_
                  refine tz_iald (n := 106) kd_103 (by omega) (g_at ck_X11_later 61 rfl) rfl ?_
                  rw [hTx.r (k := 9 + (i : Int)) (by omega) (by omega)]
                  refine tz_aload0 (n := 107) (g_at ck_X11_later 62 rfl) rfl (g_ne kd_84) ?_
                  refine tz_getAv (n := 110) (a := 103) fk_X11_75 kd_84 (ly_84_43 hL) (g_at ck_X11_later 63 rfl) rfl ?_
                  refine tz_bipush (n := 112) (g_at ck_X11_later 64 rfl) rfl rfl ?_
                  refine tz_iload3 (n := 113) (g_at ck_X11_later 65 rfl) rfl ?_
                  refine tz_iadd (n := 114) (g_at ck_X11_later 66 rfl) rfl ?_
                  refine tz_iald (n := 115) kd_103 (by have := hpv.2 h93; omega) (g_at ck_X11_later 67 rfl) rfl ?_
                  have hpv3 := hpv.2 h93
                  rw [hTx.r (x := 44 + (porN (daysP Λ hl tl (sig0 s) n.toNat) i).1) (k := 9 + (porN (daysP Λ hl tl (sig0 s) n.toNat) i).1) (by omega) (by omega)]
                  refine tz_icmp_ge (n := 118) (tgt := 121) (g_at ck_X11_later 68 rfl) rfl rfl (by have h9 := hpr; rw [hpv3.1] at h9; omega) (fun h115 => ?_) (fun h115 => ?_)
                  · skip
                    refine tz_iinc4 (n := 124) (g_at ck_X11_later 71 rfl) rfl (by decide) g_hpI ?_
                    refine tz_goto (tgt := 82) (g_at ck_X11_later 72 rfl) rfl ?_
                    have e9 : porN (daysP Λ hl tl (sig0 s) n.toNat) (i + 1) = (porN (daysP Λ hl tl (sig0 s) n.toNat) i) := if_pos (hpl (by rw [hpv3.1]; exact h115))
                    rw [e9] at ihi
                    exact ihi
                  · skip
                    refine tz_iload4 (n := 120) (g_at ck_X11_later 69 rfl) rfl ?_
                    refine tz_istore3 (n := 121) (g_at ck_X11_later 70 rfl) rfl (by decide) g_hpI ?_
                    refine tz_iinc4 (n := 124) (g_at ck_X11_later 71 rfl) rfl (by decide) g_hpI ?_
                    refine tz_goto (tgt := 82) (g_at ck_X11_later 72 rfl) rfl ?_
                    have e9 : porN (daysP Λ hl tl (sig0 s) n.toNat) (i + 1) = ((i : Int), (daysP Λ hl tl (sig0 s) n.toNat) 0 (9 + (i : Int))) := if_neg (hpn (by rw [hpv3.1]; exact h115))
                    rw [e9] at ihi
                    exact ihi
            · skip
              refine tz_aload0 (n := 67) (g_at ck_X11_later 38 rfl) rfl (g_ne kd_84) ?_
              refine tz_iload1 (n := 68) (g_at ck_X11_later 39 rfl) rfl ?_
              refine tz_cvI1 (n := 71) (μ' := μX11_stuck) (cb' := 0) (sb' := 0) ml_X11_429 mo_X11_stuck mv_X11_stuck np_X11_stuck kd_84 (g_at ck_X11_later 40 rfl) (mp_stuck hL hR16 hW hM0 hs0 hσ hz0 (by omega)) rfl rfl rfl ⟨by decide, by decide⟩ (Nat.le_of_ble_eq_true rfl) (by decide) (by decide) (fun x68 ρ9 m68 hq => ?_)
              obtain ⟨rfl, hR19, hk68, he68, hx68⟩ := hq
              exact tz_iret (g_at ck_X11_later 41 rfl) rfl (rI_mk ⟨rfl, hR19, hk0.tr (hk68), by rw [he68, h00, hc0, (show cdD n (if w = 2 then 1 else 0) (if w = 3 then 60 else 100) = cdD n 1 100 by rw [if_pos h18, if_neg h28]), hc1]; rfl, fun _ => by rw [if_neg (by omega), if_neg (by omega), if_neg h52]; exact hx68⟩)
          · skip
            refine tz_aload0 (n := 56) (g_at ck_X11_later 31 rfl) rfl (g_ne kd_84) ?_
            refine tz_iload1 (n := 57) (g_at ck_X11_later 32 rfl) rfl ?_
            refine tz_cvI1 (n := 60) (μ' := μX11_busiest) (cb' := 0) (sb' := 0) ml_X11_426 mo_X11_busiest mv_X11_busiest np_X11_busiest kd_84 (g_at ck_X11_later 33 rfl) (mp_busiest hL hR16 hW hM0 hs0 hσ hz0 (by omega)) rfl rfl rfl ⟨by decide, by decide⟩ (Nat.le_of_ble_eq_true rfl) (by decide) (by decide) (fun x57 ρ9 m57 hq => ?_)
            obtain ⟨rfl, hR20, hk57, he57, hx57⟩ := hq
            exact tz_iret (g_at ck_X11_later 34 rfl) rfl (rI_mk ⟨rfl, hR20, hk0.tr (hk57), by rw [he57, h00, hc0, (show cdD n (if w = 2 then 1 else 0) (if w = 3 then 60 else 100) = cdD n 1 100 by rw [if_pos h18, if_neg h28]), hc1]; rfl, fun _ => by rw [if_neg (by omega), if_neg (by omega), if_pos h52]; exact hx57⟩)
        · skip
          refine tz_iconst (n := 49) (g_at ck_X11_later 26 rfl) rfl ?_
          exact tz_iret (g_at ck_X11_later 27 rfl) rfl (rI_mk ⟨rfl, hR16, by rw [wi_n h45]; exact hk0.tr mK.w0, by rw [wi_n h45, wr_same, hc0, sq0, (show cdD n (if w = 2 then 1 else 0) (if w = 3 then 60 else 100) = cdD n 1 100 by rw [if_pos h18, if_neg h28]), wi_cn h45], fun h9 => absurd h9 (by rw [hc0, sq0, (show cdD n (if w = 2 then 1 else 0) (if w = 3 then 60 else 100) = cdD n 1 100 by rw [if_pos h18, if_neg h28]), wi_cn h45]; decide)⟩)
      · skip
        refine tz_bipush (n := 33) (g_at ck_X11_later 19 rfl) rfl rfl ?_
        refine tz_goto (tgt := 38) (g_at ck_X11_later 20 rfl) rfl ?_
        have h01 := wiF_01 n 1 60
        refine tz_csI3 (n := 41) (μ' := μX11_within) (cb' := 0) (sb' := 0) ml_X11_374 mo_X11_within ms_X11_within np_X11_within (g_at ck_X11_later 22 rfl) (mp_within hR2 hn (by decide) (by decide)) rfl rfl ⟨by decide, by decide⟩ (Nat.le_of_ble_eq_true rfl) (by decide) (by decide) (fun x38 ρ9 m38 hq => ?_)
        obtain ⟨rfl, hR21, rfl, rfl⟩ := hq
        refine tz_iconst (n := 42) (g_at ck_X11_later 23 rfl) rfl ?_
        refine tz_cvI2 (n := 45) (μ' := μX11_right) (cb' := 0) (sb' := 0) ml_X11_295 mo_X11_right mv_X11_right np_X11_right kd_84 (g_at ck_X11_later 24 rfl) (mp_right hR21 h00 h01 (by decide)) rfl rfl rfl ⟨by decide, by decide⟩ (Nat.le_of_ble_eq_true rfl) (by decide) (by decide) (fun x42 ρ9 m42 hq => ?_)
        obtain ⟨rfl, hR22, rfl, rfl⟩ := hq
        refine tz_if_ne (n := 48) (tgt := 50) (g_at ck_X11_later 25 rfl) rfl rfl (by omega) (fun h45 => ?_) (fun h45 => ?_)
        · skip
          have hc1 : cdD n 1 60 = 0 := wi_cd h45
          have hi1 := cdD_i hc1
          rw [wi_m h45]
          rw [wi_m h45] at hR22
          refine tz_iload2 (n := 51) (g_at ck_X11_later 28 rfl) rfl ?_
          refine tz_iconst (n := 52) (g_at ck_X11_later 29 rfl) rfl ?_
          refine tz_icmp_ne (n := 55) (tgt := 61) (g_at ck_X11_later 30 rfl) rfl rfl ⟨hw.1, hw.2, by decide, by decide⟩ (fun h52 => ?_) (fun h52 => ?_)
          · skip
            refine tz_iload2 (n := 62) (g_at ck_X11_later 35 rfl) rfl ?_
            refine tz_iconst (n := 63) (g_at ck_X11_later 36 rfl) rfl ?_
            refine tz_icmp_ne (n := 66) (tgt := 72) (g_at ck_X11_later 37 rfl) rfl rfl ⟨hw.1, hw.2, by decide, by decide⟩ (fun h63 => ?_) (fun h63 => ?_)
            · skip
              refine tz_aload0 (n := 73) (g_at ck_X11_later 42 rfl) rfl (g_ne kd_84) ?_
              refine tz_iload1 (n := 74) (g_at ck_X11_later 43 rfl) rfl ?_
              refine tz_cvV1 (n := 77) (μ' := μX11_goesTo) (cb' := 0) (sb' := 0) ml_X11_420 mo_X11_goesTo mv_X11_goesTo np_X11_goesTo kd_84 (g_at ck_X11_later 44 rfl) (mp_goesTo hL hR22 hW hM0 hs0 hσ hw0 (by omega)) rfl rfl rfl ⟨by decide, by decide⟩ (Nat.le_of_ble_eq_true rfl) (by decide) (by decide) (fun ρ9 m74 hq => ?_)
              obtain ⟨rfl, hR23, hT74, hD74⟩ := hq
              have hTx : MT m74 35 Λ z00 (daysP Λ hl tl (sig0 s) n.toNat) := hT74
              have hσx := daysP_WS (hl := hl) (tl := tl) hW hσ (Int.le_refl 0) n.toNat
              have e84 : m74 84 = m0 84 := hD74.1 84 (by decide)
              have hN : m0 84 2 = Λ 0 1 := hM0.2.1
              have hM7 := hM0.fr hD74.1 mDay_91
              refine tz_iconst (n := 78) (g_at ck_X11_later 45 rfl) rfl ?_
              refine tz_istore3 (n := 79) (g_at ck_X11_later 46 rfl) rfl (by decide) g_hpI ?_
              refine tz_iconst (n := 80) (g_at ck_X11_later 47 rfl) rfl ?_
              refine tz_istore4 (n := 82) (g_at ck_X11_later 48 rfl) rfl (by decide) g_hpI ?_
              refine g_for (fun i : Nat => gT l γ μX11_later 7 0 0 _ _ KK ρ m74 82 [some (vR 84), some (vI n), some (vI w), some (vI (porN (daysP Λ hl tl (sig0 s) n.toNat) i).1), some (vI (i : Int))] []) (Λ 0 1).toNat ?_ (fun i hi ihi => ?_) 0 (Nat.zero_le _)
              · skip
                refine tz_iload4 (n := 84) (g_at ck_X11_later 49 rfl) rfl ?_
                refine tz_aload0 (n := 85) (g_at ck_X11_later 50 rfl) rfl (g_ne kd_84) ?_
                refine tz_getIw (n := 88) (kz := 2) fk_X11_305 kd_84 (g_at ck_X11_later 51 rfl) rfl rfl ?_
                rw [e84, hN]
                refine tz_icmp_ge (n := 91) (tgt := 127) (g_at ck_X11_later 52 rfl) rfl rfl (by omega) (fun h88 => ?_) (fun h88 => absurd h88 (by omega))
                refine tz_iload2 (n := 128) (g_at ck_X11_later 73 rfl) rfl ?_
                refine tz_if_ne (n := 131) (tgt := 140) (g_at ck_X11_later 74 rfl) rfl rfl hw (fun h128 => ?_) (fun h128 => ?_)
                · skip
                  refine tz_iload3 (n := 141) (g_at ck_X11_later 79 rfl) rfl ?_
                  exact tz_iret (g_at ck_X11_later 80 rfl) rfl (rI_mk ⟨rfl, hR23, hk0.tr (mK.fd hD74), by rw [e84, h00, hc0, (show cdD n (if w = 2 then 1 else 0) (if w = 3 then 60 else 100) = cdD n 1 60 by rw [if_pos h18, if_pos h28]), hc1]; rfl, fun _ => by rw [if_neg h128, if_pos (by omega)]⟩)
                · skip
                  refine tz_aload0 (n := 132) (g_at ck_X11_later 75 rfl) rfl (g_ne kd_84) ?_
                  refine tz_bipush (n := 134) (g_at ck_X11_later 76 rfl) rfl rfl ?_
                  refine tz_cvI1 (n := 137) (μ' := μX11_homeOnes) (cb' := 0) (sb' := 0) ml_X11_381 mo_X11_homeOnes mv_X11_homeOnes np_X11_homeOnes kd_84 (g_at ck_X11_later 77 rfl) (mp_homeOnes hL hR23 (by rw [e84, hN]; omega) (Or.inr rfl)) rfl rfl rfl ⟨by decide, by decide⟩ (Nat.le_of_ble_eq_true rfl) (by decide) (by decide) (fun x134 ρ9 m134 hq => ?_)
                  obtain ⟨rfl, hR24, rfl, rfl⟩ := hq
                  rw [home_M (b := 35) hW hM7 hTx]
                  refine tz_goto (tgt := 141) (g_at ck_X11_later 78 rfl) rfl ?_
                  exact tz_iret (g_at ck_X11_later 80 rfl) rfl (rI_mk ⟨rfl, hR24, hk0.tr (mK.fd hD74), by rw [e84, h00, hc0, (show cdD n (if w = 2 then 1 else 0) (if w = 3 then 60 else 100) = cdD n 1 60 by rw [if_pos h18, if_pos h28]), hc1]; rfl, fun _ => by rw [if_pos h128]⟩)
              · skip
                have hpv := porN_v hσx i (by omega)
                have hpr := porN_rg hσx i (by omega)
                have hp9 := hσx.2.1 (i : Int) (by omega) (by omega)
                have hpl : (porN (daysP Λ hl tl (sig0 s) n.toNat) i).2 ≤ (daysP Λ hl tl (sig0 s) n.toNat) 0 (9 + (i : Int)) → (porN (daysP Λ hl tl (sig0 s) n.toNat) i).2 ≤ (daysP Λ hl tl (sig0 s) n.toNat) 0 (9 + (i : Int)) := id
                have hpn : ¬ (porN (daysP Λ hl tl (sig0 s) n.toNat) i).2 ≤ (daysP Λ hl tl (sig0 s) n.toNat) 0 (9 + (i : Int)) → ¬ (porN (daysP Λ hl tl (sig0 s) n.toNat) i).2 ≤ (daysP Λ hl tl (sig0 s) n.toNat) 0 (9 + (i : Int)) := id
                refine tz_iload4 (n := 84) (g_at ck_X11_later 49 rfl) rfl ?_
                refine tz_aload0 (n := 85) (g_at ck_X11_later 50 rfl) rfl (g_ne kd_84) ?_
                refine tz_getIw (n := 88) (kz := 2) fk_X11_305 kd_84 (g_at ck_X11_later 51 rfl) rfl rfl ?_
                rw [e84, hN]
                refine tz_icmp_ge (n := 91) (tgt := 127) (g_at ck_X11_later 52 rfl) rfl rfl (by omega) (fun h88 => absurd h88 (by omega)) (fun h88 => ?_)
                refine tz_iload3 (n := 92) (g_at ck_X11_later 53 rfl) rfl ?_
                refine tz_iconst (n := 93) (g_at ck_X11_later 54 rfl) rfl ?_
                refine tz_icmp_eq (n := 96) (tgt := 118) (g_at ck_X11_later 55 rfl) rfl rfl ⟨by have := po_i hpv; omega, by have := po_i hpv; omega, by decide, by decide⟩ (fun h93 => ?_) (fun h93 => ?_)
                · skip
                  refine tz_iload4 (n := 120) (g_at ck_X11_later 69 rfl) rfl ?_
                  refine tz_istore3 (n := 121) (g_at ck_X11_later 70 rfl) rfl (by decide) g_hpI ?_
                  refine tz_iinc4 (n := 124) (g_at ck_X11_later 71 rfl) rfl (by decide) g_hpI ?_
                  refine tz_goto (tgt := 82) (g_at ck_X11_later 72 rfl) rfl ?_
                  have e9 : porN (daysP Λ hl tl (sig0 s) n.toNat) (i + 1) = ((i : Int), (daysP Λ hl tl (sig0 s) n.toNat) 0 (9 + (i : Int))) := if_neg (hpn (by rw [(hpv.1 h93).2]; omega))
                  rw [e9] at ihi
                  exact ihi
                · skip
                  refine tz_aload0 (n := 97) (g_at ck_X11_later 56 rfl) rfl (g_ne kd_84) ?_
                  refine tz_getAv (n := 100) (a := 103) fk_X11_75 kd_84 (ly_84_43 hL) (g_at ck_X11_later 57 rfl) rfl ?_
                  refine tz_bipush (n := 102) (g_at ck_X11_later 58 rfl) rfl rfl ?_
                  refine tz_iload4 (n := 104) (g_at ck_X11_later 59 rfl) rfl ?_
                  refine tz_iadd (n := 105) (g_at ck_X11_later 60 rfl) rfl ?_
                  refine tz_iald (n := 106) kd_103 (by omega) (g_at ck_X11_later 61 rfl) rfl ?_
                  rw [hTx.r (k := 9 + (i : Int)) (by omega) (by omega)]
                  refine tz_aload0 (n := 107) (g_at ck_X11_later 62 rfl) rfl (g_ne kd_84) ?_
                  refine tz_getAv (n := 110) (a := 103) fk_X11_75 kd_84 (ly_84_43 hL) (g_at ck_X11_later 63 rfl) rfl ?_
                  refine tz_bipush (n := 112) (g_at ck_X11_later 64 rfl) rfl rfl ?_
                  refine tz_iload3 (n := 113) (g_at ck_X11_later 65 rfl) rfl ?_
                  refine tz_iadd (n := 114) (g_at ck_X11_later 66 rfl) rfl ?_
                  refine tz_iald (n := 115) kd_103 (by have := hpv.2 h93; omega) (g_at ck_X11_later 67 rfl) rfl ?_
                  have hpv3 := hpv.2 h93
                  rw [hTx.r (x := 44 + (porN (daysP Λ hl tl (sig0 s) n.toNat) i).1) (k := 9 + (porN (daysP Λ hl tl (sig0 s) n.toNat) i).1) (by omega) (by omega)]
                  refine tz_icmp_ge (n := 118) (tgt := 121) (g_at ck_X11_later 68 rfl) rfl rfl (by have h9 := hpr; rw [hpv3.1] at h9; omega) (fun h115 => ?_) (fun h115 => ?_)
                  · skip
                    refine tz_iinc4 (n := 124) (g_at ck_X11_later 71 rfl) rfl (by decide) g_hpI ?_
                    refine tz_goto (tgt := 82) (g_at ck_X11_later 72 rfl) rfl ?_
                    have e9 : porN (daysP Λ hl tl (sig0 s) n.toNat) (i + 1) = (porN (daysP Λ hl tl (sig0 s) n.toNat) i) := if_pos (hpl (by rw [hpv3.1]; exact h115))
                    rw [e9] at ihi
                    exact ihi
                  · skip
                    refine tz_iload4 (n := 120) (g_at ck_X11_later 69 rfl) rfl ?_
                    refine tz_istore3 (n := 121) (g_at ck_X11_later 70 rfl) rfl (by decide) g_hpI ?_
                    refine tz_iinc4 (n := 124) (g_at ck_X11_later 71 rfl) rfl (by decide) g_hpI ?_
                    refine tz_goto (tgt := 82) (g_at ck_X11_later 72 rfl) rfl ?_
                    have e9 : porN (daysP Λ hl tl (sig0 s) n.toNat) (i + 1) = ((i : Int), (daysP Λ hl tl (sig0 s) n.toNat) 0 (9 + (i : Int))) := if_neg (hpn (by rw [hpv3.1]; exact h115))
                    rw [e9] at ihi
                    exact ihi
            · skip
              refine tz_aload0 (n := 67) (g_at ck_X11_later 38 rfl) rfl (g_ne kd_84) ?_
              refine tz_iload1 (n := 68) (g_at ck_X11_later 39 rfl) rfl ?_
              refine tz_cvI1 (n := 71) (μ' := μX11_stuck) (cb' := 0) (sb' := 0) ml_X11_429 mo_X11_stuck mv_X11_stuck np_X11_stuck kd_84 (g_at ck_X11_later 40 rfl) (mp_stuck hL hR22 hW hM0 hs0 hσ hz0 (by omega)) rfl rfl rfl ⟨by decide, by decide⟩ (Nat.le_of_ble_eq_true rfl) (by decide) (by decide) (fun x68 ρ9 m68 hq => ?_)
              obtain ⟨rfl, hR25, hk68, he68, hx68⟩ := hq
              exact tz_iret (g_at ck_X11_later 41 rfl) rfl (rI_mk ⟨rfl, hR25, hk0.tr (hk68), by rw [he68, h00, hc0, (show cdD n (if w = 2 then 1 else 0) (if w = 3 then 60 else 100) = cdD n 1 60 by rw [if_pos h18, if_pos h28]), hc1]; rfl, fun _ => by rw [if_neg (by omega), if_neg (by omega), if_neg h52]; exact hx68⟩)
          · skip
            refine tz_aload0 (n := 56) (g_at ck_X11_later 31 rfl) rfl (g_ne kd_84) ?_
            refine tz_iload1 (n := 57) (g_at ck_X11_later 32 rfl) rfl ?_
            refine tz_cvI1 (n := 60) (μ' := μX11_busiest) (cb' := 0) (sb' := 0) ml_X11_426 mo_X11_busiest mv_X11_busiest np_X11_busiest kd_84 (g_at ck_X11_later 33 rfl) (mp_busiest hL hR22 hW hM0 hs0 hσ hz0 (by omega)) rfl rfl rfl ⟨by decide, by decide⟩ (Nat.le_of_ble_eq_true rfl) (by decide) (by decide) (fun x57 ρ9 m57 hq => ?_)
            obtain ⟨rfl, hR26, hk57, he57, hx57⟩ := hq
            exact tz_iret (g_at ck_X11_later 34 rfl) rfl (rI_mk ⟨rfl, hR26, hk0.tr (hk57), by rw [he57, h00, hc0, (show cdD n (if w = 2 then 1 else 0) (if w = 3 then 60 else 100) = cdD n 1 60 by rw [if_pos h18, if_pos h28]), hc1]; rfl, fun _ => by rw [if_neg (by omega), if_neg (by omega), if_pos h52]; exact hx57⟩)
        · skip
          refine tz_iconst (n := 49) (g_at ck_X11_later 26 rfl) rfl ?_
          exact tz_iret (g_at ck_X11_later 27 rfl) rfl (rI_mk ⟨rfl, hR22, by rw [wi_n h45]; exact hk0.tr mK.w0, by rw [wi_n h45, wr_same, hc0, sq0, (show cdD n (if w = 2 then 1 else 0) (if w = 3 then 60 else 100) = cdD n 1 60 by rw [if_pos h18, if_pos h28]), wi_cn h45], fun h9 => absurd h9 (by rw [hc0, sq0, (show cdD n (if w = 2 then 1 else 0) (if w = 3 then 60 else 100) = cdD n 1 60 by rw [if_pos h18, if_pos h28]), wi_cn h45]; decide)⟩)
