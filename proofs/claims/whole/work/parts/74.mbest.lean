/-! The reference: best, purse, cuts. -/
theorem bs_now {Λ : Mm} {hl tl : List Int} {s : Int → Int} {p c r : Int} (h : s (17 + c) = r) : bsF Λ hl tl s p c r = homF Λ hl tl (sig0 s) p := by
  unfold bsF
  rw [wr_self (show sig0 s 0 (17 + c) = r from h)]
theorem bs_yes {Λ : Mm} {hl tl : List Int} {s : Int → Int} {p c r : Int} {q : Int × Int} (hq : q.1 ≤ homF Λ hl tl (sig0 s) p) (h : bsF Λ hl tl s p c r < q.1) : bsS Λ hl tl s p c r q = (bsF Λ hl tl s p c r, 10 * c + r) := by
  unfold bsS
  rw [if_neg (fun h9 => by rw [bs_now h9] at h; omega), if_pos h]
theorem bs_no {Λ : Mm} {hl tl : List Int} {s : Int → Int} {p c r : Int} {q : Int × Int} (h : ¬ bsF Λ hl tl s p c r < q.1) : bsS Λ hl tl s p c r q = q := by
  unfold bsS
  rw [if_neg h]
  split <;> rfl
theorem bs_le {Λ : Mm} {hl tl : List Int} {s : Int → Int} {p c r : Int} {q : Int × Int} : (bsS Λ hl tl s p c r q).1 ≤ q.1 := by
  unfold bsS
  split
  · exact Int.le_refl _
  · split
    · rename_i h; show bsF Λ hl tl s p c r ≤ q.1; omega
    · exact Int.le_refl _
theorem bsR_le {Λ : Mm} {hl tl : List Int} {s : Int → Int} {p c : Int} {q : Int × Int} : ∀ n : Nat, (bsR Λ hl tl s p c q n).1 ≤ q.1
  | 0 => Int.le_refl _
  | n + 1 => Int.le_trans (bs_le (c := c) (r := (n : Int)) (q := bsR Λ hl tl s p c q n)) (bsR_le n)
theorem bsN_le {Λ : Mm} {hl tl : List Int} {s : Int → Int} {p : Int} : ∀ n : Nat, (bsN Λ hl tl s p n).1 ≤ homF Λ hl tl (sig0 s) p
  | 0 => Int.le_refl _
  | n + 1 => Int.le_trans (bsR_le (c := (n : Int)) (q := bsN Λ hl tl s p n) _) (bsN_le n)
theorem bOr_add : ∀ x : Nat, x < 32 → ∀ r : Nat, r < 5 → shutB (x : Int) (r : Int) = 0 → bOr (x : Int) (bShl 1 (r : Int)) = (x : Int) + bShl 1 (r : Int) := by decide
theorem bOr_ad {x r : Int} (hx : 0 ≤ x ∧ x < 32) (hr : 0 ≤ r ∧ r < 5) (h : shutB x r = 0) : x + bShl 1 r = bOr x (bShl 1 r) := by
  have h9 := bOr_add x.toNat (by omega) r.toNat (by omega)
  rw [show ((x.toNat : Nat) : Int) = x by omega, show ((r.toNat : Nat) : Int) = r by omega] at h9
  exact (h9 h).symm
theorem cf_i {B : Int → Int → Int} {c r : Int} {q : Int × Int} (hc : 0 ≤ c) (hr : 0 ≤ r) (h : 0 ≤ q.1 ∧ (q.1 = 0 ↔ q.2 = -1) ∧ -1 ≤ q.2) : 0 ≤ (cfS B c r q).1 ∧ ((cfS B c r q).1 = 0 ↔ (cfS B c r q).2 = -1) ∧ -1 ≤ (cfS B c r q).2 := by
  unfold cfS
  split
  · exact h
  · by_cases e : q.1 = 0
    · rw [if_pos e]
      show 0 ≤ q.1 + 1 ∧ (q.1 + 1 = 0 ↔ 10 * c + r = -1) ∧ -1 ≤ 10 * c + r
      omega
    · rw [if_neg e]
      show 0 ≤ q.1 + 1 ∧ (q.1 + 1 = 0 ↔ q.2 = -1) ∧ -1 ≤ q.2
      omega
theorem mp_best {l : Launch} {γ : Gh} {ρ m : Mm} {p : Int} (hp : -2147483648 ≤ p ∧ p < 2147483648) {s : Int → Int} {Λ : Mm} {hl tl : List Int} (hL : LY ρ) (hR : MR m) (hW : WL Λ) (hM : MLand m Λ hl tl) (hs : MRow m s) (hσ : WS Λ 0 (sig0 s)) (hz : m 84 51 = 0) : gE l γ μX11_best 6 0 0 (rI KK fun x ρ9 m9 => ρ = ρ9 ∧ MR m9 ∧ mK m m9 ∧ m9 84 0 = cdP Λ p ∧ (cdP Λ p = 0 → (bsN Λ hl tl s p (Λ 0 0).toNat).2 = x)) xN KK ρ m [vR 84, vI p] := by
  refine gE.ofw cl_X11.2 ?_ rfl rfl (Nat.le_of_ble_eq_true rfl)
  show gT l γ μX11_best 6 0 0 _ _ KK ρ m 0 [some (vR 84), some (vI p), none, none, none, none, none] []
  have hn1 := hW.1
  have hn8 := hW.2.1
  refine tz_aload0 (n := 1) (g_at ck_X11_best 0 rfl) rfl (g_ne kd_84) ?_
  refine tz_iconst (n := 2) (g_at ck_X11_best 1 rfl) rfl ?_
  refine tz_putIr (n := 5) (kz := 0) fk_X11_132 kd_84 (g_at ck_X11_best 2 rfl) rfl hR ⟨(by decide), (by decide)⟩ rfl (fun hR1 => ?_)
  obtain ⟨m0, e0⟩ : ∃ m0, m0 = wr m 84 0 0 := ⟨_, rfl⟩
  rw [← e0] at hR1 ⊢
  have hk0 : mK m m0 := by rw [e0]; exact mK.w0
  have hM0 := hk0.land hM
  have hs0 := hk0.row hs
  have hz0 : m0 84 51 = 0 := hk0.w51.trans hz
  have h00 : m0 84 0 = 0 := by rw [e0, wr_same]
  have hw0 := hw_0 hz0
  refine tz_aload0 (n := 6) (g_at ck_X11_best 3 rfl) rfl (g_ne kd_84) ?_
  refine tz_iload1 (n := 7) (g_at ck_X11_best 4 rfl) rfl ?_
  refine tz_cvI1 (n := 10) (μ' := μX11_isPerson) (cb' := 0) (sb' := 0) ml_X11_405 mo_X11_isPerson mv_X11_isPerson np_X11_isPerson kd_84 (g_at ck_X11_best 5 rfl) (mp_isPerson hp hL hR1 hW hM0 h00) rfl rfl rfl ⟨by decide, by decide⟩ (Nat.le_of_ble_eq_true rfl) (by decide) (by decide) (fun x7 ρ9 m7 hq => ?_)
  obtain ⟨rfl, hR2, hq7⟩ := hq
  refine tz_if_ne (n := 13) (tgt := 15) (g_at ck_X11_best 6 rfl) rfl rfl (by rcases hq7.b01 with h9 | h9 <;> omega) (fun h10 => ?_) (fun h10 => ?_)
  · skip
    obtain ⟨hc0, rfl⟩ := hq7.ok h10
    have hi0 := cdP_i hc0
    refine tz_aload0 (n := 16) (g_at ck_X11_best 9 rfl) rfl (g_ne kd_84) ?_
    refine tz_cvV0 (n := 19) (μ' := μX11_tries) (cb' := 0) (sb' := 0) ml_X11_356 mo_X11_tries mv_X11_tries np_X11_tries kd_84 (g_at ck_X11_best 10 rfl) (mp_tries (Λ := Λ) hL hR2 hs0) rfl rfl rfl ⟨by decide, by decide⟩ (Nat.le_of_ble_eq_true rfl) (by decide) (by decide) (fun ρ9 m16 hq => ?_)
    obtain ⟨rfl, hR3, hT16, hD16⟩ := hq
    refine tz_aload0 (n := 20) (g_at ck_X11_best 11 rfl) rfl (g_ne kd_84) ?_
    refine tz_iload1 (n := 21) (g_at ck_X11_best 12 rfl) rfl ?_
    refine tz_cvI1 (n := 24) (μ' := μX11_homeIn) (cb' := 0) (sb' := 0) ml_X11_435 mo_X11_homeIn mv_X11_homeIn np_X11_homeIn kd_84 (g_at ck_X11_best 13 rfl) (mp_homeIn hL hR3 hW (hM0.fr hD16.1 mDay_91) hT16 hσ (by decide) hi0 (by rw [hD16.1 84 (by decide)]; exact hz0)) rfl rfl rfl ⟨by decide, by decide⟩ (Nat.le_of_ble_eq_true rfl) (by decide) (by decide) (fun x21 ρ9 m21 hq => ?_)
    obtain ⟨rfl, hR4, hD21, hx21⟩ := hq
    have hf0 := homF_rg Λ hl tl (sig0 s) p
    rw [← hx21]
    refine tz_istore2 (n := 25) (g_at ck_X11_best 14 rfl) rfl (by decide) g_hpI ?_
    refine tz_iconst (n := 26) (g_at ck_X11_best 15 rfl) rfl ?_
    refine tz_istore3 (n := 27) (g_at ck_X11_best 16 rfl) rfl (by decide) g_hpI ?_
    refine tz_iconst (n := 28) (g_at ck_X11_best 17 rfl) rfl ?_
    refine tz_istore4 (n := 30) (g_at ck_X11_best 18 rfl) rfl (by decide) g_hpI ?_
    refine g_for (fun i : Nat => ∀ m1 : Mm, (MR m1 ∧ FD 35 m0 m1) → gT l γ μX11_best 6 0 0 _ _ KK ρ m1 30 [some (vR 84), some (vI p), some (vI (hmX (bsN Λ hl tl s p i).1)), some (vI (bsN Λ hl tl s p i).2), some (vI (i : Int)), none, none] []) (Λ 0 0).toNat ?_ (fun i hi ihi => ?_) 0 (Nat.zero_le _) _ ⟨hR4, hD16.tr hD21⟩
    · intro m1 hinv
      obtain ⟨hRi, hDi⟩ := hinv
      have e84 : m1 84 = m0 84 := hDi.1 84 (by decide)
      have hN := hM0.1
      refine tz_iload4 (n := 32) (g_at ck_X11_best 19 rfl) rfl ?_
      refine tz_aload0 (n := 33) (g_at ck_X11_best 20 rfl) rfl (g_ne kd_84) ?_
      refine tz_getIw (n := 36) (kz := 1) fk_X11_302 kd_84 (g_at ck_X11_best 21 rfl) rfl rfl ?_
      rw [e84, hN]
      refine tz_icmp_ge (n := 39) (tgt := 110) (g_at ck_X11_best 22 rfl) rfl rfl (by omega) (fun h36 => ?_) (fun h36 => absurd h36 (by omega))
      refine tz_iload3 (n := 111) (g_at ck_X11_best 60 rfl) rfl ?_
      exact tz_iret (g_at ck_X11_best 61 rfl) rfl (rI_mk ⟨rfl, hRi, hk0.tr (mK.fd hDi), by rw [hDi.1 84 (by decide), h00, hc0], fun _ => rfl⟩)
    · intro m1 hinv
      obtain ⟨hRi, hDi⟩ := hinv
      have e84 : m1 84 = m0 84 := hDi.1 84 (by decide)
      have hN := hM0.1
      have hcw := hW.2.2.1 (i : Int) (by omega) (by omega)
      refine tz_iload4 (n := 32) (g_at ck_X11_best 19 rfl) rfl ?_
      refine tz_aload0 (n := 33) (g_at ck_X11_best 20 rfl) rfl (g_ne kd_84) ?_
      refine tz_getIw (n := 36) (kz := 1) fk_X11_302 kd_84 (g_at ck_X11_best 21 rfl) rfl rfl ?_
      rw [e84, hN]
      refine tz_icmp_ge (n := 39) (tgt := 110) (g_at ck_X11_best 22 rfl) rfl rfl (by omega) (fun h36 => absurd h36 (by omega)) (fun h36 => ?_)
      refine tz_iconst (n := 40) (g_at ck_X11_best 23 rfl) rfl ?_
      refine tz_istore5 (n := 42) (g_at ck_X11_best 24 rfl) rfl (by decide) g_hpI ?_
      refine g_for (fun j : Nat => ∀ m2 : Mm, (MR m2 ∧ FD 35 m0 m2) → gT l γ μX11_best 6 0 0 _ _ KK ρ m2 42 [some (vR 84), some (vI p), some (vI (hmX (bsR Λ hl tl s p (i : Int) (bsN Λ hl tl s p i) j).1)), some (vI (bsR Λ hl tl s p (i : Int) (bsN Λ hl tl s p i) j).2), some (vI (i : Int)), some (vI (j : Int)), none] []) (Λ 3 (i : Int)).toNat ?_ (fun j hj ihj => ?_) 0 (Nat.zero_le _) _ ⟨hRi, hDi⟩
      · intro m2 hinv
        obtain ⟨hR2, hD2⟩ := hinv
        have r87 : m2 87 (i : Int) = Λ 3 (i : Int) := ((hM0.fr hD2.1 mDay_91).2.2.1 (i : Int) (by omega) (by omega)).2.2
        refine tz_iload5 (n := 44) (g_at ck_X11_best 25 rfl) rfl ?_
        refine tz_aload0 (n := 45) (g_at ck_X11_best 26 rfl) rfl (g_ne kd_84) ?_
        refine tz_getAv (n := 48) (a := 87) fk_X11_23 kd_84 (ly_84_7 hL) (g_at ck_X11_best 27 rfl) rfl ?_
        refine tz_iload4 (n := 50) (g_at ck_X11_best 28 rfl) rfl ?_
        refine tz_iald (n := 51) kd_87 (by omega) (g_at ck_X11_best 29 rfl) rfl ?_
        rw [r87]
        refine tz_icmp_ge (n := 54) (tgt := 104) (g_at ck_X11_best 30 rfl) rfl rfl (by omega) (fun h51 => ?_) (fun h51 => absurd h51 (by omega))
        refine tz_iinc4 (n := 107) (g_at ck_X11_best 58 rfl) rfl (by decide) g_hpI ?_
        refine tz_goto (tgt := 30) (g_at ck_X11_best 59 rfl) rfl ?_
        refine tz_drop5 ?_
        exact ihi _ ⟨hR2, hD2⟩
      · intro m2 hinv
        obtain ⟨hR2, hD2⟩ := hinv
        have r87 : m2 87 (i : Int) = Λ 3 (i : Int) := ((hM0.fr hD2.1 mDay_91).2.2.1 (i : Int) (by omega) (by omega)).2.2
        have hle : (bsR Λ hl tl s p (i : Int) (bsN Λ hl tl s p i) j).1 ≤ homF Λ hl tl (sig0 s) p := Int.le_trans (bsR_le j) (bsN_le i)
        have hb : 0 ≤ (bsR Λ hl tl s p (i : Int) (bsN Λ hl tl s p i) j).1 ∧ (bsR Λ hl tl s p (i : Int) (bsN Λ hl tl s p i) j).1 ≤ 61 := bsR_rg (bsN_rg _) _
        refine tz_iload5 (n := 44) (g_at ck_X11_best 25 rfl) rfl ?_
        refine tz_aload0 (n := 45) (g_at ck_X11_best 26 rfl) rfl (g_ne kd_84) ?_
        refine tz_getAv (n := 48) (a := 87) fk_X11_23 kd_84 (ly_84_7 hL) (g_at ck_X11_best 27 rfl) rfl ?_
        refine tz_iload4 (n := 50) (g_at ck_X11_best 28 rfl) rfl ?_
        refine tz_iald (n := 51) kd_87 (by omega) (g_at ck_X11_best 29 rfl) rfl ?_
        rw [r87]
        refine tz_icmp_ge (n := 54) (tgt := 104) (g_at ck_X11_best 30 rfl) rfl rfl (by omega) (fun h51 => absurd h51 (by omega)) (fun h51 => ?_)
        refine tz_aload0 (n := 55) (g_at ck_X11_best 31 rfl) rfl (g_ne kd_84) ?_
        refine tz_cvV0 (n := 58) (μ' := μX11_tries) (cb' := 0) (sb' := 0) ml_X11_356 mo_X11_tries mv_X11_tries np_X11_tries kd_84 (g_at ck_X11_best 32 rfl) (mp_tries (Λ := Λ) hL hR2 ((mK.fd hD2).row hs0)) rfl rfl rfl ⟨by decide, by decide⟩ (Nat.le_of_ble_eq_true rfl) (by decide) (by decide) (fun ρ9 m55 hq => ?_)
        obtain ⟨rfl, hR5, hT55, hD55⟩ := hq
        refine tz_aload0 (n := 59) (g_at ck_X11_best 33 rfl) rfl (g_ne kd_84) ?_
        refine tz_getAv (n := 62) (a := 103) fk_X11_75 kd_84 (ly_84_43 hL) (g_at ck_X11_best 34 rfl) rfl ?_
        refine tz_bipush (n := 64) (g_at ck_X11_best 35 rfl) rfl rfl ?_
        refine tz_iload4 (n := 66) (g_at ck_X11_best 36 rfl) rfl ?_
        refine tz_iadd (n := 67) (g_at ck_X11_best 37 rfl) rfl ?_
        rw [show 52 + (i : Int) = 35 + (17 + (i : Int)) by omega]
        refine tz_iload5 (n := 69) (g_at ck_X11_best 38 rfl) rfl ?_
        refine tz_iastr (n := 70) kd_103 (by omega) (g_at ck_X11_best 39 rfl) rfl hR5 (by omega) (fun hR6 => ?_)
        refine tz_aload0 (n := 71) (g_at ck_X11_best 40 rfl) rfl (g_ne kd_84) ?_
        refine tz_iload1 (n := 72) (g_at ck_X11_best 41 rfl) rfl ?_
        refine tz_cvI1 (n := 75) (μ' := μX11_homeIn) (cb' := 0) (sb' := 0) ml_X11_435 mo_X11_homeIn mv_X11_homeIn np_X11_homeIn kd_84 (g_at ck_X11_best 42 rfl) (mp_homeIn hL hR6 hW (((hM0.fr hD2.1 mDay_91).fr hD55.1 mDay_91).fr (Fr.rf.wr (L := [103]) (by decide)) (by decide)) (MT_row hT55 (by omega)) (WS_arm hW hσ (by omega) (by omega)) (by decide) hi0 (by rw [wr_ne (by decide), hD55.1 84 (by decide), hD2.1 84 (by decide)]; exact hz0)) rfl rfl rfl ⟨by decide, by decide⟩ (Nat.le_of_ble_eq_true rfl) (by decide) (by decide) (fun x72 ρ9 m72 hq => ?_)
        obtain ⟨rfl, hR7, hD72, hx72⟩ := hq
        have hf := homF_rg Λ hl tl (wr (sig0 s) 0 (17 + (i : Int)) (j : Int)) p
        have hDx := ((hD2.tr hD55).wr (a := 103) (k := 35 + (17 + (i : Int))) (v := (j : Int)) (by decide) fun _ => by omega).tr hD72
        refine tz_istore6 (n := 77) (g_at ck_X11_best 43 rfl) rfl (by decide) g_hpI ?_
        refine tz_iload6 (n := 79) (g_at ck_X11_best 44 rfl) rfl ?_
        refine tz_iload2 (n := 80) (g_at ck_X11_best 45 rfl) rfl ?_
        refine tz_icmp_lt (n := 83) (tgt := 86) (g_at ck_X11_best 46 rfl) rfl rfl (by have h1 := hmX_rg hf; have h2 := hmX_rg hb; rw [show hmX (homF Λ hl tl (wr (sig0 s) 0 (17 + (i : Int)) (j : Int)) p) = x72 from hx72] at h1; omega) (fun h80 => ?_) (fun h80 => ?_)
        · skip
          refine tz_bipush (n := 88) (g_at ck_X11_best 48 rfl) rfl rfl ?_
          refine tz_iload4 (n := 90) (g_at ck_X11_best 49 rfl) rfl ?_
          refine tz_imul (n := 91) (g_at ck_X11_best 50 rfl) rfl ?_
          refine tz_iload5 (n := 93) (g_at ck_X11_best 51 rfl) rfl ?_
          refine tz_iadd (n := 94) (g_at ck_X11_best 52 rfl) rfl ?_
          refine tz_istore3 (n := 95) (g_at ck_X11_best 53 rfl) rfl (by decide) g_hpI ?_
          refine tz_iload6 (n := 97) (g_at ck_X11_best 54 rfl) rfl ?_
          refine tz_istore2 (n := 98) (g_at ck_X11_best 55 rfl) rfl (by decide) g_hpI ?_
          refine tz_iinc5 (n := 101) (g_at ck_X11_best 56 rfl) rfl (by decide) g_hpI ?_
          refine tz_goto (tgt := 42) (g_at ck_X11_best 57 rfl) rfl ?_
          refine tz_drop6 ?_
          have e9 : bsR Λ hl tl s p (i : Int) (bsN Λ hl tl s p i) (j + 1) = ((bsF Λ hl tl s p (i : Int) (j : Int)), 10 * (i : Int) + (j : Int)) := bs_yes hle ((hmX_lt hf hb).mp (by rw [hx72]; exact h80))
          rw [e9] at ihj
          rw [← hx72]
          exact ihj _ ⟨hR7, hDx⟩
        · skip
          refine tz_goto (tgt := 98) (g_at ck_X11_best 47 rfl) rfl ?_
          refine tz_iinc5 (n := 101) (g_at ck_X11_best 56 rfl) rfl (by decide) g_hpI ?_
          refine tz_goto (tgt := 42) (g_at ck_X11_best 57 rfl) rfl ?_
          refine tz_drop6 ?_
          have e9 : bsR Λ hl tl s p (i : Int) (bsN Λ hl tl s p i) (j + 1) = (bsR Λ hl tl s p (i : Int) (bsN Λ hl tl s p i) j) := bs_no (fun h9 => absurd ((hmX_lt hf hb).mpr h9) (by rw [hx72]; omega))
          rw [e9] at ihj
          exact ihj _ ⟨hR7, hDx⟩
  · skip
    refine tz_iconst (n := 14) (g_at ck_X11_best 7 rfl) rfl ?_
    exact tz_iret (g_at ck_X11_best 8 rfl) rfl (rI_mk ⟨rfl, hR2, by rw [(hq7.no h10).2]; exact hk0.tr mK.w0, by rw [(hq7.no h10).2, wr_same], fun h9 => absurd h9 (by rw [show (0:Int) = 0 from rfl]; exact (hq7.no h10).1)⟩)
theorem mp_purse {l : Launch} {γ : Gh} {ρ m : Mm} {p : Int} (hp : -2147483648 ≤ p ∧ p < 2147483648) {s : Int → Int} {Λ : Mm} {hl tl : List Int} (hL : LY ρ) (hR : MR m) (hW : WL Λ) (hM : MLand m Λ hl tl) (hs : MRow m s) (hσ : WS Λ 0 (sig0 s)) (hz : m 84 51 = 0) : gE l γ μX11_purse 6 0 0 (rI KK fun x ρ9 m9 => ρ = ρ9 ∧ MR m9 ∧ mK m m9 ∧ m9 84 0 = cdP Λ p ∧ (cdP Λ p = 0 → isFN (fun k : Nat => homF Λ hl tl (wr (sig0 s) 0 (9 + p) (k : Int)) p ≤ 60) 100 x)) xN KK ρ m [vR 84, vI p] := by
  refine gE.ofw cl_X11.2 ?_ rfl rfl (Nat.le_of_ble_eq_true rfl)
  show gT l γ μX11_purse 6 0 0 _ _ KK ρ m 0 [some (vR 84), some (vI p), none] []
  have hn1 := hW.1
  have hn8 := hW.2.1
  refine tz_aload0 (n := 1) (g_at ck_X11_purse 0 rfl) rfl (g_ne kd_84) ?_
  refine tz_iconst (n := 2) (g_at ck_X11_purse 1 rfl) rfl ?_
  refine tz_putIr (n := 5) (kz := 0) fk_X11_132 kd_84 (g_at ck_X11_purse 2 rfl) rfl hR ⟨(by decide), (by decide)⟩ rfl (fun hR1 => ?_)
  obtain ⟨m0, e0⟩ : ∃ m0, m0 = wr m 84 0 0 := ⟨_, rfl⟩
  rw [← e0] at hR1 ⊢
  have hk0 : mK m m0 := by rw [e0]; exact mK.w0
  have hM0 := hk0.land hM
  have hs0 := hk0.row hs
  have hz0 : m0 84 51 = 0 := hk0.w51.trans hz
  have h00 : m0 84 0 = 0 := by rw [e0, wr_same]
  have hw0 := hw_0 hz0
  refine tz_aload0 (n := 6) (g_at ck_X11_purse 3 rfl) rfl (g_ne kd_84) ?_
  refine tz_iload1 (n := 7) (g_at ck_X11_purse 4 rfl) rfl ?_
  refine tz_cvI1 (n := 10) (μ' := μX11_isPerson) (cb' := 0) (sb' := 0) ml_X11_405 mo_X11_isPerson mv_X11_isPerson np_X11_isPerson kd_84 (g_at ck_X11_purse 5 rfl) (mp_isPerson hp hL hR1 hW hM0 h00) rfl rfl rfl ⟨by decide, by decide⟩ (Nat.le_of_ble_eq_true rfl) (by decide) (by decide) (fun x7 ρ9 m7 hq => ?_)
  obtain ⟨rfl, hR2, hq7⟩ := hq
  refine tz_if_ne (n := 13) (tgt := 15) (g_at ck_X11_purse 6 rfl) rfl rfl (by rcases hq7.b01 with h9 | h9 <;> omega) (fun h10 => ?_) (fun h10 => ?_)
  · skip
    obtain ⟨hc0, rfl⟩ := hq7.ok h10
    have hi0 := cdP_i hc0
    refine tz_iconst (n := 16) (g_at ck_X11_purse 9 rfl) rfl ?_
    refine tz_istore2 (n := 17) (g_at ck_X11_purse 10 rfl) rfl (by decide) g_hpI ?_
    refine g_for (fun i : Nat => ∀ m1 : Mm, (MR m1 ∧ FD 35 m0 m1 ∧ ∀ j : Nat, j < i → ¬ (fun k : Nat => homF Λ hl tl (wr (sig0 s) 0 (9 + p) (k : Int)) p ≤ 60) j) → gT l γ μX11_purse 6 0 0 _ _ KK ρ m1 17 [some (vR 84), some (vI p), some (vI (i : Int))] []) 100 ?_ (fun i hi ihi => ?_) 0 (Nat.zero_le _) _ ⟨hR2, FD.rf, fun j h9 => absurd h9 (Nat.not_lt_zero _)⟩
    · intro m1 hinv
      obtain ⟨hRi, hDi, hno⟩ := hinv
      refine tz_iload2 (n := 18) (g_at ck_X11_purse 11 rfl) rfl ?_
      refine tz_bipush (n := 20) (g_at ck_X11_purse 12 rfl) rfl rfl ?_
      refine tz_icmp_ge (n := 23) (tgt := 56) (g_at ck_X11_purse 13 rfl) rfl rfl ⟨(by omega), (by omega), (by decide), (by decide)⟩ (fun h20 => ?_) (fun h20 => absurd h20 (by omega))
      refine tz_iconst (n := 57) (g_at ck_X11_purse 32 rfl) rfl ?_
      exact tz_iret (g_at ck_X11_purse 33 rfl) rfl (rI_mk ⟨rfl, hRi, hk0.tr (mK.fd hDi), by rw [hDi.1 84 (by decide), h00, hc0], fun _ => Or.inl ⟨rfl, hno⟩⟩)
    · intro m1 hinv
      obtain ⟨hRi, hDi, hno⟩ := hinv
      refine tz_iload2 (n := 18) (g_at ck_X11_purse 11 rfl) rfl ?_
      refine tz_bipush (n := 20) (g_at ck_X11_purse 12 rfl) rfl rfl ?_
      refine tz_icmp_ge (n := 23) (tgt := 56) (g_at ck_X11_purse 13 rfl) rfl rfl ⟨(by omega), (by omega), (by decide), (by decide)⟩ (fun h20 => absurd h20 (by omega)) (fun h20 => ?_)
      refine tz_aload0 (n := 24) (g_at ck_X11_purse 14 rfl) rfl (g_ne kd_84) ?_
      refine tz_cvV0 (n := 27) (μ' := μX11_tries) (cb' := 0) (sb' := 0) ml_X11_356 mo_X11_tries mv_X11_tries np_X11_tries kd_84 (g_at ck_X11_purse 15 rfl) (mp_tries (Λ := Λ) hL hRi ((mK.fd hDi).row hs0)) rfl rfl rfl ⟨by decide, by decide⟩ (Nat.le_of_ble_eq_true rfl) (by decide) (by decide) (fun ρ9 m24 hq => ?_)
      obtain ⟨rfl, hR3, hT24, hD24⟩ := hq
      refine tz_aload0 (n := 28) (g_at ck_X11_purse 16 rfl) rfl (g_ne kd_84) ?_
      refine tz_getAv (n := 31) (a := 103) fk_X11_75 kd_84 (ly_84_43 hL) (g_at ck_X11_purse 17 rfl) rfl ?_
      refine tz_bipush (n := 33) (g_at ck_X11_purse 18 rfl) rfl rfl ?_
      refine tz_iload1 (n := 34) (g_at ck_X11_purse 19 rfl) rfl ?_
      refine tz_iadd (n := 35) (g_at ck_X11_purse 20 rfl) rfl ?_
      rw [show 44 + p = 35 + (9 + p) by omega]
      refine tz_iload2 (n := 36) (g_at ck_X11_purse 21 rfl) rfl ?_
      refine tz_iastr (n := 37) kd_103 (by omega) (g_at ck_X11_purse 22 rfl) rfl hR3 (by omega) (fun hR4 => ?_)
      refine tz_aload0 (n := 38) (g_at ck_X11_purse 23 rfl) rfl (g_ne kd_84) ?_
      refine tz_iload1 (n := 39) (g_at ck_X11_purse 24 rfl) rfl ?_
      refine tz_cvI1 (n := 42) (μ' := μX11_homeIn) (cb' := 0) (sb' := 0) ml_X11_435 mo_X11_homeIn mv_X11_homeIn np_X11_homeIn kd_84 (g_at ck_X11_purse 25 rfl) (mp_homeIn hL hR4 hW (((hM0.fr hDi.1 mDay_91).fr hD24.1 mDay_91).fr (Fr.rf.wr (L := [103]) (by decide)) (by decide)) (MT_row hT24 (by omega)) (WS_pur hW hσ hi0 (by omega)) (by decide) hi0 (by rw [wr_ne (by decide), hD24.1 84 (by decide), hDi.1 84 (by decide)]; exact hz0)) rfl rfl rfl ⟨by decide, by decide⟩ (Nat.le_of_ble_eq_true rfl) (by decide) (by decide) (fun x39 ρ9 m39 hq => ?_)
      obtain ⟨rfl, hR5, hD39, hx39⟩ := hq
      have hf := homF_rg Λ hl tl (wr (sig0 s) 0 (9 + p) (i : Int)) p
      have hDx := ((hDi.tr hD24).wr (a := 103) (k := 35 + (9 + p)) (v := (i : Int)) (by decide) fun _ => by omega).tr hD39
      have hfr := hmX_rg hf
      have hfi := hmX_i hf
      rw [hx39] at hfr hfi
      refine tz_sipush (n := 45) (g_at ck_X11_purse 26 rfl) rfl rfl ?_
      refine tz_icmp_ge (n := 48) (tgt := 50) (g_at ck_X11_purse 27 rfl) rfl rfl (by omega) (fun h45 => ?_) (fun h45 => ?_)
      · skip
        refine tz_iinc2 (n := 53) (g_at ck_X11_purse 30 rfl) rfl (by decide) g_hpI ?_
        refine tz_goto (tgt := 17) (g_at ck_X11_purse 31 rfl) rfl ?_
        exact ihi _ ⟨hR5, hDx, no_step hno (fun h9 => absurd (hfi.mpr h9) (by omega))⟩
      · skip
        refine tz_iload2 (n := 49) (g_at ck_X11_purse 28 rfl) rfl ?_
        exact tz_iret (g_at ck_X11_purse 29 rfl) rfl (rI_mk ⟨rfl, hR5, hk0.tr (mK.fd hDx), by rw [hDx.1 84 (by decide), h00, hc0], fun _ => Or.inr ⟨i, rfl, by omega, hfi.mp (by omega), hno⟩⟩)
  · skip
    refine tz_iconst (n := 14) (g_at ck_X11_purse 7 rfl) rfl ?_
    exact tz_iret (g_at ck_X11_purse 8 rfl) rfl (rI_mk ⟨rfl, hR2, by rw [(hq7.no h10).2]; exact hk0.tr mK.w0, by rw [(hq7.no h10).2, wr_same], fun h9 => absurd h9 (by rw [show (0:Int) = 0 from rfl]; exact (hq7.no h10).1)⟩)
theorem cf_no {B : Int → Int → Int} {c r : Int} {q : Int × Int} (h : B c r = 0) : cfS B c r q = q := if_pos h
theorem cfR_i {B : Int → Int → Int} {c : Int} {q : Int × Int} (hc : 0 ≤ c) (h : 0 ≤ q.1 ∧ (q.1 = 0 ↔ q.2 = -1) ∧ -1 ≤ q.2) : ∀ n : Nat, 0 ≤ (cfR B c q n).1 ∧ ((cfR B c q n).1 = 0 ↔ (cfR B c q n).2 = -1) ∧ -1 ≤ (cfR B c q n).2
  | 0 => h
  | n + 1 => cf_i (q := cfR B c q n) hc (Int.natCast_nonneg n) (cfR_i hc h n)
theorem cfN_i {Λ : Mm} {B : Int → Int → Int} : ∀ n : Nat, 0 ≤ (cfN Λ B n).1 ∧ ((cfN Λ B n).1 = 0 ↔ (cfN Λ B n).2 = -1) ∧ -1 ≤ (cfN Λ B n).2
  | 0 => ⟨Int.le_refl 0, ⟨fun _ => rfl, fun _ => rfl⟩, Int.le_refl _⟩
  | n + 1 => cfR_i (Int.natCast_nonneg n) (cfN_i n) _
theorem cfR_up {B : Int → Int → Int} {c : Int} {q : Int × Int} {k : Int} (h : q.1 ≤ k ∧ q.2 ≤ 94) (hc : c ≤ 8) : ∀ n : Nat, n ≤ 5 → (cfR B c q n).1 ≤ k + n ∧ (cfR B c q n).2 ≤ 94
  | 0, _ => by show q.1 ≤ k + ((0 : Nat) : Int) ∧ q.2 ≤ 94; omega
  | n + 1, hn => by
    have ih := cfR_up (B := B) h hc n (by omega)
    show (cfS B c (n : Int) (cfR B c q n)).1 ≤ k + ((n + 1 : Nat) : Int) ∧ (cfS B c (n : Int) (cfR B c q n)).2 ≤ 94
    unfold cfS
    split
    · omega
    · refine ⟨by show (cfR B c q n).1 + 1 ≤ _; omega, ?_⟩
      show (if (cfR B c q n).1 = 0 then 10 * c + (n : Int) else (cfR B c q n).2) ≤ 94
      split <;> omega
theorem cfN_up {Λ : Mm} {B : Int → Int → Int} (hW : WL Λ) : ∀ n : Nat, n ≤ (Λ 0 0).toNat → (cfN Λ B n).1 ≤ 5 * n ∧ (cfN Λ B n).2 ≤ 94
  | 0, _ => by show (0 : Int) ≤ 5 * ((0 : Nat) : Int) ∧ (-1 : Int) ≤ 94; omega
  | n + 1, h => by
    have h0 := hW.1
    have ih := cfN_up (B := B) hW n (by omega)
    have hn := hW.2.2.1 (n : Int) (by omega) (by omega)
    have h1 := cfR_up (B := B) (c := (n : Int)) (k := 5 * (n : Int)) ih (by omega) (Λ 3 (n : Int)).toNat (by omega)
    show (cfR B (n : Int) (cfN Λ B n) (Λ 3 (n : Int)).toNat).1 ≤ 5 * ((n + 1 : Nat) : Int) ∧ (cfR B (n : Int) (cfN Λ B n) (Λ 3 (n : Int)).toNat).2 ≤ 94
    omega
theorem mp_cuts {l : Launch} {γ : Gh} {ρ m : Mm} {p w : Int} (hp : -2147483648 ≤ p ∧ p < 2147483648) (hw : -2147483648 ≤ w ∧ w < 2147483648) {s : Int → Int} {Λ : Mm} {hl tl : List Int} (hL : LY ρ) (hR : MR m) (hW : WL Λ) (hM : MLand m Λ hl tl) (hs : MRow m s) (hσ : WS Λ 0 (sig0 s)) (hz : m 84 51 = 0) : gE l γ μX11_cuts 6 0 0 (rI KK fun x ρ9 m9 => ρ = ρ9 ∧ MR m9 ∧ mK m m9 ∧ m9 84 0 = sq (cdP Λ p) (cdW w 1) ∧ (sq (cdP Λ p) (cdW w 1) = 0 → (if w = 0 then (if homF Λ hl tl (sig0 s) p ≤ 60 then cfN Λ (ctB Λ hl tl s p) (Λ 0 0).toNat else (0, -1)).1 else (if homF Λ hl tl (sig0 s) p ≤ 60 then cfN Λ (ctB Λ hl tl s p) (Λ 0 0).toNat else (0, -1)).2) = x)) xN KK ρ m [vR 84, vI p, vI w] := by
  refine gE.ofw cl_X11.2 ?_ rfl rfl (Nat.le_of_ble_eq_true rfl)
  show gT l γ μX11_cuts 6 0 0 _ _ KK ρ m 0 [some (vR 84), some (vI p), some (vI w), none, none, none, none, none] []
  have hn1 := hW.1
  have hn8 := hW.2.1
  refine tz_aload0 (n := 1) (g_at ck_X11_cuts 0 rfl) rfl (g_ne kd_84) ?_
  refine tz_iconst (n := 2) (g_at ck_X11_cuts 1 rfl) rfl ?_
  refine tz_putIr (n := 5) (kz := 0) fk_X11_132 kd_84 (g_at ck_X11_cuts 2 rfl) rfl hR ⟨(by decide), (by decide)⟩ rfl (fun hR1 => ?_)
  obtain ⟨m0, e0⟩ : ∃ m0, m0 = wr m 84 0 0 := ⟨_, rfl⟩
  rw [← e0] at hR1 ⊢
  have hk0 : mK m m0 := by rw [e0]; exact mK.w0
  have hM0 := hk0.land hM
  have hs0 := hk0.row hs
  have hz0 : m0 84 51 = 0 := hk0.w51.trans hz
  have h00 : m0 84 0 = 0 := by rw [e0, wr_same]
  have hw0 := hw_0 hz0
  refine tz_aload0 (n := 6) (g_at ck_X11_cuts 3 rfl) rfl (g_ne kd_84) ?_
  refine tz_iload1 (n := 7) (g_at ck_X11_cuts 4 rfl) rfl ?_
  refine tz_cvI1 (n := 10) (μ' := μX11_isPerson) (cb' := 0) (sb' := 0) ml_X11_405 mo_X11_isPerson mv_X11_isPerson np_X11_isPerson kd_84 (g_at ck_X11_cuts 5 rfl) (mp_isPerson hp hL hR1 hW hM0 h00) rfl rfl rfl ⟨by decide, by decide⟩ (Nat.le_of_ble_eq_true rfl) (by decide) (by decide) (fun x7 ρ9 m7 hq => ?_)
  obtain ⟨rfl, hR2, hq7⟩ := hq
  refine tz_if_eq (n := 13) (tgt := 22) (g_at ck_X11_cuts 6 rfl) rfl rfl (by rcases hq7.b01 with h9 | h9 <;> omega) (fun h10 => ?_) (fun h10 => ?_)
  · skip
    refine tz_iconst (n := 23) (g_at ck_X11_cuts 12 rfl) rfl ?_
    exact tz_iret (g_at ck_X11_cuts 13 rfl) rfl (rI_mk ⟨rfl, hR2, by rw [(hq7.no h10).2]; exact hk0.tr mK.w0, by rw [(hq7.no h10).2, wr_same, sqn (hq7.no h10).1], fun h9 => absurd h9 (by rw [sqn (hq7.no h10).1]; exact (hq7.no h10).1)⟩)
  · skip
    obtain ⟨hc0, rfl⟩ := hq7.ok h10
    have hi0 := cdP_i hc0
    refine tz_aload0 (n := 14) (g_at ck_X11_cuts 7 rfl) rfl (g_ne kd_84) ?_
    refine tz_iload2 (n := 15) (g_at ck_X11_cuts 8 rfl) rfl ?_
    refine tz_iconst (n := 16) (g_at ck_X11_cuts 9 rfl) rfl ?_
    refine tz_cvI2 (n := 19) (μ' := μX11_isWhat) (cb' := 0) (sb' := 0) ml_X11_396 mo_X11_isWhat mv_X11_isWhat np_X11_isWhat kd_84 (g_at ck_X11_cuts 10 rfl) (mp_isWhat hw (by decide) hL hR2 h00) rfl rfl rfl ⟨by decide, by decide⟩ (Nat.le_of_ble_eq_true rfl) (by decide) (by decide) (fun x16 ρ9 m16 hq => ?_)
    obtain ⟨rfl, hR3, hq16⟩ := hq
    refine tz_if_ne (n := 22) (tgt := 24) (g_at ck_X11_cuts 11 rfl) rfl rfl (by rcases hq16.b01 with h9 | h9 <;> omega) (fun h19 => ?_) (fun h19 => ?_)
    · skip
      obtain ⟨hc1, rfl⟩ := hq16.ok h19
      have hi1 := cdW_i hc1
      refine tz_aload0 (n := 25) (g_at ck_X11_cuts 14 rfl) rfl (g_ne kd_84) ?_
      refine tz_cvV0 (n := 28) (μ' := μX11_tries) (cb' := 0) (sb' := 0) ml_X11_356 mo_X11_tries mv_X11_tries np_X11_tries kd_84 (g_at ck_X11_cuts 15 rfl) (mp_tries (Λ := Λ) hL hR3 hs0) rfl rfl rfl ⟨by decide, by decide⟩ (Nat.le_of_ble_eq_true rfl) (by decide) (by decide) (fun ρ9 m25 hq => ?_)
      obtain ⟨rfl, hR4, hT25, hD25⟩ := hq
      refine tz_aload0 (n := 29) (g_at ck_X11_cuts 16 rfl) rfl (g_ne kd_84) ?_
      refine tz_iload1 (n := 30) (g_at ck_X11_cuts 17 rfl) rfl ?_
      refine tz_cvI1 (n := 33) (μ' := μX11_homeIn) (cb' := 0) (sb' := 0) ml_X11_435 mo_X11_homeIn mv_X11_homeIn np_X11_homeIn kd_84 (g_at ck_X11_cuts 18 rfl) (mp_homeIn hL hR4 hW (hM0.fr hD25.1 mDay_91) hT25 hσ (by decide) hi0 (by rw [hD25.1 84 (by decide)]; exact hz0)) rfl rfl rfl ⟨by decide, by decide⟩ (Nat.le_of_ble_eq_true rfl) (by decide) (by decide) (fun x30 ρ9 m30 hq => ?_)
      obtain ⟨rfl, hR5, hD30, hx30⟩ := hq
      have hf0 := homF_rg Λ hl tl (sig0 s) p
      have hfr0 := hmX_rg hf0
      have hfi0 := hmX_i hf0
      rw [hx30] at hfr0 hfi0
      refine tz_sipush (n := 36) (g_at ck_X11_cuts 19 rfl) rfl rfl ?_
      refine tz_icmp_ge (n := 39) (tgt := 43) (g_at ck_X11_cuts 20 rfl) rfl rfl (by omega) (fun h36 => ?_) (fun h36 => ?_)
      · skip
        refine tz_iconst (n := 44) (g_at ck_X11_cuts 23 rfl) rfl ?_
        refine tz_istore3 (n := 45) (g_at ck_X11_cuts 24 rfl) rfl (by decide) g_hpI ?_
        refine tz_iconst (n := 46) (g_at ck_X11_cuts 25 rfl) rfl ?_
        refine tz_istore4 (n := 48) (g_at ck_X11_cuts 26 rfl) rfl (by decide) g_hpI ?_
        refine tz_iconst (n := 49) (g_at ck_X11_cuts 27 rfl) rfl ?_
        refine tz_istore5 (n := 51) (g_at ck_X11_cuts 28 rfl) rfl (by decide) g_hpI ?_
        refine tz_iconst (n := 52) (g_at ck_X11_cuts 29 rfl) rfl ?_
        refine tz_istore6 (n := 54) (g_at ck_X11_cuts 30 rfl) rfl (by decide) g_hpI ?_
        refine tz_iload6 (n := 56) (g_at ck_X11_cuts 31 rfl) rfl ?_
        refine tz_aload0 (n := 57) (g_at ck_X11_cuts 32 rfl) rfl (g_ne kd_84) ?_
        refine tz_getIw (n := 60) (kz := 1) fk_X11_302 kd_84 (g_at ck_X11_cuts 33 rfl) rfl rfl ?_
        rw [(hD25.tr hD30).1 84 (by decide), hM0.1]
        refine tz_icmp_ge (n := 63) (tgt := 163) (g_at ck_X11_cuts 34 rfl) rfl rfl (by omega) (fun h60 => ?_) (fun h60 => ?_)
        · skip
          refine tz_iload2 (n := 164) (g_at ck_X11_cuts 86 rfl) rfl ?_
          refine tz_if_ne (n := 167) (tgt := 172) (g_at ck_X11_cuts 87 rfl) rfl rfl hw (fun h164 => ?_) (fun h164 => ?_)
          · skip
            refine tz_iload5 (n := 174) (g_at ck_X11_cuts 90 rfl) rfl ?_
            exact tz_iret (g_at ck_X11_cuts 91 rfl) rfl (rI_mk ⟨rfl, hR5, hk0.tr (mK.fd (hD25.tr hD30)), by rw [(hD25.tr hD30).1 84 (by decide), h00, hc0, hc1]; rfl, fun _ => by rw [if_neg h164, if_neg (fun h9 => absurd (hfi0.mpr h9) (by omega))]⟩)
          · skip
            refine tz_iload4 (n := 169) (g_at ck_X11_cuts 88 rfl) rfl ?_
            refine tz_goto (tgt := 174) (g_at ck_X11_cuts 89 rfl) rfl ?_
            exact tz_iret (g_at ck_X11_cuts 91 rfl) rfl (rI_mk ⟨rfl, hR5, hk0.tr (mK.fd (hD25.tr hD30)), by rw [(hD25.tr hD30).1 84 (by decide), h00, hc0, hc1]; rfl, fun _ => by rw [if_pos h164, if_neg (fun h9 => absurd (hfi0.mpr h9) (by omega))]⟩)
        · skip
          refine tz_iload3 (n := 64) (g_at ck_X11_cuts 35 rfl) rfl ?_
          refine tz_if_eq (n := 67) (tgt := 163) (g_at ck_X11_cuts 36 rfl) rfl rfl (by decide) (fun h64 => ?_) (fun h64 => absurd h64 (by omega))
          refine tz_iload2 (n := 164) (g_at ck_X11_cuts 86 rfl) rfl ?_
          refine tz_if_ne (n := 167) (tgt := 172) (g_at ck_X11_cuts 87 rfl) rfl rfl hw (fun h164 => ?_) (fun h164 => ?_)
          · skip
            refine tz_iload5 (n := 174) (g_at ck_X11_cuts 90 rfl) rfl ?_
            exact tz_iret (g_at ck_X11_cuts 91 rfl) rfl (rI_mk ⟨rfl, hR5, hk0.tr (mK.fd (hD25.tr hD30)), by rw [(hD25.tr hD30).1 84 (by decide), h00, hc0, hc1]; rfl, fun _ => by rw [if_neg h164, if_neg (fun h9 => absurd (hfi0.mpr h9) (by omega))]⟩)
          · skip
            refine tz_iload4 (n := 169) (g_at ck_X11_cuts 88 rfl) rfl ?_
            refine tz_goto (tgt := 174) (g_at ck_X11_cuts 89 rfl) rfl ?_
            exact tz_iret (g_at ck_X11_cuts 91 rfl) rfl (rI_mk ⟨rfl, hR5, hk0.tr (mK.fd (hD25.tr hD30)), by rw [(hD25.tr hD30).1 84 (by decide), h00, hc0, hc1]; rfl, fun _ => by rw [if_pos h164, if_neg (fun h9 => absurd (hfi0.mpr h9) (by omega))]⟩)
      · skip
        refine tz_iconst (n := 40) (g_at ck_X11_cuts 21 rfl) rfl ?_
        refine tz_goto (tgt := 44) (g_at ck_X11_cuts 22 rfl) rfl ?_
        refine tz_istore3 (n := 45) (g_at ck_X11_cuts 24 rfl) rfl (by decide) g_hpI ?_
        refine tz_iconst (n := 46) (g_at ck_X11_cuts 25 rfl) rfl ?_
        refine tz_istore4 (n := 48) (g_at ck_X11_cuts 26 rfl) rfl (by decide) g_hpI ?_
        refine tz_iconst (n := 49) (g_at ck_X11_cuts 27 rfl) rfl ?_
        refine tz_istore5 (n := 51) (g_at ck_X11_cuts 28 rfl) rfl (by decide) g_hpI ?_
        refine tz_iconst (n := 52) (g_at ck_X11_cuts 29 rfl) rfl ?_
        refine tz_istore6 (n := 54) (g_at ck_X11_cuts 30 rfl) rfl (by decide) g_hpI ?_
        refine g_for (fun i : Nat => ∀ m1 : Mm, (MR m1 ∧ FD 35 m0 m1) → gT l γ μX11_cuts 6 0 0 _ _ KK ρ m1 54 [some (vR 84), some (vI p), some (vI w), some (vI 1), some (vI (cfN Λ (ctB Λ hl tl s p) i).1), some (vI (cfN Λ (ctB Λ hl tl s p) i).2), some (vI (i : Int)), none] []) (Λ 0 0).toNat ?_ (fun i hi ihi => ?_) 0 (Nat.zero_le _) _ ⟨hR5, hD25.tr hD30⟩
        · intro m1 hinv
          obtain ⟨hRi, hDi⟩ := hinv
          have e84 : m1 84 = m0 84 := hDi.1 84 (by decide)
          have hN := hM0.1
          refine tz_iload6 (n := 56) (g_at ck_X11_cuts 31 rfl) rfl ?_
          refine tz_aload0 (n := 57) (g_at ck_X11_cuts 32 rfl) rfl (g_ne kd_84) ?_
          refine tz_getIw (n := 60) (kz := 1) fk_X11_302 kd_84 (g_at ck_X11_cuts 33 rfl) rfl rfl ?_
          rw [e84, hN]
          refine tz_icmp_ge (n := 63) (tgt := 163) (g_at ck_X11_cuts 34 rfl) rfl rfl (by omega) (fun h60 => ?_) (fun h60 => absurd h60 (by omega))
          refine tz_iload2 (n := 164) (g_at ck_X11_cuts 86 rfl) rfl ?_
          refine tz_if_ne (n := 167) (tgt := 172) (g_at ck_X11_cuts 87 rfl) rfl rfl hw (fun h164 => ?_) (fun h164 => ?_)
          · skip
            refine tz_iload5 (n := 174) (g_at ck_X11_cuts 90 rfl) rfl ?_
            exact tz_iret (g_at ck_X11_cuts 91 rfl) rfl (rI_mk ⟨rfl, hRi, hk0.tr (mK.fd hDi), by rw [hDi.1 84 (by decide), h00, hc0, hc1]; rfl, fun _ => by rw [if_neg h164, if_pos (hfi0.mp (by omega))]⟩)
          · skip
            refine tz_iload4 (n := 169) (g_at ck_X11_cuts 88 rfl) rfl ?_
            refine tz_goto (tgt := 174) (g_at ck_X11_cuts 89 rfl) rfl ?_
            exact tz_iret (g_at ck_X11_cuts 91 rfl) rfl (rI_mk ⟨rfl, hRi, hk0.tr (mK.fd hDi), by rw [hDi.1 84 (by decide), h00, hc0, hc1]; rfl, fun _ => by rw [if_pos h164, if_pos (hfi0.mp (by omega))]⟩)
        · intro m1 hinv
          obtain ⟨hRi, hDi⟩ := hinv
          have e84 : m1 84 = m0 84 := hDi.1 84 (by decide)
          have hN := hM0.1
          have hcw := hW.2.2.1 (i : Int) (by omega) (by omega)
          have hsc := sig0_WS_c hσ (c := (i : Int)) (by omega)
          refine tz_iload6 (n := 56) (g_at ck_X11_cuts 31 rfl) rfl ?_
          refine tz_aload0 (n := 57) (g_at ck_X11_cuts 32 rfl) rfl (g_ne kd_84) ?_
          refine tz_getIw (n := 60) (kz := 1) fk_X11_302 kd_84 (g_at ck_X11_cuts 33 rfl) rfl rfl ?_
          rw [e84, hN]
          refine tz_icmp_ge (n := 63) (tgt := 163) (g_at ck_X11_cuts 34 rfl) rfl rfl (by omega) (fun h60 => absurd h60 (by omega)) (fun h60 => ?_)
          refine tz_iload3 (n := 64) (g_at ck_X11_cuts 35 rfl) rfl ?_
          refine tz_if_eq (n := 67) (tgt := 163) (g_at ck_X11_cuts 36 rfl) rfl rfl (by decide) (fun h64 => absurd h64 (by omega)) (fun h64 => ?_)
          refine tz_iconst (n := 68) (g_at ck_X11_cuts 37 rfl) rfl ?_
          refine tz_istore7 (n := 70) (g_at ck_X11_cuts 38 rfl) rfl (by decide) g_hpI ?_
          refine g_for (fun j : Nat => ∀ m2 : Mm, (MR m2 ∧ FD 35 m0 m2) → gT l γ μX11_cuts 6 0 0 _ _ KK ρ m2 70 [some (vR 84), some (vI p), some (vI w), some (vI 1), some (vI (cfR (ctB Λ hl tl s p) (i : Int) (cfN Λ (ctB Λ hl tl s p) i) j).1), some (vI (cfR (ctB Λ hl tl s p) (i : Int) (cfN Λ (ctB Λ hl tl s p) i) j).2), some (vI (i : Int)), some (vI (j : Int))] []) (Λ 3 (i : Int)).toNat ?_ (fun j hj ihj => ?_) 0 (Nat.zero_le _) _ ⟨hRi, hDi⟩
          · intro m2 hinv
            obtain ⟨hR2, hD2⟩ := hinv
            have r87 : m2 87 (i : Int) = Λ 3 (i : Int) := ((hM0.fr hD2.1 mDay_91).2.2.1 (i : Int) (by omega) (by omega)).2.2
            refine tz_iload7 (n := 72) (g_at ck_X11_cuts 39 rfl) rfl ?_
            refine tz_aload0 (n := 73) (g_at ck_X11_cuts 40 rfl) rfl (g_ne kd_84) ?_
            refine tz_getAv (n := 76) (a := 87) fk_X11_23 kd_84 (ly_84_7 hL) (g_at ck_X11_cuts 41 rfl) rfl ?_
            refine tz_iload6 (n := 78) (g_at ck_X11_cuts 42 rfl) rfl ?_
            refine tz_iald (n := 79) kd_87 (by omega) (g_at ck_X11_cuts 43 rfl) rfl ?_
            rw [r87]
            refine tz_icmp_ge (n := 82) (tgt := 157) (g_at ck_X11_cuts 44 rfl) rfl rfl (by omega) (fun h79 => ?_) (fun h79 => absurd h79 (by omega))
            refine tz_iinc6 (n := 160) (g_at ck_X11_cuts 84 rfl) rfl (by decide) g_hpI ?_
            refine tz_goto (tgt := 54) (g_at ck_X11_cuts 85 rfl) rfl ?_
            refine tz_drop7 ?_
            exact ihi _ ⟨hR2, hD2⟩
          · intro m2 hinv
            obtain ⟨hR2, hD2⟩ := hinv
            have r87 : m2 87 (i : Int) = Λ 3 (i : Int) := ((hM0.fr hD2.1 mDay_91).2.2.1 (i : Int) (by omega) (by omega)).2.2
            have hci := cfR_i (B := (ctB Λ hl tl s p)) (c := (i : Int)) (by omega) (cfN_i (Λ := Λ) (B := (ctB Λ hl tl s p)) i) j
            have h01 := shutB_01 (s (26 + (i : Int))) (j : Int)
            have hcu := cfR_up (B := (ctB Λ hl tl s p)) (c := (i : Int)) (k := 5 * (i : Int)) (cfN_up (B := (ctB Λ hl tl s p)) hW i (by omega)) (by omega) j (by omega)
            refine tz_iload7 (n := 72) (g_at ck_X11_cuts 39 rfl) rfl ?_
            refine tz_aload0 (n := 73) (g_at ck_X11_cuts 40 rfl) rfl (g_ne kd_84) ?_
            refine tz_getAv (n := 76) (a := 87) fk_X11_23 kd_84 (ly_84_7 hL) (g_at ck_X11_cuts 41 rfl) rfl ?_
            refine tz_iload6 (n := 78) (g_at ck_X11_cuts 42 rfl) rfl ?_
            refine tz_iald (n := 79) kd_87 (by omega) (g_at ck_X11_cuts 43 rfl) rfl ?_
            rw [r87]
            refine tz_icmp_ge (n := 82) (tgt := 157) (g_at ck_X11_cuts 44 rfl) rfl rfl (by omega) (fun h79 => absurd h79 (by omega)) (fun h79 => ?_)
            refine tz_aload0 (n := 83) (g_at ck_X11_cuts 45 rfl) rfl (g_ne kd_84) ?_
            refine tz_iconst (n := 84) (g_at ck_X11_cuts 46 rfl) rfl ?_
            refine tz_iload6 (n := 86) (g_at ck_X11_cuts 47 rfl) rfl ?_
            refine tz_iload7 (n := 88) (g_at ck_X11_cuts 48 rfl) rfl ?_
            refine tz_cvI3 (n := 91) (μ' := μX11_isShut) (cb' := 0) (sb' := 0) ml_X11_338 mo_X11_isShut mv_X11_isShut np_X11_isShut kd_84 (g_at ck_X11_cuts 49 rfl) (mp_isShut hL hR2 (Or.inl rfl) (by omega)) rfl rfl rfl ⟨by decide, by decide⟩ (Nat.le_of_ble_eq_true rfl) (by decide) (by decide) (fun x88 ρ9 m88 hq => ?_)
            obtain ⟨rfl, hR6, rfl, rfl⟩ := hq
            rw [show (0 : Int) + 26 + (i : Int) = 26 + (i : Int) by omega, (mK.fd hD2).row hs0 (26 + (i : Int)) (by omega) (by omega)]
            refine tz_if_eq (n := 94) (tgt := 97) (g_at ck_X11_cuts 50 rfl) rfl rfl (by omega) (fun h91 => ?_) (fun h91 => ?_)
            · skip
              refine tz_aload0 (n := 98) (g_at ck_X11_cuts 52 rfl) rfl (g_ne kd_84) ?_
              refine tz_cvV0 (n := 101) (μ' := μX11_tries) (cb' := 0) (sb' := 0) ml_X11_356 mo_X11_tries mv_X11_tries np_X11_tries kd_84 (g_at ck_X11_cuts 53 rfl) (mp_tries (Λ := Λ) hL hR6 ((mK.fd hD2).row hs0)) rfl rfl rfl ⟨by decide, by decide⟩ (Nat.le_of_ble_eq_true rfl) (by decide) (by decide) (fun ρ9 m98 hq => ?_)
              obtain ⟨rfl, hR7, hT98, hD98⟩ := hq
              refine tz_aload0 (n := 102) (g_at ck_X11_cuts 54 rfl) rfl (g_ne kd_84) ?_
              refine tz_getAv (n := 105) (a := 103) fk_X11_75 kd_84 (ly_84_43 hL) (g_at ck_X11_cuts 55 rfl) rfl ?_
              refine tz_bipush (n := 107) (g_at ck_X11_cuts 56 rfl) rfl rfl ?_
              refine tz_iload6 (n := 109) (g_at ck_X11_cuts 57 rfl) rfl ?_
              refine tz_iadd (n := 110) (g_at ck_X11_cuts 58 rfl) rfl ?_
              rw [show 61 + (i : Int) = 35 + (26 + (i : Int)) by omega]
              refine tz_dup2 (n := 111) (g_at ck_X11_cuts 59 rfl) rfl ?_
              refine tz_iald (n := 112) kd_103 (by omega) (g_at ck_X11_cuts 60 rfl) rfl ?_
              rw [hT98.1 (26 + (i : Int)) (by omega) (by omega), show sig0 s 0 (26 + (i : Int)) = s (26 + (i : Int)) from rfl]
              refine tz_iconst (n := 113) (g_at ck_X11_cuts 61 rfl) rfl ?_
              refine tz_iload7 (n := 115) (g_at ck_X11_cuts 62 rfl) rfl ?_
              refine tz_ishl (n := 116) (g_at ck_X11_cuts 63 rfl) rfl ?_
              refine tz_iadd (n := 117) (g_at ck_X11_cuts 64 rfl) rfl ?_
              rw [bOr_ad (by omega) (by omega) (by omega)]
              refine tz_iastr (n := 118) kd_103 (by omega) (g_at ck_X11_cuts 65 rfl) rfl hR7 (by have := bOr_sh (x := s (26 + (i : Int))) (r := (j : Int)) (by omega) (by omega); omega) (fun hR8 => ?_)
              refine tz_aload0 (n := 119) (g_at ck_X11_cuts 66 rfl) rfl (g_ne kd_84) ?_
              refine tz_iload1 (n := 120) (g_at ck_X11_cuts 67 rfl) rfl ?_
              refine tz_cvI1 (n := 123) (μ' := μX11_homeIn) (cb' := 0) (sb' := 0) ml_X11_435 mo_X11_homeIn mv_X11_homeIn np_X11_homeIn kd_84 (g_at ck_X11_cuts 68 rfl) (mp_homeIn hL hR8 hW (((hM0.fr hD2.1 mDay_91).fr hD98.1 mDay_91).fr (Fr.rf.wr (L := [103]) (by decide)) (by decide)) (MT_row hT98 (by omega)) (WS_sht hW hσ (by omega) (bOr_sh (by omega) (by omega))) (by decide) hi0 (by rw [wr_ne (by decide), hD98.1 84 (by decide), hD2.1 84 (by decide)]; exact hz0)) rfl rfl rfl ⟨by decide, by decide⟩ (Nat.le_of_ble_eq_true rfl) (by decide) (by decide) (fun x120 ρ9 m120 hq => ?_)
              obtain ⟨rfl, hR9, hD120, hx120⟩ := hq
              have hf := homF_rg Λ hl tl (wr (sig0 s) 0 (26 + (i : Int)) (bOr (s (26 + (i : Int))) (bShl 1 (j : Int)))) p
              have hDx := ((hD2.tr hD98).wr (a := 103) (k := 35 + (26 + (i : Int))) (v := bOr (s (26 + (i : Int))) (bShl 1 (j : Int))) (by decide) fun _ => by omega).tr hD120
              have hfr := hmX_rg hf
              have hfi := hmX_i hf
              rw [hx120] at hfr hfi
              refine tz_sipush (n := 126) (g_at ck_X11_cuts 69 rfl) rfl rfl ?_
              refine tz_icmp_ge (n := 129) (tgt := 132) (g_at ck_X11_cuts 70 rfl) rfl rfl (by omega) (fun h126 => ?_) (fun h126 => ?_)
              · skip
                refine tz_iinc4 (n := 135) (g_at ck_X11_cuts 72 rfl) rfl (by decide) g_hpI ?_
                refine tz_iload5 (n := 137) (g_at ck_X11_cuts 73 rfl) rfl ?_
                refine tz_iconst (n := 138) (g_at ck_X11_cuts 74 rfl) rfl ?_
                refine tz_icmp_ne (n := 141) (tgt := 151) (g_at ck_X11_cuts 75 rfl) rfl rfl (by omega) (fun h138 => ?_) (fun h138 => ?_)
                · skip
                  refine tz_iinc7 (n := 154) (g_at ck_X11_cuts 82 rfl) rfl (by decide) g_hpI ?_
                  refine tz_goto (tgt := 70) (g_at ck_X11_cuts 83 rfl) rfl ?_
                  have eB : ctB Λ hl tl s p (i : Int) (j : Int) = 1 := (if_neg (show ¬ shutB (s (26 + (i : Int))) (j : Int) = 1 by omega)).trans (if_neg fun h9 => absurd (hfi.mpr h9) (by omega))
                  have eB0 : ¬ ctB Λ hl tl s p (i : Int) (j : Int) = 0 := by rw [eB]; decide
                  have e9 : cfR (ctB Λ hl tl s p) (i : Int) (cfN Λ (ctB Λ hl tl s p) i) (j + 1) = ((cfR (ctB Λ hl tl s p) (i : Int) (cfN Λ (ctB Λ hl tl s p) i) j).1 + 1, (cfR (ctB Λ hl tl s p) (i : Int) (cfN Λ (ctB Λ hl tl s p) i) j).2) := cfS_2 eB0 (fun h9 => h138 (hci.2.1.mp h9))
                  rw [e9] at ihj
                  exact ihj _ ⟨hR9, hDx⟩
                · skip
                  refine tz_bipush (n := 143) (g_at ck_X11_cuts 76 rfl) rfl rfl ?_
                  refine tz_iload6 (n := 145) (g_at ck_X11_cuts 77 rfl) rfl ?_
                  refine tz_imul (n := 146) (g_at ck_X11_cuts 78 rfl) rfl ?_
                  refine tz_iload7 (n := 148) (g_at ck_X11_cuts 79 rfl) rfl ?_
                  refine tz_iadd (n := 149) (g_at ck_X11_cuts 80 rfl) rfl ?_
                  refine tz_istore5 (n := 151) (g_at ck_X11_cuts 81 rfl) rfl (by decide) g_hpI ?_
                  refine tz_iinc7 (n := 154) (g_at ck_X11_cuts 82 rfl) rfl (by decide) g_hpI ?_
                  refine tz_goto (tgt := 70) (g_at ck_X11_cuts 83 rfl) rfl ?_
                  have eB : ctB Λ hl tl s p (i : Int) (j : Int) = 1 := (if_neg (show ¬ shutB (s (26 + (i : Int))) (j : Int) = 1 by omega)).trans (if_neg fun h9 => absurd (hfi.mpr h9) (by omega))
                  have eB0 : ¬ ctB Λ hl tl s p (i : Int) (j : Int) = 0 := by rw [eB]; decide
                  have e9 : cfR (ctB Λ hl tl s p) (i : Int) (cfN Λ (ctB Λ hl tl s p) i) (j + 1) = ((cfR (ctB Λ hl tl s p) (i : Int) (cfN Λ (ctB Λ hl tl s p) i) j).1 + 1, 10 * (i : Int) + (j : Int)) := cfS_1 eB0 (hci.2.1.mpr h138)
                  rw [e9] at ihj
                  exact ihj _ ⟨hR9, hDx⟩
              · skip
                refine tz_goto (tgt := 151) (g_at ck_X11_cuts 71 rfl) rfl ?_
                refine tz_iinc7 (n := 154) (g_at ck_X11_cuts 82 rfl) rfl (by decide) g_hpI ?_
                refine tz_goto (tgt := 70) (g_at ck_X11_cuts 83 rfl) rfl ?_
                have e9 : cfR (ctB Λ hl tl s p) (i : Int) (cfN Λ (ctB Λ hl tl s p) i) (j + 1) = (cfR (ctB Λ hl tl s p) (i : Int) (cfN Λ (ctB Λ hl tl s p) i) j) := cf_no (show ctB Λ hl tl s p (i : Int) (j : Int) = 0 from (if_neg (show ¬ shutB (s (26 + (i : Int))) (j : Int) = 1 by omega)).trans (if_pos (hfi.mp (by omega))))
                rw [e9] at ihj
                exact ihj _ ⟨hR9, hDx⟩
            · skip
              refine tz_goto (tgt := 151) (g_at ck_X11_cuts 51 rfl) rfl ?_
              refine tz_iinc7 (n := 154) (g_at ck_X11_cuts 82 rfl) rfl (by decide) g_hpI ?_
              refine tz_goto (tgt := 70) (g_at ck_X11_cuts 83 rfl) rfl ?_
              have e9 : cfR (ctB Λ hl tl s p) (i : Int) (cfN Λ (ctB Λ hl tl s p) i) (j + 1) = (cfR (ctB Λ hl tl s p) (i : Int) (cfN Λ (ctB Λ hl tl s p) i) j) := cf_no (show ctB Λ hl tl s p (i : Int) (j : Int) = 0 from if_pos (by omega))
              rw [e9] at ihj
              exact ihj _ ⟨hR6, hD2⟩
    · skip
      refine tz_iconst (n := 23) (g_at ck_X11_cuts 12 rfl) rfl ?_
      exact tz_iret (g_at ck_X11_cuts 13 rfl) rfl (rI_mk ⟨rfl, hR3, by rw [(hq16.no h19).2]; exact hk0.tr mK.w0, by rw [(hq16.no h19).2, wr_same, hc0, sq0], fun h9 => absurd h9 (by rw [hc0, sq0]; exact (hq16.no h19).1)⟩)
