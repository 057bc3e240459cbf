/-! The reference: wind, game, years. -/
def mW (m m9 : Mm) : Prop := Fr (84 :: mDay) m m9 ∧ (∀ k, k ≠ 51 → k ≠ 62 → m9 84 k = m 84 k) ∧ ∀ k, 0 ≤ k → k < 35 → m9 103 k = m 103 k
theorem mW.rf {m : Mm} : mW m m := ⟨Fr.rf, fun _ _ _ => rfl, fun _ _ _ => rfl⟩
theorem mW.tr {a b c : Mm} (h : mW a b) (k : mW b c) : mW a c := ⟨h.1.tr k.1, fun x h1 h2 => (k.2.1 x h1 h2).trans (h.2.1 x h1 h2), fun x h1 h2 => (k.2.2 x h1 h2).trans (h.2.2 x h1 h2)⟩
theorem mW.fd {m m9 : Mm} (h : FD 35 m m9) : mW m m9 := ⟨h.1.sub fun x hx => List.mem_cons_of_mem _ hx, fun k _ _ => by rw [h.1 84 (by decide)], fun k h1 h2 => h.2 k (Or.inl h2)⟩
theorem mW.w {m : Mm} {k v : Int} (hk : k = 51 ∨ k = 62) : mW m (wr m 84 k v) := ⟨Fr.rf.wr List.mem_cons_self, fun j h1 h2 => by rw [wr_at, if_neg (by omega)], fun j _ _ => by rw [wr_ne (by decide)]⟩
theorem mW.land {m m9 Λ : Mm} {hl tl : List Int} (h : mW m m9) (k : MLand m Λ hl tl) : MLand m9 Λ hl tl := k.eq (fun k h1 h2 => h.2.1 k (by omega) (by omega)) fun a h1 h2 => h.1 a (by
  unfold mDay
  simp only [List.mem_cons, List.not_mem_nil, or_false]
  omega)
theorem mW.row {m m9 : Mm} {s : Int → Int} (h : mW m m9) (k : MRow m s) : MRow m9 s := fun j h1 h2 => (h.2.2 j h1 h2).trans (k j h1 h2)
theorem mW.k {m m9 : Mm} (h : mW m m9) (e : m9 84 51 = m 84 51) : mK m m9 := ⟨h.1.sub (by decide), fun k h1 h2 => by
  by_cases e9 : k = 51
  · rw [e9]; exact e
  · exact h.2.1 k e9 h2, h.2.2⟩
theorem wd_cd {n t : Int} : sq (cdD n 1 5) (cdT t) = 0 ↔ ((1 ≤ n ∧ n ≤ 5) ∧ 0 ≤ t ∧ t ≤ 10) := by
  unfold sq cdD cdT
  repeat' split
  all_goals first | omega | (constructor <;> intro h <;> first | omega | exact absurd h (by decide))
theorem wd_c2 {n t : Int} (h : ¬ ((1 ≤ n ∧ n ≤ 5) ∧ 0 ≤ t ∧ t ≤ 10)) : sq (cdD n 1 5) (cdT t) = 2 := by
  unfold sq cdD cdT
  repeat' split
  all_goals first | rfl | omega
theorem wi_1 {v a b : Int} (h : ¬ wiF v a b = 0) : a ≤ v ∧ v ≤ b := by
  unfold wiF at h
  split at h
  · assumption
  · exact absurd rfl h
theorem wi_0 {v a b : Int} (h : wiF v a b = 0) : ¬ (a ≤ v ∧ v ≤ b) := by
  unfold wiF at h
  split at h
  · exact absurd h (by decide)
  · assumption
theorem pw5 : ∀ n : Nat, n ≤ 5 → 2 ^ n ≤ 32 := by decide
theorem bt01 (y : Int) (k : Nat) : bAnd (bShr y (k : Int)) 1 = 0 ∨ bAnd (bShr y (k : Int)) 1 = 1 := by
  have e : ∀ a : Int32, (a &&& Int32.ofInt 1).toBitVec.toNat ≤ 1 := fun a => by
    rw [Int32.toBitVec_and, BitVec.toNat_and]
    exact Nat.le_trans Nat.and_le_right (by decide)
  have h1 := e (Int32.ofInt (bShr y (k : Int)))
  have h2 := i32t (a := Int32.ofInt (bShr y (k : Int)) &&& Int32.ofInt 1) (by omega)
  have h3 : bAnd (bShr y (k : Int)) 1 = (Int32.ofInt (bShr y (k : Int)) &&& Int32.ofInt 1).toInt := rfl
  rw [h3, h2]
  omega
theorem wdD_W {Λ σ : Mm} {b y : Int} {hl tl : List Int} (hW : WL Λ) (h : WS Λ b σ) (hb : 0 ≤ b) : ∀ n : Nat, WS Λ (b + 9 * n) (wdD Λ hl tl y σ n)
  | 0 => by
    show WS Λ (b + 9 * 0) σ
    rw [Int.mul_zero, Int.add_zero]
    exact h
  | n + 1 => (dayP_WS hW (wdD_W hW h hb n) (by omega)).up (by omega)
theorem mp_wind {l : Launch} {γ : Gh} {ρ m : Mm} {p n t : Int} (hp : -2147483648 ≤ p ∧ p < 2147483648) (hn : -2147483648 ≤ n ∧ n < 2147483648) (ht : -2147483648 ≤ t ∧ t < 2147483648) {s : Int → Int} {Λ : Mm} {hl tl : List Int} (hL : LY ρ) (hR : MR m) (hW : WL Λ) (hM : MLand m Λ hl tl) (hs : MRow m s) (hσ : WS Λ 0 (sig0 s)) (hz : m 84 51 = 0) : gE l γ μX11_wind 6 0 0 (rI KK fun x ρ9 m9 => ρ = ρ9 ∧ MR m9 ∧ mK m m9 ∧ m9 84 0 = sq (cdP Λ p) (sq (cdD n 1 5) (cdT t)) ∧ (sq (cdP Λ p) (sq (cdD n 1 5) (cdT t)) = 0 → wdS Λ hl tl s p t n.toNat (2 ^ n.toNat) = x)) xN KK ρ m [vR 84, vI p, vI n, vI t] := by
  refine gE.ofw cl_X11.2 ?_ rfl rfl (Nat.le_of_ble_eq_true rfl)
  show gT l γ μX11_wind 6 0 0 _ _ KK ρ m 0 [some (vR 84), some (vI p), some (vI n), some (vI t), none, none, none, none] []
  have hn1 := hW.1
  have hn8 := hW.2.1
  refine tz_aload0 (n := 1) (g_at ck_X11_wind 0 rfl) rfl (g_ne kd_84) ?_
  refine tz_iconst (n := 2) (g_at ck_X11_wind 1 rfl) rfl ?_
  refine tz_putIr (n := 5) (kz := 0) fk_X11_132 kd_84 (g_at ck_X11_wind 2 rfl) rfl hR ⟨(by decide), (by decide)⟩ rfl (fun hR1 => ?_)
  obtain ⟨m0, e0⟩ : ∃ m0, m0 = wr m 84 0 0 := ⟨_, rfl⟩
  rw [← e0] at hR1 ⊢
  have hk0 : mK m m0 := by rw [e0]; exact mK.w0
  have hM0 := hk0.land hM
  have hs0 := hk0.row hs
  have hz0 : m0 84 51 = 0 := hk0.w51.trans hz
  have h00 : m0 84 0 = 0 := by rw [e0, wr_same]
  have hw0 := hw_0 hz0
  refine tz_aload0 (n := 6) (g_at ck_X11_wind 3 rfl) rfl (g_ne kd_84) ?_
  refine tz_iload1 (n := 7) (g_at ck_X11_wind 4 rfl) rfl ?_
  refine tz_cvI1 (n := 10) (μ' := μX11_isPerson) (cb' := 0) (sb' := 0) ml_X11_405 mo_X11_isPerson mv_X11_isPerson np_X11_isPerson kd_84 (g_at ck_X11_wind 5 rfl) (mp_isPerson hp hL hR1 hW hM0 h00) rfl rfl rfl ⟨by decide, by decide⟩ (Nat.le_of_ble_eq_true rfl) (by decide) (by decide) (fun x7 ρ9 m7 hq => ?_)
  obtain ⟨rfl, hR2, hq7⟩ := hq
  refine tz_if_eq (n := 13) (tgt := 45) (g_at ck_X11_wind 6 rfl) rfl rfl (by rcases hq7.b01 with h9 | h9 <;> omega) (fun h10 => ?_) (fun h10 => ?_)
  · skip
    refine tz_iconst (n := 46) (g_at ck_X11_wind 24 rfl) rfl ?_
    exact tz_iret (g_at ck_X11_wind 25 rfl) rfl (rI_mk ⟨rfl, hR2, by rw [(hq7.no h10).2]; exact hk0.tr mK.w0, by rw [(hq7.no h10).2, wr_same, sqn (hq7.no h10).1], fun h9 => absurd h9 (by rw [sqn (hq7.no h10).1]; exact (hq7.no h10).1)⟩)
  · skip
    obtain ⟨hc0, rfl⟩ := hq7.ok h10
    have hi0 := cdP_i hc0
    refine tz_aload0 (n := 14) (g_at ck_X11_wind 7 rfl) rfl (g_ne kd_84) ?_
    refine tz_iload2 (n := 15) (g_at ck_X11_wind 8 rfl) rfl ?_
    refine tz_iconst (n := 16) (g_at ck_X11_wind 9 rfl) rfl ?_
    refine tz_iconst (n := 17) (g_at ck_X11_wind 10 rfl) rfl ?_
    refine tz_csI3 (n := 20) (μ' := μX11_within) (cb' := 0) (sb' := 0) ml_X11_374 mo_X11_within ms_X11_within np_X11_within (g_at ck_X11_wind 11 rfl) (mp_within hR2 hn (by decide) (by decide)) rfl rfl ⟨by decide, by decide⟩ (Nat.le_of_ble_eq_true rfl) (by decide) (by decide) (fun x17 ρ9 m17 hq => ?_)
    obtain ⟨rfl, hR3, rfl, rfl⟩ := hq
    have g01 := wiF_01 n 1 5
    refine tz_if_eq (n := 23) (tgt := 37) (g_at ck_X11_wind 12 rfl) rfl rfl (by omega) (fun h20 => ?_) (fun h20 => ?_)
    · skip
      refine tz_iconst (n := 38) (g_at ck_X11_wind 20 rfl) rfl ?_
      refine tz_iconst (n := 39) (g_at ck_X11_wind 21 rfl) rfl ?_
      refine tz_cvI2 (n := 42) (μ' := μX11_right) (cb' := 0) (sb' := 0) ml_X11_295 mo_X11_right mv_X11_right np_X11_right kd_84 (g_at ck_X11_wind 22 rfl) (mp_right hR3 h00 (by decide) (by decide)) rfl rfl rfl ⟨by decide, by decide⟩ (Nat.le_of_ble_eq_true rfl) (by decide) (by decide) (fun x39 ρ9 m39 hq => ?_)
      obtain ⟨rfl, hR4, rfl, rfl⟩ := hq
      refine tz_if_ne (n := 45) (tgt := 47) (g_at ck_X11_wind 23 rfl) rfl rfl (by decide) (fun h42 => absurd h42 (by omega)) (fun h42 => ?_)
      refine tz_iconst (n := 46) (g_at ck_X11_wind 24 rfl) rfl ?_
      exact tz_iret (g_at ck_X11_wind 25 rfl) rfl (rI_mk ⟨rfl, hR4, by rw [if_pos rfl]; exact hk0.tr mK.w0, by rw [if_pos rfl, wr_same, hc0, sq0, wd_c2 (fun h9 => wi_0 h20 h9.1)], fun h9 => absurd h9 (by rw [hc0, sq0, wd_c2 (fun h9 => wi_0 h20 h9.1)]; decide)⟩)
    · skip
      refine tz_iload3 (n := 24) (g_at ck_X11_wind 13 rfl) rfl ?_
      refine tz_iconst (n := 25) (g_at ck_X11_wind 14 rfl) rfl ?_
      refine tz_bipush (n := 27) (g_at ck_X11_wind 15 rfl) rfl rfl ?_
      refine tz_csI3 (n := 30) (μ' := μX11_within) (cb' := 0) (sb' := 0) ml_X11_374 mo_X11_within ms_X11_within np_X11_within (g_at ck_X11_wind 16 rfl) (mp_within hR3 ht (by decide) (by decide)) rfl rfl ⟨by decide, by decide⟩ (Nat.le_of_ble_eq_true rfl) (by decide) (by decide) (fun x27 ρ9 m27 hq => ?_)
      obtain ⟨rfl, hR5, rfl, rfl⟩ := hq
      have g02 := wiF_01 t 0 10
      refine tz_if_eq (n := 33) (tgt := 37) (g_at ck_X11_wind 17 rfl) rfl rfl (by omega) (fun h30 => ?_) (fun h30 => ?_)
      · skip
        refine tz_iconst (n := 38) (g_at ck_X11_wind 20 rfl) rfl ?_
        refine tz_iconst (n := 39) (g_at ck_X11_wind 21 rfl) rfl ?_
        refine tz_cvI2 (n := 42) (μ' := μX11_right) (cb' := 0) (sb' := 0) ml_X11_295 mo_X11_right mv_X11_right np_X11_right kd_84 (g_at ck_X11_wind 22 rfl) (mp_right hR5 h00 (by decide) (by decide)) rfl rfl rfl ⟨by decide, by decide⟩ (Nat.le_of_ble_eq_true rfl) (by decide) (by decide) (fun x39 ρ9 m39 hq => ?_)
        obtain ⟨rfl, hR6, rfl, rfl⟩ := hq
        refine tz_if_ne (n := 45) (tgt := 47) (g_at ck_X11_wind 23 rfl) rfl rfl (by decide) (fun h42 => absurd h42 (by omega)) (fun h42 => ?_)
        refine tz_iconst (n := 46) (g_at ck_X11_wind 24 rfl) rfl ?_
        exact tz_iret (g_at ck_X11_wind 25 rfl) rfl (rI_mk ⟨rfl, hR6, by rw [if_pos rfl]; exact hk0.tr mK.w0, by rw [if_pos rfl, wr_same, hc0, sq0, wd_c2 (fun h9 => wi_0 h30 h9.2)], fun h9 => absurd h9 (by rw [hc0, sq0, wd_c2 (fun h9 => wi_0 h30 h9.2)]; decide)⟩)
      · skip
        refine tz_iconst (n := 34) (g_at ck_X11_wind 18 rfl) rfl ?_
        refine tz_goto (tgt := 38) (g_at ck_X11_wind 19 rfl) rfl ?_
        refine tz_iconst (n := 39) (g_at ck_X11_wind 21 rfl) rfl ?_
        refine tz_cvI2 (n := 42) (μ' := μX11_right) (cb' := 0) (sb' := 0) ml_X11_295 mo_X11_right mv_X11_right np_X11_right kd_84 (g_at ck_X11_wind 22 rfl) (mp_right hR5 h00 (by decide) (by decide)) rfl rfl rfl ⟨by decide, by decide⟩ (Nat.le_of_ble_eq_true rfl) (by decide) (by decide) (fun x39 ρ9 m39 hq => ?_)
        obtain ⟨rfl, hR7, rfl, rfl⟩ := hq
        refine tz_if_ne (n := 45) (tgt := 47) (g_at ck_X11_wind 23 rfl) rfl rfl (by decide) (fun h42 => ?_) (fun h42 => absurd h42 (by omega))
        have hi1 := wi_1 h20
        have hi2 := wi_1 h30
        rw [if_neg (by decide)]
        rw [if_neg (by decide)] at hR7
        obtain ⟨N9, hN9⟩ : ∃ N9, N9 = 2 ^ n.toNat := ⟨_, rfl⟩
        have hpw : N9 ≤ 32 := by rw [hN9]; exact pw5 n.toNat (by omega)
        refine tz_iconst (n := 48) (g_at ck_X11_wind 26 rfl) rfl ?_
        refine tz_istore4 (n := 50) (g_at ck_X11_wind 27 rfl) rfl (by decide) g_hpI ?_
        refine tz_iconst (n := 51) (g_at ck_X11_wind 28 rfl) rfl ?_
        refine tz_istore5 (n := 53) (g_at ck_X11_wind 29 rfl) rfl (by decide) g_hpI ?_
        refine g_for (fun i : Nat => ∀ m1 : Mm, (MR m1 ∧ mW m0 m1) → gT l γ μX11_wind 6 0 0 _ _ KK ρ m1 53 [some (vR 84), some (vI p), some (vI n), some (vI t), some (vI (wdS Λ hl tl s p t n.toNat i)), some (vI (i : Int)), none, none] []) N9 ?_ (fun i hi ihi => ?_) 0 (Nat.zero_le _) _ ⟨hR7, mW.rf⟩
        · intro m1 hinv
          obtain ⟨hR1, hW1⟩ := hinv
          refine tz_iload5 (n := 55) (g_at ck_X11_wind 30 rfl) rfl ?_
          refine tz_iconst (n := 56) (g_at ck_X11_wind 31 rfl) rfl ?_
          refine tz_iload2 (n := 57) (g_at ck_X11_wind 32 rfl) rfl ?_
          refine tz_ishl (n := 58) (g_at ck_X11_wind 33 rfl) rfl ?_
          rw [show bShl 1 n = (N9 : Int) by rw [hN9]; have h9 := bShl_1 n.toNat (by omega); rw [show ((n.toNat : Nat) : Int) = n by omega] at h9; exact h9]
          refine tz_icmp_ge (n := 61) (tgt := 156) (g_at ck_X11_wind 34 rfl) rfl rfl (by omega) (fun h58 => ?_) (fun h58 => absurd h58 (by omega))
          refine tz_aload0 (n := 157) (g_at ck_X11_wind 85 rfl) rfl (g_ne kd_84) ?_
          refine tz_iconst (n := 158) (g_at ck_X11_wind 86 rfl) rfl ?_
          refine tz_putZr (n := 161) (kz := 51) fk_X11_342 kd_84 (g_at ck_X11_wind 87 rfl) rfl hR1 (by omega) rfl (fun hR8 => ?_)
          refine tz_iload4 (n := 163) (g_at ck_X11_wind 88 rfl) rfl ?_
          exact tz_iret (g_at ck_X11_wind 89 rfl) rfl (rI_mk ⟨rfl, hR8, hk0.tr ((hW1.tr (mW.w (Or.inl rfl))).k (by rw [wr_same, hz0])), by rw [wr_at, if_neg (by decide), hW1.2.1 0 (by decide) (by decide), h00, hc0, wd_cd.mpr ⟨hi1, hi2⟩]; rfl, fun _ => by rw [← hN9]⟩)
        · intro m1 hinv
          obtain ⟨hR1, hW1⟩ := hinv
          refine tz_iload5 (n := 55) (g_at ck_X11_wind 30 rfl) rfl ?_
          refine tz_iconst (n := 56) (g_at ck_X11_wind 31 rfl) rfl ?_
          refine tz_iload2 (n := 57) (g_at ck_X11_wind 32 rfl) rfl ?_
          refine tz_ishl (n := 58) (g_at ck_X11_wind 33 rfl) rfl ?_
          rw [show bShl 1 n = (N9 : Int) by rw [hN9]; have h9 := bShl_1 n.toNat (by omega); rw [show ((n.toNat : Nat) : Int) = n by omega] at h9; exact h9]
          refine tz_icmp_ge (n := 61) (tgt := 156) (g_at ck_X11_wind 34 rfl) rfl rfl (by omega) (fun h58 => absurd h58 (by omega)) (fun h58 => ?_)
          refine tz_iconst (n := 62) (g_at ck_X11_wind 35 rfl) rfl ?_
          refine tz_istore6 (n := 64) (g_at ck_X11_wind 36 rfl) rfl (by decide) g_hpI ?_
          refine tz_aload0 (n := 65) (g_at ck_X11_wind 37 rfl) rfl (g_ne kd_84) ?_
          refine tz_cvV0 (n := 68) (μ' := μX11_tries) (cb' := 0) (sb' := 0) ml_X11_356 mo_X11_tries mv_X11_tries np_X11_tries kd_84 (g_at ck_X11_wind 38 rfl) (mp_tries (Λ := Λ) hL hR1 (hW1.row hs0)) rfl rfl rfl ⟨by decide, by decide⟩ (Nat.le_of_ble_eq_true rfl) (by decide) (by decide) (fun ρ9 m65 hq => ?_)
          obtain ⟨rfl, hR9, hT65, hD65⟩ := hq
          refine tz_iconst (n := 69) (g_at ck_X11_wind 39 rfl) rfl ?_
          refine tz_istore7 (n := 71) (g_at ck_X11_wind 40 rfl) rfl (by decide) g_hpI ?_
          refine g_for (fun j : Nat => ∀ m2 : Mm, (MR m2 ∧ MT m2 35 Λ z00 (wdD Λ hl tl (i : Int) (sig0 s) j) ∧ mW m0 m2) → gT l γ μX11_wind 6 0 0 _ _ KK ρ m2 71 [some (vR 84), some (vI p), some (vI n), some (vI t), some (vI (wdS Λ hl tl s p t n.toNat i)), some (vI (i : Int)), some (vI (wdC (i : Int) t j)), some (vI (j : Int))] []) n.toNat ?_ (fun j hj ihj => ?_) 0 (Nat.zero_le _) _ ⟨hR9, hT65, hW1.tr (mW.fd hD65)⟩
          · intro m2 hinv
            obtain ⟨hR2, hT2, hW2⟩ := hinv
            refine tz_iload7 (n := 73) (g_at ck_X11_wind 41 rfl) rfl ?_
            refine tz_iload2 (n := 74) (g_at ck_X11_wind 42 rfl) rfl ?_
            refine tz_icmp_ge (n := 77) (tgt := 129) (g_at ck_X11_wind 43 rfl) rfl rfl (by omega) (fun h74 => ?_) (fun h74 => absurd h74 (by omega))
            refine tz_iload4 (n := 131) (g_at ck_X11_wind 72 rfl) rfl ?_
            refine tz_aload0 (n := 132) (g_at ck_X11_wind 73 rfl) rfl (g_ne kd_84) ?_
            refine tz_bipush (n := 134) (g_at ck_X11_wind 74 rfl) rfl rfl ?_
            refine tz_iload1 (n := 135) (g_at ck_X11_wind 75 rfl) rfl ?_
            refine tz_cvI2 (n := 138) (μ' := μX11_isHome) (cb' := 0) (sb' := 0) ml_X11_345 mo_X11_isHome mv_X11_isHome np_X11_isHome kd_84 (g_at ck_X11_wind 76 rfl) (mp_isHome hL hR2 (Or.inr rfl) (by omega)) rfl rfl rfl ⟨by decide, by decide⟩ (Nat.le_of_ble_eq_true rfl) (by decide) (by decide) (fun x135 ρ9 m135 hq => ?_)
            obtain ⟨rfl, hR10, rfl, rfl⟩ := hq
            have hM2 := hW2.land hM0
            rw [hT2.r (k := 1 + p) (by omega) (by omega), hM2.2.2.2.2.1 p hi0.1 hi0.2]
            have h01 := hmB_01 (wdD Λ hl tl (i : Int) (sig0 s) n.toNat 0 (1 + p)) (Λ 5 p)
            refine tz_if_eq (n := 141) (tgt := 146) (g_at ck_X11_wind 77 rfl) rfl rfl (by omega) (fun h138 => ?_) (fun h138 => ?_)
            · skip
              refine tz_iconst (n := 147) (g_at ck_X11_wind 80 rfl) rfl ?_
              refine tz_iadd (n := 148) (g_at ck_X11_wind 81 rfl) rfl ?_
              refine tz_istore4 (n := 150) (g_at ck_X11_wind 82 rfl) rfl (by decide) g_hpI ?_
              refine tz_iinc5 (n := 153) (g_at ck_X11_wind 83 rfl) rfl (by decide) g_hpI ?_
              refine tz_goto (tgt := 53) (g_at ck_X11_wind 84 rfl) rfl ?_
              refine tz_drop6 ?_
              refine tz_drop7 ?_
              have e9 : wdS Λ hl tl s p t n.toNat (i + 1) = wdS Λ hl tl s p t n.toNat i + 0 := congrArg (fun z9 => wdS Λ hl tl s p t n.toNat i + z9) (if_neg (hmB_0 h138))
              rw [e9] at ihi
              exact ihi _ ⟨hR10, hW2⟩
            · skip
              refine tz_iload6 (n := 143) (g_at ck_X11_wind 78 rfl) rfl ?_
              refine tz_goto (tgt := 147) (g_at ck_X11_wind 79 rfl) rfl ?_
              refine tz_iadd (n := 148) (g_at ck_X11_wind 81 rfl) rfl ?_
              refine tz_istore4 (n := 150) (g_at ck_X11_wind 82 rfl) rfl (by decide) g_hpI ?_
              refine tz_iinc5 (n := 153) (g_at ck_X11_wind 83 rfl) rfl (by decide) g_hpI ?_
              refine tz_goto (tgt := 53) (g_at ck_X11_wind 84 rfl) rfl ?_
              refine tz_drop6 ?_
              refine tz_drop7 ?_
              have e9 : wdS Λ hl tl s p t n.toNat (i + 1) = wdS Λ hl tl s p t n.toNat i + wdC (i : Int) t n.toNat := congrArg (fun z9 => wdS Λ hl tl s p t n.toNat i + z9) (if_pos (hmB_1 h138))
              rw [e9] at ihi
              exact ihi _ ⟨hR10, hW2⟩
          · intro m2 hinv
            obtain ⟨hR2, hT2, hW2⟩ := hinv
            have hσ2 := wdD_W (hl := hl) (tl := tl) (y := (i : Int)) hW hσ (Int.le_refl 0) j
            have hbt := bt01 (i : Int) j
            refine tz_iload7 (n := 73) (g_at ck_X11_wind 41 rfl) rfl ?_
            refine tz_iload2 (n := 74) (g_at ck_X11_wind 42 rfl) rfl ?_
            refine tz_icmp_ge (n := 77) (tgt := 129) (g_at ck_X11_wind 43 rfl) rfl rfl (by omega) (fun h74 => absurd h74 (by omega)) (fun h74 => ?_)
            refine tz_aload0 (n := 78) (g_at ck_X11_wind 44 rfl) rfl (g_ne kd_84) ?_
            refine tz_iload5 (n := 80) (g_at ck_X11_wind 45 rfl) rfl ?_
            refine tz_iload7 (n := 82) (g_at ck_X11_wind 46 rfl) rfl ?_
            refine tz_ishr (n := 83) (g_at ck_X11_wind 47 rfl) rfl ?_
            refine tz_iconst (n := 84) (g_at ck_X11_wind 48 rfl) rfl ?_
            refine tz_iand (n := 85) (g_at ck_X11_wind 49 rfl) rfl ?_
            refine tz_iconst (n := 86) (g_at ck_X11_wind 50 rfl) rfl ?_
            refine tz_icmp_ne (n := 89) (tgt := 93) (g_at ck_X11_wind 51 rfl) rfl rfl ⟨(bAnd_rg _ _).1, (bAnd_rg _ _).2, by decide, by decide⟩ (fun h86 => ?_) (fun h86 => ?_)
            · skip
              refine tz_iconst (n := 94) (g_at ck_X11_wind 54 rfl) rfl ?_
              refine tz_putZr (n := 97) (kz := 51) fk_X11_342 kd_84 (g_at ck_X11_wind 55 rfl) rfl hR2 (by omega) rfl (fun hR11 => ?_)
              refine tz_iload6 (n := 99) (g_at ck_X11_wind 56 rfl) rfl ?_
              refine tz_aload0 (n := 100) (g_at ck_X11_wind 57 rfl) rfl (g_ne kd_84) ?_
              refine tz_getZw (n := 103) (kz := 51) fk_X11_342 kd_84 (g_at ck_X11_wind 58 rfl) rfl rfl ?_
              rw [wr_same]
              refine tz_if_eq (n := 106) (tgt := 110) (g_at ck_X11_wind 59 rfl) rfl rfl (by decide) (fun h103 => ?_) (fun h103 => absurd h103 (by omega))
              refine tz_bipush (n := 112) (g_at ck_X11_wind 62 rfl) rfl rfl ?_
              refine tz_iload3 (n := 113) (g_at ck_X11_wind 63 rfl) rfl ?_
              refine tz_isub (n := 114) (g_at ck_X11_wind 64 rfl) rfl ?_
              refine tz_imul (n := 115) (g_at ck_X11_wind 65 rfl) rfl ?_
              refine tz_istore6 (n := 117) (g_at ck_X11_wind 66 rfl) rfl (by decide) g_hpI ?_
              refine tz_aload0 (n := 118) (g_at ck_X11_wind 67 rfl) rfl (g_ne kd_84) ?_
              refine tz_bipush (n := 120) (g_at ck_X11_wind 68 rfl) rfl rfl ?_
              refine tz_cvV1 (n := 123) (μ' := μX11_dayGoes) (cb' := 0) (sb' := 0) ml_X11_353 mo_X11_dayGoes mv_X11_dayGoes np_X11_dayGoes kd_84 (g_at ck_X11_wind 69 rfl) (mp_dayGoes (w := 1) hL hR11 hW ((mW.w (Or.inl rfl)).land (hW2.land hM0)) (MT.wrn hT2 (by decide)) hσ2 (by omega) (Or.inr rfl) (by rw [wr_same]; exact ⟨fun h9 => by decide, fun h9 => absurd rfl h9⟩)) rfl rfl rfl ⟨by decide, by decide⟩ (Nat.le_of_ble_eq_true rfl) (by decide) (by decide) (fun ρ9 m120 hq => ?_)
              obtain ⟨rfl, hR12, hT120, hD120⟩ := hq
              have hT9 : MT m120 35 Λ z00 (wdD Λ hl tl (i : Int) (sig0 s) (j + 1)) := by rw [show wdD Λ hl tl (i : Int) (sig0 s) (j + 1) = dayP Λ hl tl 1 (wdD Λ hl tl (i : Int) (sig0 s) j) from congrArg (fun z9 => dayP Λ hl tl z9 (wdD Λ hl tl (i : Int) (sig0 s) j)) (if_pos (by omega))]; exact hT120
              have hW9 := (hW2.tr (mW.w (Or.inl rfl))).tr (mW.fd hD120)
              refine tz_iinc7 (n := 126) (g_at ck_X11_wind 70 rfl) rfl (by decide) g_hpI ?_
              refine tz_goto (tgt := 71) (g_at ck_X11_wind 71 rfl) rfl ?_
              have e8 : wdC (i : Int) t (j + 1) = wdC (i : Int) t j * (10 - t) := congrArg (fun z9 => wdC (i : Int) t j * z9) (if_neg (by omega))
              rw [e8] at ihj
              exact ihj _ ⟨hR12, hT9, hW9⟩
            · skip
              refine tz_iconst (n := 90) (g_at ck_X11_wind 52 rfl) rfl ?_
              refine tz_goto (tgt := 94) (g_at ck_X11_wind 53 rfl) rfl ?_
              refine tz_putZr (n := 97) (kz := 51) fk_X11_342 kd_84 (g_at ck_X11_wind 55 rfl) rfl hR2 (by omega) rfl (fun hR13 => ?_)
              refine tz_iload6 (n := 99) (g_at ck_X11_wind 56 rfl) rfl ?_
              refine tz_aload0 (n := 100) (g_at ck_X11_wind 57 rfl) rfl (g_ne kd_84) ?_
              refine tz_getZw (n := 103) (kz := 51) fk_X11_342 kd_84 (g_at ck_X11_wind 58 rfl) rfl rfl ?_
              rw [wr_same]
              refine tz_if_eq (n := 106) (tgt := 110) (g_at ck_X11_wind 59 rfl) rfl rfl (by decide) (fun h103 => absurd h103 (by omega)) (fun h103 => ?_)
              refine tz_iload3 (n := 107) (g_at ck_X11_wind 60 rfl) rfl ?_
              refine tz_goto (tgt := 114) (g_at ck_X11_wind 61 rfl) rfl ?_
              refine tz_imul (n := 115) (g_at ck_X11_wind 65 rfl) rfl ?_
              refine tz_istore6 (n := 117) (g_at ck_X11_wind 66 rfl) rfl (by decide) g_hpI ?_
              refine tz_aload0 (n := 118) (g_at ck_X11_wind 67 rfl) rfl (g_ne kd_84) ?_
              refine tz_bipush (n := 120) (g_at ck_X11_wind 68 rfl) rfl rfl ?_
              refine tz_cvV1 (n := 123) (μ' := μX11_dayGoes) (cb' := 0) (sb' := 0) ml_X11_353 mo_X11_dayGoes mv_X11_dayGoes np_X11_dayGoes kd_84 (g_at ck_X11_wind 69 rfl) (mp_dayGoes (w := 0) hL hR13 hW ((mW.w (Or.inl rfl)).land (hW2.land hM0)) (MT.wrn hT2 (by decide)) hσ2 (by omega) (Or.inr rfl) (by rw [wr_same]; exact ⟨fun h9 => absurd h9 (by decide), fun h9 => rfl⟩)) rfl rfl rfl ⟨by decide, by decide⟩ (Nat.le_of_ble_eq_true rfl) (by decide) (by decide) (fun ρ9 m120 hq => ?_)
              obtain ⟨rfl, hR14, hT120, hD120⟩ := hq
              have hT9 : MT m120 35 Λ z00 (wdD Λ hl tl (i : Int) (sig0 s) (j + 1)) := by rw [show wdD Λ hl tl (i : Int) (sig0 s) (j + 1) = dayP Λ hl tl 0 (wdD Λ hl tl (i : Int) (sig0 s) j) from congrArg (fun z9 => dayP Λ hl tl z9 (wdD Λ hl tl (i : Int) (sig0 s) j)) (if_neg (by omega))]; exact hT120
              have hW9 := (hW2.tr (mW.w (Or.inl rfl))).tr (mW.fd hD120)
              refine tz_iinc7 (n := 126) (g_at ck_X11_wind 70 rfl) rfl (by decide) g_hpI ?_
              refine tz_goto (tgt := 71) (g_at ck_X11_wind 71 rfl) rfl ?_
              have e8 : wdC (i : Int) t (j + 1) = wdC (i : Int) t j * t := congrArg (fun z9 => wdC (i : Int) t j * z9) (if_pos (by omega))
              rw [e8] at ihj
              exact ihj _ ⟨hR14, hT9, hW9⟩
