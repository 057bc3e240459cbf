/-! The law's loop. -/
theorem IW.inc {N : Int} {ρ m : Mm} (h : IW N ρ m) : IW (N + 1) ρ m := by
  obtain ⟨h1, h2, Λ, hl, tl, s, n, α, κ, h9, s2, n2, α2, κ2, t, tn, pl, f, w, v, p⟩ := h
  exact IW.mk h1 h2 w v p.inc
theorem tz_more {l : Launch} {γ : Gh} {μ : MD} {d cb sb a b : Nat} {R : RR} {X : XX} {K : List Kd} {ρ m : Mm} {pc : Nat} {ls : List (Option VV)} {st : List VV} (k : gT l γ μ d cb sb R X K ρ m pc ls st) : gT l γ μ d (cb + a) (sb + b) R X K ρ m pc ls st := by
  intro p e s mth args below meth c A K0 ad0 mc ms H locs cells slots ad lsr C E P D S hc hs hl
  exact k p e s mth args below meth c A K0 ad0 mc ms H locs cells slots ad lsr C E P D S (by omega) (by omega) hl
theorem law_loop {l : Launch} {γ : Gh} {R : RR} {X : XX} (hR1 : ∀ ρ m, R (some (vI 1)) KK ρ m) (hln : γ.2.2.2.2.1 ≤ 3072) : ∀ (k r : Nat) (ρ m : Mm), k + r = γ.2.2.2.2.1 / 6 → IW (r : Int) ρ m → gT l γ μL_law 60 (4 * k) (24 * k) R X KK ρ m 23 [some (vR (-1)), some (vR 1), some (vR 84), some (vR 122), some (vI (6 * (r : Int))), none, none] []
  | 0, r, ρ, m, hk, hI => by
    refine tz_iload4 (n := 25) (g_at ck_L_law0 13 rfl) rfl ?_
    refine tz_aload0 (n := 26) (g_at ck_L_law0 14 rfl) rfl (by decide) ?_
    refine tz_slen (n := 27) (g_at ck_L_law0 15 rfl) rfl ?_
    refine tz_bipush (n := 29) (g_at ck_L_law0 16 rfl) rfl rfl ?_
    refine tz_isub (n := 30) (g_at ck_L_law0 17 rfl) rfl ?_
    refine tz_icmp_gt (n := 33) (tgt := 2843) (g_at ck_L_law0 18 rfl) rfl rfl ⟨by omega, by omega, by omega, by omega⟩ (fun h9 => ?_) (fun h9 => absurd (by omega) h9)
    refine tz_iconst (n := 2844) (g_at ck_L_law67 5 rfl) rfl ?_
    exact tz_bret (g_at ck_L_law67 6 rfl) rfl (Or.inr rfl) (hR1 ρ m)
  | k + 1, r, ρ, m, hk, hI => by
    have ih := law_loop (l := l) (γ := γ) (R := R) (X := X) hR1 hln k (r + 1)
    have kk : ∀ ρ9 m9, IW ((r : Int) + 1) ρ9 m9 → gT l γ μL_law 60 (4 * k) (24 * k) R X KK ρ9 m9 2837 [some (vR (-1)), some (vR 1), some (vR 84), some (vR 122), some (vI (6 * (r : Int))), none, none] [] := fun ρ9 m9 h9 => by
      refine tz_iinc4 (n := 2840) (g_at ck_L_law67 3 rfl) rfl (by decide) g_hpR ?_
      refine tz_goto (tgt := 23) (g_at ck_L_law67 4 rfl) rfl ?_
      have e9 : 6 * (r : Int) + 6 = 6 * ((r + 1 : Nat) : Int) := by omega
      rw [e9]
      exact ih ρ9 m9 (by omega) (by rw [show ((r + 1 : Nat) : Int) = (r : Int) + 1 by omega]; exact h9)
    rw [show 4 * (k + 1) = 4 * k + 4 from rfl, show 24 * (k + 1) = 24 * k + 24 from rfl]
    have hi : 0 ≤ 6 * (r : Int) ∧ 6 * (r : Int) + 6 ≤ γ.2.2.2.2.1 ∧ γ.2.2.2.2.1 < 2147483648 := ⟨by omega, by omega, by omega⟩
    have hN : (r : Int) ≤ 1000 := by omega
    refine tz_iload4 (n := 25) (g_at ck_L_law0 13 rfl) rfl ?_
    refine tz_aload0 (n := 26) (g_at ck_L_law0 14 rfl) rfl (by decide) ?_
    refine tz_slen (n := 27) (g_at ck_L_law0 15 rfl) rfl ?_
    refine tz_bipush (n := 29) (g_at ck_L_law0 16 rfl) rfl rfl ?_
    refine tz_isub (n := 30) (g_at ck_L_law0 17 rfl) rfl ?_
    refine tz_icmp_gt (n := 33) (tgt := 2843) (g_at ck_L_law0 18 rfl) rfl rfl ⟨by omega, by omega, by omega, by omega⟩ (fun h9 => absurd h9 (by omega)) (fun h9 => ?_)
    refine tz_aload0 (n := 34) (g_at ck_L_law0 19 rfl) rfl (by decide) ?_
    refine tz_iload4 (n := 36) (g_at ck_L_law0 20 rfl) rfl ?_
    refine tz_sld (n := 37) ⟨by omega, by omega, by omega⟩ (g_at ck_L_law0 21 rfl) rfl ?_
    refine tz_bipush (n := 39) (g_at ck_L_law0 22 rfl) rfl rfl ?_
    refine tz_iand (n := 40) (g_at ck_L_law0 23 rfl) rfl ?_
    obtain ⟨y, hy⟩ : ∃ y, y = bAnd (γ.2.2.2.2.2 (6 * (r : Int)).toNat).toInt 63 := ⟨_, rfl⟩
    rw [← hy]
    have hyr : -2147483648 ≤ y ∧ y < 2147483648 := by rw [hy]; exact bAnd_rg _ _
    by_cases hk_0 : y = 0
    · subst hk_0
      exact tz_tableIn (tgt := 236) (g_at ck_L_law0 24 rfl) hyr (by decide) (by decide) rfl rfl (lb_feed hI hN hi kk)
    by_cases hk_1 : y = 1
    · subst hk_1
      exact tz_tableIn (tgt := 309) (g_at ck_L_law0 24 rfl) hyr (by decide) (by decide) rfl rfl (lb_shire hI hN hi kk)
    by_cases hk_2 : y = 2
    · subst hk_2
      exact tz_tableIn (tgt := 365) (g_at ck_L_law0 24 rfl) hyr (by decide) (by decide) rfl rfl (lb_fault hI hN hi kk)
    by_cases hk_3 : y = 3
    · subst hk_3
      exact tz_tableIn (tgt := 378) (g_at ck_L_law0 24 rfl) hyr (by decide) (by decide) rfl rfl (lb_count hI hN hi kk)
    by_cases hk_4 : y = 4
    · subst hk_4
      exact tz_tableIn (tgt := 434) (g_at ck_L_law0 24 rfl) hyr (by decide) (by decide) rfl rfl (lb_crossing hI hN hi kk)
    by_cases hk_5 : y = 5
    · subst hk_5
      exact tz_tableIn (tgt := 502) (g_at ck_L_law0 24 rfl) hyr (by decide) (by decide) rfl rfl (lb_road hI hN hi kk)
    by_cases hk_6 : y = 6
    · subst hk_6
      exact tz_tableIn (tgt := 582) (g_at ck_L_law0 24 rfl) hyr (by decide) (by decide) rfl rfl (lb_person hI hN hi kk)
    by_cases hk_7 : y = 7
    · subst hk_7
      exact tz_tableIn (tgt := 650) (g_at ck_L_law0 24 rfl) hyr (by decide) (by decide) rfl rfl (lb_days hI hN hi kk)
    by_cases hk_8 : y = 8
    · subst hk_8
      exact tz_tableIn (tgt := 675) (g_at ck_L_law0 24 rfl) hyr (by decide) (by decide) rfl rfl (lb_turn hI hN hi kk)
    by_cases hk_9 : y = 9
    · subst hk_9
      exact tz_tableIn (tgt := 743) (g_at ck_L_law0 24 rfl) hyr (by decide) (by decide) rfl rfl (lb_shut hI hN hi kk)
    by_cases hk_10 : y = 10
    · subst hk_10
      exact tz_tableIn (tgt := 846) (g_at ck_L_law0 24 rfl) hyr (by decide) (by decide) rfl rfl (lb_fill hI hN hi kk)
    by_cases hk_11 : y = 11
    · subst hk_11
      exact tz_tableIn (tgt := 914) (g_at ck_L_law0 24 rfl) hyr (by decide) (by decide) rfl rfl (lb_set hI hN hi kk)
    by_cases hk_12 : y = 12
    · subst hk_12
      exact tz_tableIn (tgt := 982) (g_at ck_L_law0 24 rfl) hyr (by decide) (by decide) rfl rfl (lb_undo hI hN hi kk)
    by_cases hk_13 : y = 13
    · subst hk_13
      exact tz_tableIn (tgt := 995) (g_at ck_L_law0 24 rfl) hyr (by decide) (by decide) rfl rfl (lb_then hI hN hi kk)
    by_cases hk_14 : y = 14
    · subst hk_14
      exact tz_tableIn (tgt := 1075) (g_at ck_L_law0 24 rfl) hyr (by decide) (by decide) rfl rfl (lb_points hI hN hi kk)
    by_cases hk_15 : y = 15
    · subst hk_15
      exact tz_tableIn (tgt := 1143) (g_at ck_L_law0 24 rfl) hyr (by decide) (by decide) rfl rfl (lb_comes hI hN hi kk)
    by_cases hk_16 : y = 16
    · subst hk_16
      exact tz_tableIn (tgt := 1211) (g_at ck_L_law0 24 rfl) hyr (by decide) (by decide) rfl rfl (lb_meet hI hN hi kk)
    by_cases hk_17 : y = 17
    · subst hk_17
      exact tz_tableIn (tgt := 1279) (g_at ck_L_law0 24 rfl) hyr (by decide) (by decide) rfl rfl (lb_gone hI hN hi kk)
    by_cases hk_18 : y = 18
    · subst hk_18
      exact tz_tableIn (tgt := 1359) (g_at ck_L_law0 24 rfl) hyr (by decide) (by decide) rfl rfl (lb_later hI hN hi kk)
    by_cases hk_19 : y = 19
    · subst hk_19
      exact tz_tableIn (tgt := 1427) (g_at ck_L_law0 24 rfl) hyr (by decide) (by decide) rfl rfl (lb_round hI hN hi kk)
    by_cases hk_20 : y = 20
    · subst hk_20
      exact tz_tableIn (tgt := 1440) (g_at ck_L_law0 24 rfl) hyr (by decide) (by decide) rfl rfl (lb_way hI hN hi kk)
    by_cases hk_21 : y = 21
    · subst hk_21
      exact tz_tableIn (tgt := 1520) (g_at ck_L_law0 24 rfl) hyr (by decide) (by decide) rfl rfl (lb_best hI hN hi kk)
    by_cases hk_22 : y = 22
    · subst hk_22
      exact tz_tableIn (tgt := 1576) (g_at ck_L_law0 24 rfl) hyr (by decide) (by decide) rfl rfl (lb_lodged hI hN hi kk)
    by_cases hk_23 : y = 23
    · subst hk_23
      exact tz_tableIn (tgt := 1632) (g_at ck_L_law0 24 rfl) hyr (by decide) (by decide) rfl rfl (lb_see hI hN hi kk)
    by_cases hk_24 : y = 24
    · subst hk_24
      exact tz_tableIn (tgt := 1712) (g_at ck_L_law0 24 rfl) hyr (by decide) (by decide) rfl rfl (lb_forget hI hN hi kk)
    by_cases hk_25 : y = 25
    · subst hk_25
      exact tz_tableIn (tgt := 1723) (g_at ck_L_law0 24 rfl) hyr (by decide) (by decide) rfl rfl (lb_turned hI hN hi kk)
    by_cases hk_26 : y = 26
    · subst hk_26
      exact tz_tableIn (tgt := 1779) (g_at ck_L_law0 24 rfl) hyr (by decide) (by decide) rfl rfl (lb_look hI hN hi kk)
    by_cases hk_27 : y = 27
    · subst hk_27
      exact tz_tableIn (tgt := 1835) (g_at ck_L_law0 24 rfl) hyr (by decide) (by decide) rfl rfl (lb_wind hI hN hi kk)
    by_cases hk_28 : y = 28
    · subst hk_28
      exact tz_tableIn (tgt := 1915) (g_at ck_L_law0 24 rfl) hyr (by decide) (by decide) rfl rfl (lb_game hI hN hi kk)
    by_cases hk_29 : y = 29
    · subst hk_29
      exact tz_tableIn (tgt := 1995) (g_at ck_L_law0 24 rfl) hyr (by decide) (by decide) rfl rfl (lb_years hI hN hi kk)
    by_cases hk_30 : y = 30
    · subst hk_30
      exact tz_tableIn (tgt := 2075) (g_at ck_L_law0 24 rfl) hyr (by decide) (by decide) rfl rfl (lb_first hI hN hi kk)
    by_cases hk_31 : y = 31
    · subst hk_31
      exact tz_tableIn (tgt := 2088) (g_at ck_L_law0 24 rfl) hyr (by decide) (by decide) rfl rfl (lb_visited hI hN hi kk)
    by_cases hk_32 : y = 32
    · subst hk_32
      exact tz_tableIn (tgt := 2156) (g_at ck_L_law0 24 rfl) hyr (by decide) (by decide) rfl rfl (lb_uneven hI hN hi kk)
    by_cases hk_33 : y = 33
    · subst hk_33
      exact tz_tableIn (tgt := 2224) (g_at ck_L_law0 24 rfl) hyr (by decide) (by decide) rfl rfl (lb_together hI hN hi kk)
    by_cases hk_34 : y = 34
    · subst hk_34
      exact tz_tableIn (tgt := 2304) (g_at ck_L_law0 24 rfl) hyr (by decide) (by decide) rfl rfl (lb_taken hI hN hi kk)
    by_cases hk_35 : y = 35
    · subst hk_35
      exact tz_tableIn (tgt := 2372) (g_at ck_L_law0 24 rfl) hyr (by decide) (by decide) rfl rfl (lb_covered hI hN hi kk)
    by_cases hk_36 : y = 36
    · subst hk_36
      exact tz_tableIn (tgt := 2428) (g_at ck_L_law0 24 rfl) hyr (by decide) (by decide) rfl rfl (lb_parting hI hN hi kk)
    by_cases hk_37 : y = 37
    · subst hk_37
      exact tz_tableIn (tgt := 2496) (g_at ck_L_law0 24 rfl) hyr (by decide) (by decide) rfl rfl (lb_purse hI hN hi kk)
    by_cases hk_38 : y = 38
    · subst hk_38
      exact tz_tableIn (tgt := 2552) (g_at ck_L_law0 24 rfl) hyr (by decide) (by decide) rfl rfl (lb_cuts hI hN hi kk)
    by_cases hk_39 : y = 39
    · subst hk_39
      exact tz_tableIn (tgt := 2620) (g_at ck_L_law0 24 rfl) hyr (by decide) (by decide) rfl rfl (lb_gather hI hN hi kk)
    by_cases hk_40 : y = 40
    · subst hk_40
      exact tz_tableIn (tgt := 2676) (g_at ck_L_law0 24 rfl) hyr (by decide) (by decide) rfl rfl (lb_walk hI hN hi kk)
    by_cases hk_41 : y = 41
    · subst hk_41
      exact tz_tableIn (tgt := 2744) (g_at ck_L_law0 24 rfl) hyr (by decide) (by decide) rfl rfl (lb_tour hI hN hi kk)
    by_cases hk_42 : y = 42
    · subst hk_42
      exact tz_tableIn (tgt := 2800) (g_at ck_L_law0 24 rfl) hyr (by decide) (by decide) rfl rfl (lb_circuit hI hN hi kk)
    by_cases hk_43 : y = 43
    · subst hk_43
      exact tz_tableIn (tgt := 2813) (g_at ck_L_law0 24 rfl) hyr (by decide) (by decide) rfl rfl (lb_image hI hN hi kk)
    by_cases hk_44 : y = 44
    · subst hk_44
      exact tz_tableIn (tgt := 2824) (g_at ck_L_law0 24 rfl) hyr (by decide) (by decide) rfl rfl (lb_restore hI hN hi kk)
    by_cases hq9 : y < 0 ∨ 44 < y
    · exact tz_tableOut (tgt := 2837) (g_at ck_L_law0 24 rfl) hyr hq9 rfl (tz_more (kk _ _ hI.inc))
    · exfalso; omega
