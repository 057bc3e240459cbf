/-! The law, call by call. -/
theorem lb_parting {l : Launch} {γ : Gh} {ρ m : Mm} {R : RR} {X : XX} {cb sb : Nat} {N i : Int} (hI : IW N ρ m) (hN : N ≤ 1000) (hi : 0 ≤ i ∧ i + 6 ≤ γ.2.2.2.2.1 ∧ γ.2.2.2.2.1 < 2147483648) (kk : ∀ ρ9 m9, IW (N + 1) ρ9 m9 → gT l γ μL_law 60 cb sb R X KK ρ9 m9 2837 [some (vR (-1)), some (vR 1), some (vR 84), some (vR 122), some (vI i), none, none] []) : gT l γ μL_law 60 (cb + 4) (sb + 24) R X KK ρ m 2428 [some (vR (-1)), some (vR 1), some (vR 84), some (vR 122), some (vI i), none, none] [] := by
  obtain ⟨hL, hR, Λ, hl, tl, s, n, α, κ, h, s2, n2, α2, κ2, t, tn, pl, f, w, v, p⟩ := hI
  have hW := p.1
  have hσ := p.2.1.1.1
  have hS := w.iS hL
  have hA2 : 0 ≤ m 44 2 ∧ m 44 2 ≤ 40 := by rw [w.2.2.2.1.1]; exact p.2.1.2.1
  have hE3 : 0 ≤ m 46 3 ∧ m 46 3 ≤ 8 := by rw [w.2.2.2.2.1.1]; exact p.2.1.2.2.2.1
  have hf : ∀ k, 0 ≤ k → k < 3 → m 61 k < 2000000000 := fun k k1 k2 => by rw [w.2.2.2.2.2.2.2.2 k k1 k2]; have := p.2.2.2.2.2 k k1 k2; omega
  have hTn : m 1 1 = tn := w.2.2.2.2.2.2.2.1.1
  have hf1 : 0 ≤ m 1 1 ∧ m 1 1 ≤ 700 := by rw [hTn]; exact p.2.2.2.2.1
  refine tz_aload1 (n := 2429) (g_at ck_L_law49 11 rfl) rfl (g_ne kd_1) ?_
  refine tz_sv (n := 2435) (g_at ck_L_law49 12 rfl) (g_at ck_L_law49 13 rfl) (g_at ck_L_law49 14 rfl) (g_at ck_L_law49 15 rfl) (g_at ck_L_law50 0 rfl) rfl ⟨by omega, by omega, by omega⟩ ?_
  refine tz_sv (n := 2441) (g_at ck_L_law50 1 rfl) (g_at ck_L_law50 2 rfl) (g_at ck_L_law50 3 rfl) (g_at ck_L_law50 4 rfl) (g_at ck_L_law50 5 rfl) rfl ⟨by omega, by omega, by omega⟩ ?_
  refine tz_aload3 (n := 2442) (g_at ck_L_law50 6 rfl) rfl (g_ne kd_122) ?_
  refine tz_cshI4 (n := 2445) (μ' := μL_parting) (cb' := cb) (sb' := sb) ml_L_252 mo_L_parting ms_L_parting np_L_parting (g_at ck_L_law50 7 rfl) (wl_parting (sp_parting (sv_rg γ i 1) (sv_rg γ i 2) hL rfl hS hR hW w.2.1 w.2.2.1 hσ) (c2q c2P c2P)) rfl rfl ⟨by decide, by decide⟩ (Nat.le_of_ble_eq_true rfl) (by omega) (by omega) (g_in (g_m6 (List.mem_of_getElem? (i := 133) rfl)) rfl) (fun x5 ρ5 m5 hq => ?_)
  obtain ⟨hL5, hR5, w5, v5, e5, h5⟩ := rd_C (A := (fun x => (((sv γ i 1) = (sv γ i 2) ∨ s (1 + (sv γ i 1)) ≠ s (1 + (sv γ i 2))) → x = -1) ∧ (¬ ((sv γ i 1) = (sv γ i 2) ∨ s (1 + (sv γ i 1)) ≠ s (1 + (sv γ i 2))) → isF1 (fun j => ¬ ((daysP Λ hl tl (sig0 s) (j + 1)) 0 (1 + (sv γ i 1)) = (daysP Λ hl tl (sig0 s) (j + 1)) 0 (1 + (sv γ i 2)))) 100 x))) w v hL hR hq (fun _ _ _ hz => hz)
  refine tz_istore5 (n := 2447) (g_at ck_L_law50 8 rfl) rfl (by decide) g_hpI ?_
  refine tz_aload2 (n := 2448) (g_at ck_L_law50 9 rfl) rfl (g_ne kd_84) ?_
  refine tz_sv (n := 2454) (g_at ck_L_law50 10 rfl) (g_at ck_L_law50 11 rfl) (g_at ck_L_law50 12 rfl) (g_at ck_L_law50 13 rfl) (g_at ck_L_law50 14 rfl) rfl ⟨by omega, by omega, by omega⟩ ?_
  refine tz_sv (n := 2460) (g_at ck_L_law50 15 rfl) (g_at ck_L_law51 0 rfl) (g_at ck_L_law51 1 rfl) (g_at ck_L_law51 2 rfl) (g_at ck_L_law51 3 rfl) rfl ⟨by omega, by omega, by omega⟩ ?_
  refine tz_cvI2 (n := 2463) (μ' := μX11_parting) (cb' := cb) (sb' := sb) ml_L_254 mo_X11_parting mv_X11_parting np_X11_parting kd_84 (g_at ck_L_law51 4 rfl) (mp_parting (sv_rg γ i 1) (sv_rg γ i 2) hL5 hR5 hW v5.1 v5.2.1 hσ v5.2.2.2.2.2.2.1.2) rfl rfl rfl ⟨by decide, by decide⟩ (Nat.le_of_ble_eq_true rfl) (by omega) (by omega) (fun x6 ρ6 m6 hq6 => ?_)
  obtain ⟨a1, a2, a3, a4⟩ := rd_2 (y := 0) (A := (fun x => (((sv γ i 1) = (sv γ i 2) ∨ s (1 + (sv γ i 1)) ≠ s (1 + (sv γ i 2))) → x = -1) ∧ (¬ ((sv γ i 1) = (sv γ i 2) ∨ s (1 + (sv γ i 1)) ≠ s (1 + (sv γ i 2))) → isF1 (fun j => ¬ ((daysP Λ hl tl (sig0 s) (j + 1)) 0 (1 + (sv γ i 1)) = (daysP Λ hl tl (sig0 s) (j + 1)) 0 (1 + (sv γ i 2)))) 100 x))) (uIf uF1) p w5 v5 hL5 h5 hq6
  refine tz_istore6 (n := 2465) (g_at ck_L_law51 5 rfl) rfl (by decide) g_hpI ?_
  exact lt_tail (g_at ck_L_law51 6 rfl) (g_at ck_L_law51 7 rfl) (g_at ck_L_law51 8 rfl) (g_at ck_L_law51 9 rfl) (g_at ck_L_law51 12 rfl) (g_at ck_L_law51 13 rfl) (g_at ck_L_law51 14 rfl) (g_at ck_L_law51 15 rfl) (g_at ck_L_law52 0 rfl) (g_at ck_L_law52 1 rfl) (g_at ck_L_law52 2 rfl) (g_at ck_L_law52 3 rfl) (g_at ck_L_law52 4 rfl) (g_at ck_L_law52 7 rfl) rfl a4.2.1 (a1.trans e5.symm) (fun h9 => by rw [a2]; exact a3 (by rw [← e5]; exact h9)) (kk _ _ a4)
theorem lb_purse {l : Launch} {γ : Gh} {ρ m : Mm} {R : RR} {X : XX} {cb sb : Nat} {N i : Int} (hI : IW N ρ m) (hN : N ≤ 1000) (hi : 0 ≤ i ∧ i + 6 ≤ γ.2.2.2.2.1 ∧ γ.2.2.2.2.1 < 2147483648) (kk : ∀ ρ9 m9, IW (N + 1) ρ9 m9 → gT l γ μL_law 60 cb sb R X KK ρ9 m9 2837 [some (vR (-1)), some (vR 1), some (vR 84), some (vR 122), some (vI i), none, none] []) : gT l γ μL_law 60 (cb + 4) (sb + 24) R X KK ρ m 2496 [some (vR (-1)), some (vR 1), some (vR 84), some (vR 122), some (vI i), none, none] [] := by
  obtain ⟨hL, hR, Λ, hl, tl, s, n, α, κ, h, s2, n2, α2, κ2, t, tn, pl, f, w, v, p⟩ := hI
  have hW := p.1
  have hσ := p.2.1.1.1
  have hS := w.iS hL
  have hA2 : 0 ≤ m 44 2 ∧ m 44 2 ≤ 40 := by rw [w.2.2.2.1.1]; exact p.2.1.2.1
  have hE3 : 0 ≤ m 46 3 ∧ m 46 3 ≤ 8 := by rw [w.2.2.2.2.1.1]; exact p.2.1.2.2.2.1
  have hf : ∀ k, 0 ≤ k → k < 3 → m 61 k < 2000000000 := fun k k1 k2 => by rw [w.2.2.2.2.2.2.2.2 k k1 k2]; have := p.2.2.2.2.2 k k1 k2; omega
  have hTn : m 1 1 = tn := w.2.2.2.2.2.2.2.1.1
  have hf1 : 0 ≤ m 1 1 ∧ m 1 1 ≤ 700 := by rw [hTn]; exact p.2.2.2.2.1
  refine tz_aload1 (n := 2497) (g_at ck_L_law52 8 rfl) rfl (g_ne kd_1) ?_
  refine tz_sv (n := 2503) (g_at ck_L_law52 9 rfl) (g_at ck_L_law52 10 rfl) (g_at ck_L_law52 11 rfl) (g_at ck_L_law52 12 rfl) (g_at ck_L_law52 13 rfl) rfl ⟨by omega, by omega, by omega⟩ ?_
  refine tz_aload3 (n := 2504) (g_at ck_L_law52 14 rfl) rfl (g_ne kd_122) ?_
  refine tz_cshI3 (n := 2507) (μ' := μL_purse) (cb' := cb) (sb' := sb) ml_L_255 mo_L_purse ms_L_purse np_L_purse (g_at ck_L_law52 15 rfl) (wl_purse (sp_purse (sv_rg γ i 1) hL rfl hS hR hW w.2.1 w.2.2.1 hσ) c2P) rfl rfl ⟨by decide, by decide⟩ (Nat.le_of_ble_eq_true rfl) (by omega) (by omega) (g_in (g_m6 (List.mem_of_getElem? (i := 140) rfl)) rfl) (fun x5 ρ5 m5 hq => ?_)
  obtain ⟨hL5, hR5, w5, v5, e5, h5⟩ := rd_C (A := (fun x => isFN (fun k : Nat => homF Λ hl tl (wr (sig0 s) 0 (9 + (sv γ i 1)) (k : Int)) (sv γ i 1) ≤ 60) 100 x)) w v hL hR hq (fun _ _ _ hz => hz)
  refine tz_istore5 (n := 2509) (g_at ck_L_law53 0 rfl) rfl (by decide) g_hpI ?_
  refine tz_aload2 (n := 2510) (g_at ck_L_law53 1 rfl) rfl (g_ne kd_84) ?_
  refine tz_sv (n := 2516) (g_at ck_L_law53 2 rfl) (g_at ck_L_law53 3 rfl) (g_at ck_L_law53 4 rfl) (g_at ck_L_law53 5 rfl) (g_at ck_L_law53 6 rfl) rfl ⟨by omega, by omega, by omega⟩ ?_
  refine tz_cvI1 (n := 2519) (μ' := μX11_purse) (cb' := cb) (sb' := sb) ml_L_257 mo_X11_purse mv_X11_purse np_X11_purse kd_84 (g_at ck_L_law53 7 rfl) (mp_purse (sv_rg γ i 1) hL5 hR5 hW v5.1 v5.2.1 hσ v5.2.2.2.2.2.2.1.2) rfl rfl rfl ⟨by decide, by decide⟩ (Nat.le_of_ble_eq_true rfl) (by omega) (by omega) (fun x6 ρ6 m6 hq6 => ?_)
  obtain ⟨a1, a2, a3, a4⟩ := rd_2 (y := 0) (A := (fun x => isFN (fun k : Nat => homF Λ hl tl (wr (sig0 s) 0 (9 + (sv γ i 1)) (k : Int)) (sv γ i 1) ≤ 60) 100 x)) uFN p w5 v5 hL5 h5 hq6
  refine tz_istore6 (n := 2521) (g_at ck_L_law53 8 rfl) rfl (by decide) g_hpI ?_
  exact lt_tail (g_at ck_L_law53 9 rfl) (g_at ck_L_law53 10 rfl) (g_at ck_L_law53 11 rfl) (g_at ck_L_law53 12 rfl) (g_at ck_L_law54 0 rfl) (g_at ck_L_law54 1 rfl) (g_at ck_L_law54 2 rfl) (g_at ck_L_law54 3 rfl) (g_at ck_L_law54 4 rfl) (g_at ck_L_law54 5 rfl) (g_at ck_L_law54 6 rfl) (g_at ck_L_law54 7 rfl) (g_at ck_L_law54 8 rfl) (g_at ck_L_law54 11 rfl) rfl a4.2.1 (a1.trans e5.symm) (fun h9 => by rw [a2]; exact a3 (by rw [← e5]; exact h9)) (kk _ _ a4)
theorem lb_cuts {l : Launch} {γ : Gh} {ρ m : Mm} {R : RR} {X : XX} {cb sb : Nat} {N i : Int} (hI : IW N ρ m) (hN : N ≤ 1000) (hi : 0 ≤ i ∧ i + 6 ≤ γ.2.2.2.2.1 ∧ γ.2.2.2.2.1 < 2147483648) (kk : ∀ ρ9 m9, IW (N + 1) ρ9 m9 → gT l γ μL_law 60 cb sb R X KK ρ9 m9 2837 [some (vR (-1)), some (vR 1), some (vR 84), some (vR 122), some (vI i), none, none] []) : gT l γ μL_law 60 (cb + 4) (sb + 24) R X KK ρ m 2552 [some (vR (-1)), some (vR 1), some (vR 84), some (vR 122), some (vI i), none, none] [] := by
  obtain ⟨hL, hR, Λ, hl, tl, s, n, α, κ, h, s2, n2, α2, κ2, t, tn, pl, f, w, v, p⟩ := hI
  have hW := p.1
  have hσ := p.2.1.1.1
  have hS := w.iS hL
  have hA2 : 0 ≤ m 44 2 ∧ m 44 2 ≤ 40 := by rw [w.2.2.2.1.1]; exact p.2.1.2.1
  have hE3 : 0 ≤ m 46 3 ∧ m 46 3 ≤ 8 := by rw [w.2.2.2.2.1.1]; exact p.2.1.2.2.2.1
  have hf : ∀ k, 0 ≤ k → k < 3 → m 61 k < 2000000000 := fun k k1 k2 => by rw [w.2.2.2.2.2.2.2.2 k k1 k2]; have := p.2.2.2.2.2 k k1 k2; omega
  have hTn : m 1 1 = tn := w.2.2.2.2.2.2.2.1.1
  have hf1 : 0 ≤ m 1 1 ∧ m 1 1 ≤ 700 := by rw [hTn]; exact p.2.2.2.2.1
  refine tz_aload1 (n := 2553) (g_at ck_L_law54 12 rfl) rfl (g_ne kd_1) ?_
  refine tz_sv (n := 2559) (g_at ck_L_law54 13 rfl) (g_at ck_L_law54 14 rfl) (g_at ck_L_law55 0 rfl) (g_at ck_L_law55 1 rfl) (g_at ck_L_law55 2 rfl) rfl ⟨by omega, by omega, by omega⟩ ?_
  refine tz_sv (n := 2565) (g_at ck_L_law55 3 rfl) (g_at ck_L_law55 4 rfl) (g_at ck_L_law55 5 rfl) (g_at ck_L_law55 6 rfl) (g_at ck_L_law55 7 rfl) rfl ⟨by omega, by omega, by omega⟩ ?_
  refine tz_aload3 (n := 2566) (g_at ck_L_law55 8 rfl) rfl (g_ne kd_122) ?_
  refine tz_cshI4 (n := 2569) (μ' := μL_cuts) (cb' := cb) (sb' := sb) ml_L_258 mo_L_cuts ms_L_cuts np_L_cuts (g_at ck_L_law55 9 rfl) (wl_cuts (sp_cuts (sv_rg γ i 1) (sv_rg γ i 2) hL rfl hS hR hW w.2.1 w.2.2.1 hσ) (c2q c2P c2W)) rfl rfl ⟨by decide, by decide⟩ (Nat.le_of_ble_eq_true rfl) (by omega) (by omega) (g_in (g_m6 (List.mem_of_getElem? (i := 147) rfl)) rfl) (fun x5 ρ5 m5 hq => ?_)
  obtain ⟨hL5, hR5, w5, v5, e5, h5⟩ := rd_C (A := (fun x => (if (sv γ i 2) = 0 then (if homF Λ hl tl (sig0 s) (sv γ i 1) ≤ 60 then cfN Λ (ctB Λ hl tl s (sv γ i 1)) (Λ 0 0).toNat else (0, -1)).1 else (if homF Λ hl tl (sig0 s) (sv γ i 1) ≤ 60 then cfN Λ (ctB Λ hl tl s (sv γ i 1)) (Λ 0 0).toNat else (0, -1)).2) = x)) w v hL hR hq (fun _ _ _ hz => hz)
  refine tz_istore5 (n := 2571) (g_at ck_L_law55 10 rfl) rfl (by decide) g_hpI ?_
  refine tz_aload2 (n := 2572) (g_at ck_L_law55 11 rfl) rfl (g_ne kd_84) ?_
  refine tz_sv (n := 2578) (g_at ck_L_law55 12 rfl) (g_at ck_L_law55 13 rfl) (g_at ck_L_law55 14 rfl) (g_at ck_L_law56 0 rfl) (g_at ck_L_law56 1 rfl) rfl ⟨by omega, by omega, by omega⟩ ?_
  refine tz_sv (n := 2584) (g_at ck_L_law56 2 rfl) (g_at ck_L_law56 3 rfl) (g_at ck_L_law56 4 rfl) (g_at ck_L_law56 5 rfl) (g_at ck_L_law56 6 rfl) rfl ⟨by omega, by omega, by omega⟩ ?_
  refine tz_cvI2 (n := 2587) (μ' := μX11_cuts) (cb' := cb) (sb' := sb) ml_L_260 mo_X11_cuts mv_X11_cuts np_X11_cuts kd_84 (g_at ck_L_law56 7 rfl) (mp_cuts (sv_rg γ i 1) (sv_rg γ i 2) hL5 hR5 hW v5.1 v5.2.1 hσ v5.2.2.2.2.2.2.1.2) rfl rfl rfl ⟨by decide, by decide⟩ (Nat.le_of_ble_eq_true rfl) (by omega) (by omega) (fun x6 ρ6 m6 hq6 => ?_)
  obtain ⟨a1, a2, a3, a4⟩ := rd_2 (y := 0) (A := (fun x => (if (sv γ i 2) = 0 then (if homF Λ hl tl (sig0 s) (sv γ i 1) ≤ 60 then cfN Λ (ctB Λ hl tl s (sv γ i 1)) (Λ 0 0).toNat else (0, -1)).1 else (if homF Λ hl tl (sig0 s) (sv γ i 1) ≤ 60 then cfN Λ (ctB Λ hl tl s (sv γ i 1)) (Λ 0 0).toNat else (0, -1)).2) = x)) uE p w5 v5 hL5 h5 hq6
  refine tz_istore6 (n := 2589) (g_at ck_L_law56 8 rfl) rfl (by decide) g_hpI ?_
  exact lt_tail (g_at ck_L_law56 9 rfl) (g_at ck_L_law56 10 rfl) (g_at ck_L_law56 11 rfl) (g_at ck_L_law56 12 rfl) (g_at ck_L_law57 0 rfl) (g_at ck_L_law57 1 rfl) (g_at ck_L_law57 2 rfl) (g_at ck_L_law57 3 rfl) (g_at ck_L_law57 4 rfl) (g_at ck_L_law57 5 rfl) (g_at ck_L_law57 6 rfl) (g_at ck_L_law57 7 rfl) (g_at ck_L_law57 8 rfl) (g_at ck_L_law57 11 rfl) rfl a4.2.1 (a1.trans e5.symm) (fun h9 => by rw [a2]; exact a3 (by rw [← e5]; exact h9)) (kk _ _ a4)
theorem lb_gather {l : Launch} {γ : Gh} {ρ m : Mm} {R : RR} {X : XX} {cb sb : Nat} {N i : Int} (hI : IW N ρ m) (hN : N ≤ 1000) (hi : 0 ≤ i ∧ i + 6 ≤ γ.2.2.2.2.1 ∧ γ.2.2.2.2.1 < 2147483648) (kk : ∀ ρ9 m9, IW (N + 1) ρ9 m9 → gT l γ μL_law 60 cb sb R X KK ρ9 m9 2837 [some (vR (-1)), some (vR 1), some (vR 84), some (vR 122), some (vI i), none, none] []) : gT l γ μL_law 60 (cb + 4) (sb + 24) R X KK ρ m 2620 [some (vR (-1)), some (vR 1), some (vR 84), some (vR 122), some (vI i), none, none] [] := by
  obtain ⟨hL, hR, Λ, hl, tl, s, n, α, κ, h, s2, n2, α2, κ2, t, tn, pl, f, w, v, p⟩ := hI
  have hW := p.1
  have hσ := p.2.1.1.1
  have hS := w.iS hL
  have hA2 : 0 ≤ m 44 2 ∧ m 44 2 ≤ 40 := by rw [w.2.2.2.1.1]; exact p.2.1.2.1
  have hE3 : 0 ≤ m 46 3 ∧ m 46 3 ≤ 8 := by rw [w.2.2.2.2.1.1]; exact p.2.1.2.2.2.1
  have hf : ∀ k, 0 ≤ k → k < 3 → m 61 k < 2000000000 := fun k k1 k2 => by rw [w.2.2.2.2.2.2.2.2 k k1 k2]; have := p.2.2.2.2.2 k k1 k2; omega
  have hTn : m 1 1 = tn := w.2.2.2.2.2.2.2.1.1
  have hf1 : 0 ≤ m 1 1 ∧ m 1 1 ≤ 700 := by rw [hTn]; exact p.2.2.2.2.1
  refine tz_aload1 (n := 2621) (g_at ck_L_law57 12 rfl) rfl (g_ne kd_1) ?_
  refine tz_sv (n := 2627) (g_at ck_L_law57 13 rfl) (g_at ck_L_law57 14 rfl) (g_at ck_L_law58 0 rfl) (g_at ck_L_law58 1 rfl) (g_at ck_L_law58 2 rfl) rfl ⟨by omega, by omega, by omega⟩ ?_
  refine tz_aload3 (n := 2628) (g_at ck_L_law58 3 rfl) rfl (g_ne kd_122) ?_
  refine tz_cshI3 (n := 2631) (μ' := μL_gather) (cb' := cb) (sb' := sb) ml_L_261 mo_L_gather ms_L_gather np_L_gather (g_at ck_L_law58 4 rfl) (wl_gather (sp_gather (sv_rg γ i 1) hL rfl hS hR hW w.2.1 w.2.2.1 hσ) c2W) rfl rfl ⟨by decide, by decide⟩ (Nat.le_of_ble_eq_true rfl) (by omega) (by omega) (g_in (g_m6 (List.mem_of_getElem? (i := 158) rfl)) rfl) (fun x5 ρ5 m5 hq => ?_)
  obtain ⟨hL5, hR5, w5, v5, e5, h5⟩ := rd_C (A := (fun x => (if (sv γ i 1) = 0 then (gaN Λ s (Λ 0 0).toNat).1 else if (sv γ i 1) = 1 then (gaN Λ s (Λ 0 0).toNat).2.1 else (gaN Λ s (Λ 0 0).toNat).2.2) = x)) w v hL hR hq (fun _ _ _ hz => hz)
  refine tz_istore5 (n := 2633) (g_at ck_L_law58 5 rfl) rfl (by decide) g_hpI ?_
  refine tz_aload2 (n := 2634) (g_at ck_L_law58 6 rfl) rfl (g_ne kd_84) ?_
  refine tz_sv (n := 2640) (g_at ck_L_law58 7 rfl) (g_at ck_L_law58 8 rfl) (g_at ck_L_law58 9 rfl) (g_at ck_L_law58 10 rfl) (g_at ck_L_law58 11 rfl) rfl ⟨by omega, by omega, by omega⟩ ?_
  refine tz_cvI1 (n := 2643) (μ' := μX11_gather) (cb' := cb) (sb' := sb) ml_L_263 mo_X11_gather mv_X11_gather np_X11_gather kd_84 (g_at ck_L_law58 12 rfl) (mp_gather (sv_rg γ i 1) hL5 hR5 hW v5.1 v5.2.1 hσ v5.2.2.2.2.2.2.1.2) rfl rfl rfl ⟨by decide, by decide⟩ (Nat.le_of_ble_eq_true rfl) (by omega) (by omega) (fun x6 ρ6 m6 hq6 => ?_)
  obtain ⟨a1, a2, a3, a4⟩ := rd_2 (y := 0) (A := (fun x => (if (sv γ i 1) = 0 then (gaN Λ s (Λ 0 0).toNat).1 else if (sv γ i 1) = 1 then (gaN Λ s (Λ 0 0).toNat).2.1 else (gaN Λ s (Λ 0 0).toNat).2.2) = x)) uE p w5 v5 hL5 h5 hq6
  refine tz_istore6 (n := 2645) (g_at ck_L_law58 13 rfl) rfl (by decide) g_hpI ?_
  exact lt_tail (g_at ck_L_law58 14 rfl) (g_at ck_L_law59 0 rfl) (g_at ck_L_law59 1 rfl) (g_at ck_L_law59 2 rfl) (g_at ck_L_law59 5 rfl) (g_at ck_L_law59 6 rfl) (g_at ck_L_law59 7 rfl) (g_at ck_L_law59 8 rfl) (g_at ck_L_law59 9 rfl) (g_at ck_L_law59 10 rfl) (g_at ck_L_law59 11 rfl) (g_at ck_L_law59 12 rfl) (g_at ck_L_law59 13 rfl) (g_at ck_L_law60 1 rfl) rfl a4.2.1 (a1.trans e5.symm) (fun h9 => by rw [a2]; exact a3 (by rw [← e5]; exact h9)) (kk _ _ a4)
theorem lb_walk {l : Launch} {γ : Gh} {ρ m : Mm} {R : RR} {X : XX} {cb sb : Nat} {N i : Int} (hI : IW N ρ m) (hN : N ≤ 1000) (hi : 0 ≤ i ∧ i + 6 ≤ γ.2.2.2.2.1 ∧ γ.2.2.2.2.1 < 2147483648) (kk : ∀ ρ9 m9, IW (N + 1) ρ9 m9 → gT l γ μL_law 60 cb sb R X KK ρ9 m9 2837 [some (vR (-1)), some (vR 1), some (vR 84), some (vR 122), some (vI i), none, none] []) : gT l γ μL_law 60 (cb + 4) (sb + 24) R X KK ρ m 2676 [some (vR (-1)), some (vR 1), some (vR 84), some (vR 122), some (vI i), none, none] [] := by
  obtain ⟨hL, hR, Λ, hl, tl, s, n, α, κ, h, s2, n2, α2, κ2, t, tn, pl, f, w, v, p⟩ := hI
  have hW := p.1
  have hσ := p.2.1.1.1
  have hS := w.iS hL
  have hA2 : 0 ≤ m 44 2 ∧ m 44 2 ≤ 40 := by rw [w.2.2.2.1.1]; exact p.2.1.2.1
  have hE3 : 0 ≤ m 46 3 ∧ m 46 3 ≤ 8 := by rw [w.2.2.2.2.1.1]; exact p.2.1.2.2.2.1
  have hf : ∀ k, 0 ≤ k → k < 3 → m 61 k < 2000000000 := fun k k1 k2 => by rw [w.2.2.2.2.2.2.2.2 k k1 k2]; have := p.2.2.2.2.2 k k1 k2; omega
  have hTn : m 1 1 = tn := w.2.2.2.2.2.2.2.1.1
  have hf1 : 0 ≤ m 1 1 ∧ m 1 1 ≤ 700 := by rw [hTn]; exact p.2.2.2.2.1
  refine tz_aload1 (n := 2677) (g_at ck_L_law60 2 rfl) rfl (g_ne kd_1) ?_
  refine tz_sv (n := 2683) (g_at ck_L_law60 3 rfl) (g_at ck_L_law60 4 rfl) (g_at ck_L_law60 5 rfl) (g_at ck_L_law60 6 rfl) (g_at ck_L_law60 7 rfl) rfl ⟨by omega, by omega, by omega⟩ ?_
  refine tz_sv (n := 2689) (g_at ck_L_law60 8 rfl) (g_at ck_L_law60 9 rfl) (g_at ck_L_law60 10 rfl) (g_at ck_L_law60 11 rfl) (g_at ck_L_law60 12 rfl) rfl ⟨by omega, by omega, by omega⟩ ?_
  refine tz_aload3 (n := 2690) (g_at ck_L_law60 13 rfl) rfl (g_ne kd_122) ?_
  refine tz_cshI4 (n := 2693) (μ' := μL_walk) (cb' := cb) (sb' := sb) ml_L_264 mo_L_walk ms_L_walk np_L_walk (g_at ck_L_law61 0 rfl) (wl_walk (sp_walk (sv_rg γ i 1) (sv_rg γ i 2) hL rfl hS hR hW w.2.1 w.2.2.1 hσ) (c2q c2C c2W)) rfl rfl ⟨by decide, by decide⟩ (Nat.le_of_ble_eq_true rfl) (by omega) (by omega) (g_in (g_m6 (List.mem_of_getElem? (i := 173) rfl)) rfl) (fun x5 ρ5 m5 hq => ?_)
  obtain ⟨hL5, hR5, w5, v5, e5, h5⟩ := rd_C (A := (fun x => (if (sv γ i 2) = 0 then orN (lpN Λ s (sv γ i 1) (Λ 0 0).toNat) else if (sv γ i 2) = 1 then (lgN Λ s (sv γ i 1) (2 ^ (Λ 0 0).toNat)).1 else wyW Λ s 3 (sv γ i 1)) = x)) w v hL hR hq (fun _ _ _ hz => hz)
  refine tz_istore5 (n := 2695) (g_at ck_L_law61 1 rfl) rfl (by decide) g_hpI ?_
  refine tz_aload2 (n := 2696) (g_at ck_L_law61 2 rfl) rfl (g_ne kd_84) ?_
  refine tz_sv (n := 2702) (g_at ck_L_law61 3 rfl) (g_at ck_L_law61 4 rfl) (g_at ck_L_law61 5 rfl) (g_at ck_L_law61 6 rfl) (g_at ck_L_law61 7 rfl) rfl ⟨by omega, by omega, by omega⟩ ?_
  refine tz_sv (n := 2708) (g_at ck_L_law61 8 rfl) (g_at ck_L_law61 9 rfl) (g_at ck_L_law61 10 rfl) (g_at ck_L_law61 11 rfl) (g_at ck_L_law61 12 rfl) rfl ⟨by omega, by omega, by omega⟩ ?_
  refine tz_cvI2 (n := 2711) (μ' := μX11_walk) (cb' := cb) (sb' := sb) ml_L_266 mo_X11_walk mv_X11_walk np_X11_walk kd_84 (g_at ck_L_law61 13 rfl) (mp_walk (sv_rg γ i 1) (sv_rg γ i 2) hL5 hR5 hW v5.1 v5.2.1 hσ v5.2.2.2.2.2.2.1.2) rfl rfl rfl ⟨by decide, by decide⟩ (Nat.le_of_ble_eq_true rfl) (by omega) (by omega) (fun x6 ρ6 m6 hq6 => ?_)
  obtain ⟨a1, a2, a3, a4⟩ := rd_2 (y := 0) (A := (fun x => (if (sv γ i 2) = 0 then orN (lpN Λ s (sv γ i 1) (Λ 0 0).toNat) else if (sv γ i 2) = 1 then (lgN Λ s (sv γ i 1) (2 ^ (Λ 0 0).toNat)).1 else wyW Λ s 3 (sv γ i 1)) = x)) uE p w5 v5 hL5 h5 hq6
  refine tz_istore6 (n := 2713) (g_at ck_L_law62 0 rfl) rfl (by decide) g_hpI ?_
  exact lt_tail (g_at ck_L_law62 1 rfl) (g_at ck_L_law62 2 rfl) (g_at ck_L_law62 3 rfl) (g_at ck_L_law62 4 rfl) (g_at ck_L_law62 7 rfl) (g_at ck_L_law62 8 rfl) (g_at ck_L_law62 9 rfl) (g_at ck_L_law62 10 rfl) (g_at ck_L_law62 11 rfl) (g_at ck_L_law62 12 rfl) (g_at ck_L_law62 13 rfl) (g_at ck_L_law63 0 rfl) (g_at ck_L_law63 1 rfl) (g_at ck_L_law63 4 rfl) rfl a4.2.1 (a1.trans e5.symm) (fun h9 => by rw [a2]; exact a3 (by rw [← e5]; exact h9)) (kk _ _ a4)
theorem lb_tour {l : Launch} {γ : Gh} {ρ m : Mm} {R : RR} {X : XX} {cb sb : Nat} {N i : Int} (hI : IW N ρ m) (hN : N ≤ 1000) (hi : 0 ≤ i ∧ i + 6 ≤ γ.2.2.2.2.1 ∧ γ.2.2.2.2.1 < 2147483648) (kk : ∀ ρ9 m9, IW (N + 1) ρ9 m9 → gT l γ μL_law 60 cb sb R X KK ρ9 m9 2837 [some (vR (-1)), some (vR 1), some (vR 84), some (vR 122), some (vI i), none, none] []) : gT l γ μL_law 60 (cb + 4) (sb + 24) R X KK ρ m 2744 [some (vR (-1)), some (vR 1), some (vR 84), some (vR 122), some (vI i), none, none] [] := by
  obtain ⟨hL, hR, Λ, hl, tl, s, n, α, κ, h, s2, n2, α2, κ2, t, tn, pl, f, w, v, p⟩ := hI
  have hW := p.1
  have hσ := p.2.1.1.1
  have hS := w.iS hL
  have hA2 : 0 ≤ m 44 2 ∧ m 44 2 ≤ 40 := by rw [w.2.2.2.1.1]; exact p.2.1.2.1
  have hE3 : 0 ≤ m 46 3 ∧ m 46 3 ≤ 8 := by rw [w.2.2.2.2.1.1]; exact p.2.1.2.2.2.1
  have hf : ∀ k, 0 ≤ k → k < 3 → m 61 k < 2000000000 := fun k k1 k2 => by rw [w.2.2.2.2.2.2.2.2 k k1 k2]; have := p.2.2.2.2.2 k k1 k2; omega
  have hTn : m 1 1 = tn := w.2.2.2.2.2.2.2.1.1
  have hf1 : 0 ≤ m 1 1 ∧ m 1 1 ≤ 700 := by rw [hTn]; exact p.2.2.2.2.1
  refine tz_aload1 (n := 2745) (g_at ck_L_law63 5 rfl) rfl (g_ne kd_1) ?_
  refine tz_sv (n := 2751) (g_at ck_L_law63 6 rfl) (g_at ck_L_law63 7 rfl) (g_at ck_L_law63 8 rfl) (g_at ck_L_law63 9 rfl) (g_at ck_L_law63 10 rfl) rfl ⟨by omega, by omega, by omega⟩ ?_
  refine tz_aload3 (n := 2752) (g_at ck_L_law63 11 rfl) rfl (g_ne kd_122) ?_
  refine tz_cshI3 (n := 2755) (μ' := μL_tour) (cb' := cb) (sb' := sb) ml_L_267 mo_L_tour ms_L_tour np_L_tour (g_at ck_L_law63 12 rfl) (wl_tour (sp_tour (sv_rg γ i 1) hL rfl hS hR hW w.2.1 w.2.2.1 hσ) c2I) rfl rfl ⟨by decide, by decide⟩ (Nat.le_of_ble_eq_true rfl) (by omega) (by omega) (g_in (g_m6 (List.mem_of_getElem? (i := 193) rfl)) rfl) (fun x5 ρ5 m5 hq => ?_)
  obtain ⟨hL5, hR5, w5, v5, e5, h5⟩ := rd_C (A := (fun x => (Λ 0 0 = 0 → x = -1) ∧ (Λ 0 0 ≠ 0 → ∃ T : Int → Int, TourOK Λ s T 0 ∧ (if (sv γ i 1) = 0 ∨ 10000 ≤ T 9 then orN (T 9) else (tsN Λ s T (sv γ i 1).toNat).2) = x))) w v hL hR hq (fun _ _ _ hz => hz)
  refine tz_istore5 (n := 2757) (g_at ck_L_law63 13 rfl) rfl (by decide) g_hpI ?_
  refine tz_aload2 (n := 2758) (g_at ck_L_law64 0 rfl) rfl (g_ne kd_84) ?_
  refine tz_sv (n := 2764) (g_at ck_L_law64 1 rfl) (g_at ck_L_law64 2 rfl) (g_at ck_L_law64 3 rfl) (g_at ck_L_law64 4 rfl) (g_at ck_L_law64 5 rfl) rfl ⟨by omega, by omega, by omega⟩ ?_
  refine tz_cvI1 (n := 2767) (μ' := μX11_tour) (cb' := cb) (sb' := sb) ml_L_269 mo_X11_tour mv_X11_tour np_X11_tour kd_84 (g_at ck_L_law64 6 rfl) (mp_tour (sv_rg γ i 1) hL5 hR5 hW v5.1 v5.2.1 hσ v5.2.2.2.2.2.2.1.2) rfl rfl rfl ⟨by decide, by decide⟩ (Nat.le_of_ble_eq_true rfl) (by omega) (by omega) (fun x6 ρ6 m6 hq6 => ?_)
  obtain ⟨a1, a2, a3, a4⟩ := rd_2 (y := 0) (A := (fun x => (Λ 0 0 = 0 → x = -1) ∧ (Λ 0 0 ≠ 0 → ∃ T : Int → Int, TourOK Λ s T 0 ∧ (if (sv γ i 1) = 0 ∨ 10000 ≤ T 9 then orN (T 9) else (tsN Λ s T (sv γ i 1).toNat).2) = x))) (uTour hW) p w5 v5 hL5 h5 hq6
  refine tz_istore6 (n := 2769) (g_at ck_L_law64 7 rfl) rfl (by decide) g_hpI ?_
  exact lt_tail (g_at ck_L_law64 8 rfl) (g_at ck_L_law64 9 rfl) (g_at ck_L_law64 10 rfl) (g_at ck_L_law64 11 rfl) (g_at ck_L_law65 0 rfl) (g_at ck_L_law65 1 rfl) (g_at ck_L_law65 2 rfl) (g_at ck_L_law65 3 rfl) (g_at ck_L_law65 4 rfl) (g_at ck_L_law65 5 rfl) (g_at ck_L_law65 6 rfl) (g_at ck_L_law65 7 rfl) (g_at ck_L_law65 8 rfl) (g_at ck_L_law65 11 rfl) rfl a4.2.1 (a1.trans e5.symm) (fun h9 => by rw [a2]; exact a3 (by rw [← e5]; exact h9)) (kk _ _ a4)
theorem lb_circuit {l : Launch} {γ : Gh} {ρ m : Mm} {R : RR} {X : XX} {cb sb : Nat} {N i : Int} (hI : IW N ρ m) (hN : N ≤ 1000) (hi : 0 ≤ i ∧ i + 6 ≤ γ.2.2.2.2.1 ∧ γ.2.2.2.2.1 < 2147483648) (kk : ∀ ρ9 m9, IW (N + 1) ρ9 m9 → gT l γ μL_law 60 cb sb R X KK ρ9 m9 2837 [some (vR (-1)), some (vR 1), some (vR 84), some (vR 122), some (vI i), none, none] []) : gT l γ μL_law 60 (cb + 4) (sb + 24) R X KK ρ m 2800 [some (vR (-1)), some (vR 1), some (vR 84), some (vR 122), some (vI i), none, none] [] := by
  obtain ⟨hL, hR, Λ, hl, tl, s, n, α, κ, h, s2, n2, α2, κ2, t, tn, pl, f, w, v, p⟩ := hI
  have hW := p.1
  have hσ := p.2.1.1.1
  have hS := w.iS hL
  have hA2 : 0 ≤ m 44 2 ∧ m 44 2 ≤ 40 := by rw [w.2.2.2.1.1]; exact p.2.1.2.1
  have hE3 : 0 ≤ m 46 3 ∧ m 46 3 ≤ 8 := by rw [w.2.2.2.2.1.1]; exact p.2.1.2.2.2.1
  have hf : ∀ k, 0 ≤ k → k < 3 → m 61 k < 2000000000 := fun k k1 k2 => by rw [w.2.2.2.2.2.2.2.2 k k1 k2]; have := p.2.2.2.2.2 k k1 k2; omega
  have hTn : m 1 1 = tn := w.2.2.2.2.2.2.2.1.1
  have hf1 : 0 ≤ m 1 1 ∧ m 1 1 ≤ 700 := by rw [hTn]; exact p.2.2.2.2.1
  refine tz_aload1 (n := 2801) (g_at ck_L_law65 12 rfl) rfl (g_ne kd_1) ?_
  refine tz_cvI0 (n := 2804) (μ' := μX10_circuit) (cb' := cb) (sb' := sb) ml_L_270 mo_X10_circuit mv_X10_circuit np_X10_circuit kd_1 (g_at ck_L_law65 13 rfl) (sp_circuit hL rfl hS hR hW w.2.1 w.2.2.1 hσ) rfl rfl rfl ⟨by decide, by decide⟩ (Nat.le_of_ble_eq_true rfl) (by omega) (by omega) (fun x5 ρ5 m5 hq => ?_)
  obtain ⟨hL5, hR5, w5, v5, h5⟩ := rd_D (A := (fun x => (crN Λ s (Λ 0 0).toNat).1 = x)) w v hL hq
  refine tz_aload2 (n := 2805) (g_at ck_L_law66 0 rfl) rfl (g_ne kd_84) ?_
  refine tz_cvI0 (n := 2808) (μ' := μX11_circuit) (cb' := cb) (sb' := sb) ml_L_274 mo_X11_circuit mv_X11_circuit np_X11_circuit kd_84 (g_at ck_L_law66 1 rfl) (mp_circuit hL5 hR5 hW v5.1 v5.2.1 hσ v5.2.2.2.2.2.2.1.2) rfl rfl rfl ⟨by decide, by decide⟩ (Nat.le_of_ble_eq_true rfl) (by omega) (by omega) (fun x6 ρ6 m6 hq6 => ?_)
  obtain ⟨b1, b2, b3, b4, b5, b6, b7⟩ := rd_M (cd := 0) (A := (fun x => (crN Λ s (Λ 0 0).toNat).1 = x)) w5 v5 hL5 ⟨hq6.1, hq6.2.1, hq6.2.2.1, hq6.2.2.2.1, fun _ => hq6.2.2.2.2⟩
  exact tz_eqT (tgt := 2837) (uE _ _ h5 (b7 rfl)) (g_at ck_L_law66 2 rfl) rfl (kk _ _ (IW.mk b1 b2 b3 b4 p.inc))
theorem lb_image {l : Launch} {γ : Gh} {ρ m : Mm} {R : RR} {X : XX} {cb sb : Nat} {N i : Int} (hI : IW N ρ m) (hN : N ≤ 1000) (hi : 0 ≤ i ∧ i + 6 ≤ γ.2.2.2.2.1 ∧ γ.2.2.2.2.1 < 2147483648) (kk : ∀ ρ9 m9, IW (N + 1) ρ9 m9 → gT l γ μL_law 60 cb sb R X KK ρ9 m9 2837 [some (vR (-1)), some (vR 1), some (vR 84), some (vR 122), some (vI i), none, none] []) : gT l γ μL_law 60 (cb + 4) (sb + 24) R X KK ρ m 2813 [some (vR (-1)), some (vR 1), some (vR 84), some (vR 122), some (vI i), none, none] [] := by
  obtain ⟨hL, hR, Λ, hl, tl, s, n, α, κ, h, s2, n2, α2, κ2, t, tn, pl, f, w, v, p⟩ := hI
  have hW := p.1
  have hσ := p.2.1.1.1
  have hS := w.iS hL
  have hA2 : 0 ≤ m 44 2 ∧ m 44 2 ≤ 40 := by rw [w.2.2.2.1.1]; exact p.2.1.2.1
  have hE3 : 0 ≤ m 46 3 ∧ m 46 3 ≤ 8 := by rw [w.2.2.2.2.1.1]; exact p.2.1.2.2.2.1
  have hf : ∀ k, 0 ≤ k → k < 3 → m 61 k < 2000000000 := fun k k1 k2 => by rw [w.2.2.2.2.2.2.2.2 k k1 k2]; have := p.2.2.2.2.2 k k1 k2; omega
  have hTn : m 1 1 = tn := w.2.2.2.2.2.2.2.1.1
  have hf1 : 0 ≤ m 1 1 ∧ m 1 1 ≤ 700 := by rw [hTn]; exact p.2.2.2.2.1
  refine tz_aload1 (n := 2814) (g_at ck_L_law66 5 rfl) rfl (g_ne kd_1) ?_
  refine tz_cvV0 (n := 2817) (μ' := μX10_image) (cb' := cb) (sb' := sb) ml_L_275 mo_X10_image mv_X10_image np_X10_image kd_1 (g_at ck_L_law66 6 rfl) (sp_image hL hR) rfl rfl rfl ⟨by decide, by decide⟩ (Nat.le_of_ble_eq_true rfl) (by omega) (by omega) (fun ρ5 m5 hq => ?_)
  obtain ⟨rfl, hR5, hx⟩ := hq
  have hL5 := hL
  have v5 := v.high (m9 := m5) fun a h1 h2 => by rw [← hx, wr_ne (by omega), sencp_ne (by omega), actcp_ne (by omega), momcp_ne (by omega)]
  refine tz_aload2 (n := 2818) (g_at ck_L_law66 7 rfl) rfl (g_ne kd_84) ?_
  refine tz_cvV0 (n := 2821) (μ' := μX11_image) (cb' := cb) (sb' := sb) ml_L_278 mo_X11_image mv_X11_image np_X11_image kd_84 (g_at ck_L_law66 8 rfl) (mp_image hL5 hR5 v5.2.1 v5.2.2.1 p.2.1.2.1 v5.2.2.2.1 p.2.1.2.2.2.1) rfl rfl rfl ⟨by decide, by decide⟩ (Nat.le_of_ble_eq_true rfl) (by omega) (by omega) (fun ρ6 m6 hq6 => ?_)
  have hI := im_2 p w v5 hL hx hq6
  exact tz_goto (tgt := 2837) (g_at ck_L_law66 9 rfl) rfl (kk _ _ hI)
theorem lb_restore {l : Launch} {γ : Gh} {ρ m : Mm} {R : RR} {X : XX} {cb sb : Nat} {N i : Int} (hI : IW N ρ m) (hN : N ≤ 1000) (hi : 0 ≤ i ∧ i + 6 ≤ γ.2.2.2.2.1 ∧ γ.2.2.2.2.1 < 2147483648) (kk : ∀ ρ9 m9, IW (N + 1) ρ9 m9 → gT l γ μL_law 60 cb sb R X KK ρ9 m9 2837 [some (vR (-1)), some (vR 1), some (vR 84), some (vR 122), some (vI i), none, none] []) : gT l γ μL_law 60 (cb + 4) (sb + 24) R X KK ρ m 2824 [some (vR (-1)), some (vR 1), some (vR 84), some (vR 122), some (vI i), none, none] [] := by
  obtain ⟨hL, hR, Λ, hl, tl, s, n, α, κ, h, s2, n2, α2, κ2, t, tn, pl, f, w, v, p⟩ := hI
  have hW := p.1
  have hσ := p.2.1.1.1
  have hS := w.iS hL
  have hA2 : 0 ≤ m 44 2 ∧ m 44 2 ≤ 40 := by rw [w.2.2.2.1.1]; exact p.2.1.2.1
  have hE3 : 0 ≤ m 46 3 ∧ m 46 3 ≤ 8 := by rw [w.2.2.2.2.1.1]; exact p.2.1.2.2.2.1
  have hf : ∀ k, 0 ≤ k → k < 3 → m 61 k < 2000000000 := fun k k1 k2 => by rw [w.2.2.2.2.2.2.2.2 k k1 k2]; have := p.2.2.2.2.2 k k1 k2; omega
  have hTn : m 1 1 = tn := w.2.2.2.2.2.2.2.1.1
  have hf1 : 0 ≤ m 1 1 ∧ m 1 1 ≤ 700 := by rw [hTn]; exact p.2.2.2.2.1
  refine tz_aload1 (n := 2825) (g_at ck_L_law66 10 rfl) rfl (g_ne kd_1) ?_
  refine tz_cvI0 (n := 2828) (μ' := μX10_restore) (cb' := cb) (sb' := sb) ml_L_279 mo_X10_restore mv_X10_restore np_X10_restore kd_1 (g_at ck_L_law66 11 rfl) (sp_restore hL hR) rfl rfl rfl ⟨by decide, by decide⟩ (Nat.le_of_ble_eq_true rfl) (by omega) (by omega) (fun x5 ρ5 m5 hq => ?_)
  obtain ⟨rfl, hR5, hx⟩ := hq
  have hL5 := hL
  have v5 := v.high (m9 := m5) fun a h1 h2 => by
    by_cases h0 : m 1 9 = 0
    · rw [← (hx.1 h0).2]
    · rw [← (hx.2 h0).2, sencp_ne (by omega), actcp_ne (by omega), momcp_ne (by omega)]
  refine tz_aload2 (n := 2829) (g_at ck_L_law66 12 rfl) rfl (g_ne kd_84) ?_
  by_cases h0 : h = 0
  · skip
    refine tz_cvI0 (n := 2832) (μ' := μX11_restore) (cb' := cb) (sb' := sb) ml_L_282 mo_X11_restore mv_X11_restore np_X11_restore kd_84 (g_at ck_L_law66 13 rfl) (mp_restore (h := h) (n := 0) (α := α2) (κ := fun _ _ => 0) (s := s2) hL5 hR5 ⟨v5.2.2.2.2.1.1, fun h9 => absurd h0 h9⟩ (by decide) ⟨Int.le_refl 0, (by decide : (0 : Int) ≤ 8)⟩) rfl rfl rfl ⟨by decide, by decide⟩ (Nat.le_of_ble_eq_true rfl) (by omega) (by omega) (fun x6 ρ6 m6 hq6 => ?_)
    obtain ⟨e, hI⟩ := re_2 p w v5 hL hx ⟨hq6.1, hq6.2.1, hq6.2.2.1, hq6.2.2.2.1, fun h9 => absurd h0 h9⟩
    exact tz_eqT (tgt := 2837) e (g_at ck_L_law67 0 rfl) rfl (kk _ _ hI)
  · skip
    refine tz_cvI0 (n := 2832) (μ' := μX11_restore) (cb' := cb) (sb' := sb) ml_L_282 mo_X11_restore mv_X11_restore np_X11_restore kd_84 (g_at ck_L_law66 13 rfl) (mp_restore hL5 hR5 v5.2.2.2.2.1 (p.2.2.1.2 h0).2.1 (p.2.2.1.2 h0).2.2.2.1) rfl rfl rfl ⟨by decide, by decide⟩ (Nat.le_of_ble_eq_true rfl) (by omega) (by omega) (fun x6 ρ6 m6 hq6 => ?_)
    obtain ⟨e, hI⟩ := re_2 p w v5 hL hx hq6
    exact tz_eqT (tgt := 2837) e (g_at ck_L_law67 0 rfl) rfl (kk _ _ hI)
