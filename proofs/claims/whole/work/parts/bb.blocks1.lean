/-! The law, call by call. -/
theorem lb_undo {l : Launch} {γ : Gh} {ρ m : Mm} {R : RR} {X : XX} {cb sb : Nat} {N i : Int} (hI : IW N ρ m) (hN : N ≤ 1000) (hi : 0 ≤ i ∧ i + 6 ≤ γ.2.2.2.2.1 ∧ γ.2.2.2.2.1 < 2147483648) (kk : ∀ ρ9 m9, IW (N + 1) ρ9 m9 → gT l γ μL_law 60 cb sb R X KK ρ9 m9 2837 [some (vR (-1)), some (vR 1), some (vR 84), some (vR 122), some (vI i), none, none] []) : gT l γ μL_law 60 (cb + 4) (sb + 24) R X KK ρ m 982 [some (vR (-1)), some (vR 1), some (vR 84), some (vR 122), some (vI i), none, none] [] := by
  obtain ⟨hL, hR, Λ, hl, tl, s, n, α, κ, h, s2, n2, α2, κ2, t, tn, pl, f, w, v, p⟩ := hI
  have hW := p.1
  have hσ := p.2.1.1.1
  have hS := w.iS hL
  have hA2 : 0 ≤ m 44 2 ∧ m 44 2 ≤ 40 := by rw [w.2.2.2.1.1]; exact p.2.1.2.1
  have hE3 : 0 ≤ m 46 3 ∧ m 46 3 ≤ 8 := by rw [w.2.2.2.2.1.1]; exact p.2.1.2.2.2.1
  have hf : ∀ k, 0 ≤ k → k < 3 → m 61 k < 2000000000 := fun k k1 k2 => by rw [w.2.2.2.2.2.2.2.2 k k1 k2]; have := p.2.2.2.2.2 k k1 k2; omega
  have hTn : m 1 1 = tn := w.2.2.2.2.2.2.2.1.1
  have hf1 : 0 ≤ m 1 1 ∧ m 1 1 ≤ 700 := by rw [hTn]; exact p.2.2.2.2.1
  refine tz_aload1 (n := 983) (g_at ck_L_law8 1 rfl) rfl (g_ne kd_1) ?_
  refine tz_cvI0 (n := 986) (μ' := μX10_undo) (cb' := cb) (sb' := sb) ml_L_176 mo_X10_undo mv_X10_undo np_X10_undo kd_1 (g_at ck_L_law8 2 rfl) (sp_undo hL hR w.2.2.2.1.2.1 hA2) rfl rfl rfl ⟨by decide, by decide⟩ (Nat.le_of_ble_eq_true rfl) (by omega) (by omega) (fun x5 ρ5 m5 hq => ?_)
  obtain ⟨hL5, hR5, v5, c1, c2⟩ := un_C w v hL p.2.1.2.1.1 hq
  refine tz_aload2 (n := 987) (g_at ck_L_law8 3 rfl) rfl (g_ne kd_84) ?_
  refine tz_cvI0 (n := 990) (μ' := μX11_undo) (cb' := cb) (sb' := sb) ml_L_179 mo_X11_undo mv_X11_undo np_X11_undo kd_84 (g_at ck_L_law8 4 rfl) (mp_undo hL5 hR5 v5.2.2.1 p.2.1.2.1) rfl rfl rfl ⟨by decide, by decide⟩ (Nat.le_of_ble_eq_true rfl) (by omega) (by omega) (fun x6 ρ6 m6 hq6 => ?_)
  obtain ⟨e, hI⟩ := un_M p v5 hL5 c1 c2 hq6
  exact tz_eqT (tgt := 2837) e (g_at ck_L_law8 5 rfl) rfl (kk _ _ hI)
theorem lb_then {l : Launch} {γ : Gh} {ρ m : Mm} {R : RR} {X : XX} {cb sb : Nat} {N i : Int} (hI : IW N ρ m) (hN : N ≤ 1000) (hi : 0 ≤ i ∧ i + 6 ≤ γ.2.2.2.2.1 ∧ γ.2.2.2.2.1 < 2147483648) (kk : ∀ ρ9 m9, IW (N + 1) ρ9 m9 → gT l γ μL_law 60 cb sb R X KK ρ9 m9 2837 [some (vR (-1)), some (vR 1), some (vR 84), some (vR 122), some (vI i), none, none] []) : gT l γ μL_law 60 (cb + 4) (sb + 24) R X KK ρ m 995 [some (vR (-1)), some (vR 1), some (vR 84), some (vR 122), some (vI i), none, none] [] := by
  obtain ⟨hL, hR, Λ, hl, tl, s, n, α, κ, h, s2, n2, α2, κ2, t, tn, pl, f, w, v, p⟩ := hI
  have hW := p.1
  have hσ := p.2.1.1.1
  have hS := w.iS hL
  have hA2 : 0 ≤ m 44 2 ∧ m 44 2 ≤ 40 := by rw [w.2.2.2.1.1]; exact p.2.1.2.1
  have hE3 : 0 ≤ m 46 3 ∧ m 46 3 ≤ 8 := by rw [w.2.2.2.2.1.1]; exact p.2.1.2.2.2.1
  have hf : ∀ k, 0 ≤ k → k < 3 → m 61 k < 2000000000 := fun k k1 k2 => by rw [w.2.2.2.2.2.2.2.2 k k1 k2]; have := p.2.2.2.2.2 k k1 k2; omega
  have hTn : m 1 1 = tn := w.2.2.2.2.2.2.2.1.1
  have hf1 : 0 ≤ m 1 1 ∧ m 1 1 ≤ 700 := by rw [hTn]; exact p.2.2.2.2.1
  refine tz_aload1 (n := 996) (g_at ck_L_law8 8 rfl) rfl (g_ne kd_1) ?_
  refine tz_sv (n := 1002) (g_at ck_L_law8 9 rfl) (g_at ck_L_law8 10 rfl) (g_at ck_L_law8 11 rfl) (g_at ck_L_law8 12 rfl) (g_at ck_L_law8 13 rfl) rfl ⟨by omega, by omega, by omega⟩ ?_
  refine tz_sv (n := 1008) (g_at ck_L_law8 14 rfl) (g_at ck_L_law8 15 rfl) (g_at ck_L_law8 16 rfl) (g_at ck_L_law8 17 rfl) (g_at ck_L_law8 18 rfl) rfl ⟨by omega, by omega, by omega⟩ ?_
  refine tz_sv (n := 1014) (g_at ck_L_law8 19 rfl) (g_at ck_L_law8 20 rfl) (g_at ck_L_law8 21 rfl) (g_at ck_L_law8 22 rfl) (g_at ck_L_law8 23 rfl) rfl ⟨by omega, by omega, by omega⟩ ?_
  refine tz_aload3 (n := 1015) (g_at ck_L_law8 24 rfl) rfl (g_ne kd_122) ?_
  refine tz_cshI5 (n := 1018) (μ' := μL_then) (cb' := cb) (sb' := sb) ml_L_180 mo_L_then ms_L_then np_L_then (g_at ck_L_law8 25 rfl) (wl_then (sp_then (sv_rg γ i 1) (sv_rg γ i 2) (sv_rg γ i 3) hL rfl hS hR hW w.2.1 w.2.2.1 hσ)) rfl rfl ⟨by decide, by decide⟩ (Nat.le_of_ble_eq_true rfl) (by omega) (by omega) (g_in (g_m5 (List.mem_of_getElem? (i := 138) rfl)) rfl) (fun x5 ρ5 m5 hq => ?_)
  obtain ⟨hL5, hR5, w5, v5, e5, h5⟩ := rd_C (A := (fun x => (if (sv γ i 3) = 0 then (daysP Λ hl tl (sig0 s) (sv γ i 2).toNat) 0 (1 + (sv γ i 1)) else if (sv γ i 3) = 1 then (daysP Λ hl tl (sig0 s) (sv γ i 2).toNat) 0 (9 + (sv γ i 1)) else (daysP Λ hl tl (sig0 s) (sv γ i 2).toNat) 1 (sv γ i 1)) = x)) w v hL hR hq (fun _ _ _ hz => hz)
  refine tz_istore5 (n := 1020) (g_at ck_L_law8 26 rfl) rfl (by decide) g_hpI ?_
  refine tz_aload2 (n := 1021) (g_at ck_L_law8 27 rfl) rfl (g_ne kd_84) ?_
  refine tz_sv (n := 1027) (g_at ck_L_law8 28 rfl) (g_at ck_L_law8 29 rfl) (g_at ck_L_law8 30 rfl) (g_at ck_L_law8 31 rfl) (g_at ck_L_law8 32 rfl) rfl ⟨by omega, by omega, by omega⟩ ?_
  refine tz_sv (n := 1033) (g_at ck_L_law8 33 rfl) (g_at ck_L_law8 34 rfl) (g_at ck_L_law8 35 rfl) (g_at ck_L_law8 36 rfl) (g_at ck_L_law8 37 rfl) rfl ⟨by omega, by omega, by omega⟩ ?_
  refine tz_sv (n := 1039) (g_at ck_L_law8 38 rfl) (g_at ck_L_law9 0 rfl) (g_at ck_L_law9 1 rfl) (g_at ck_L_law9 2 rfl) (g_at ck_L_law9 3 rfl) rfl ⟨by omega, by omega, by omega⟩ ?_
  refine tz_cvI3 (n := 1042) (μ' := μX11_then) (cb' := cb) (sb' := sb) ml_L_182 mo_X11_then mv_X11_then np_X11_then kd_84 (g_at ck_L_law9 4 rfl) (mp_then (sv_rg γ i 1) (sv_rg γ i 2) (sv_rg γ i 3) hL5 hR5 hW v5.1 v5.2.1 hσ v5.2.2.2.2.2.2.1.2) rfl rfl rfl ⟨by decide, by decide⟩ (Nat.le_of_ble_eq_true rfl) (by omega) (by omega) (fun x6 ρ6 m6 hq6 => ?_)
  obtain ⟨a1, a2, a3, a4⟩ := rd_2 (y := 0) (A := (fun x => (if (sv γ i 3) = 0 then (daysP Λ hl tl (sig0 s) (sv γ i 2).toNat) 0 (1 + (sv γ i 1)) else if (sv γ i 3) = 1 then (daysP Λ hl tl (sig0 s) (sv γ i 2).toNat) 0 (9 + (sv γ i 1)) else (daysP Λ hl tl (sig0 s) (sv γ i 2).toNat) 1 (sv γ i 1)) = x)) uE p w5 v5 hL5 h5 hq6
  refine tz_istore6 (n := 1044) (g_at ck_L_law9 5 rfl) rfl (by decide) g_hpI ?_
  exact lt_tail (g_at ck_L_law9 6 rfl) (g_at ck_L_law9 7 rfl) (g_at ck_L_law9 8 rfl) (g_at ck_L_law9 9 rfl) (g_at ck_L_law9 12 rfl) (g_at ck_L_law9 13 rfl) (g_at ck_L_law9 14 rfl) (g_at ck_L_law9 15 rfl) (g_at ck_L_law9 16 rfl) (g_at ck_L_law9 17 rfl) (g_at ck_L_law9 18 rfl) (g_at ck_L_law9 19 rfl) (g_at ck_L_law9 20 rfl) (g_at ck_L_law9 23 rfl) rfl a4.2.1 (a1.trans e5.symm) (fun h9 => by rw [a2]; exact a3 (by rw [← e5]; exact h9)) (kk _ _ a4)
theorem lb_points {l : Launch} {γ : Gh} {ρ m : Mm} {R : RR} {X : XX} {cb sb : Nat} {N i : Int} (hI : IW N ρ m) (hN : N ≤ 1000) (hi : 0 ≤ i ∧ i + 6 ≤ γ.2.2.2.2.1 ∧ γ.2.2.2.2.1 < 2147483648) (kk : ∀ ρ9 m9, IW (N + 1) ρ9 m9 → gT l γ μL_law 60 cb sb R X KK ρ9 m9 2837 [some (vR (-1)), some (vR 1), some (vR 84), some (vR 122), some (vI i), none, none] []) : gT l γ μL_law 60 (cb + 4) (sb + 24) R X KK ρ m 1075 [some (vR (-1)), some (vR 1), some (vR 84), some (vR 122), some (vI i), none, none] [] := by
  obtain ⟨hL, hR, Λ, hl, tl, s, n, α, κ, h, s2, n2, α2, κ2, t, tn, pl, f, w, v, p⟩ := hI
  have hW := p.1
  have hσ := p.2.1.1.1
  have hS := w.iS hL
  have hA2 : 0 ≤ m 44 2 ∧ m 44 2 ≤ 40 := by rw [w.2.2.2.1.1]; exact p.2.1.2.1
  have hE3 : 0 ≤ m 46 3 ∧ m 46 3 ≤ 8 := by rw [w.2.2.2.2.1.1]; exact p.2.1.2.2.2.1
  have hf : ∀ k, 0 ≤ k → k < 3 → m 61 k < 2000000000 := fun k k1 k2 => by rw [w.2.2.2.2.2.2.2.2 k k1 k2]; have := p.2.2.2.2.2 k k1 k2; omega
  have hTn : m 1 1 = tn := w.2.2.2.2.2.2.2.1.1
  have hf1 : 0 ≤ m 1 1 ∧ m 1 1 ≤ 700 := by rw [hTn]; exact p.2.2.2.2.1
  refine tz_aload1 (n := 1076) (g_at ck_L_law9 24 rfl) rfl (g_ne kd_1) ?_
  refine tz_sv (n := 1082) (g_at ck_L_law9 25 rfl) (g_at ck_L_law9 26 rfl) (g_at ck_L_law9 27 rfl) (g_at ck_L_law9 28 rfl) (g_at ck_L_law9 29 rfl) rfl ⟨by omega, by omega, by omega⟩ ?_
  refine tz_sv (n := 1088) (g_at ck_L_law9 30 rfl) (g_at ck_L_law9 31 rfl) (g_at ck_L_law9 32 rfl) (g_at ck_L_law9 33 rfl) (g_at ck_L_law9 34 rfl) rfl ⟨by omega, by omega, by omega⟩ ?_
  refine tz_aload3 (n := 1089) (g_at ck_L_law9 35 rfl) rfl (g_ne kd_122) ?_
  refine tz_cshI4 (n := 1092) (μ' := μL_points) (cb' := cb) (sb' := sb) ml_L_183 mo_L_points ms_L_points np_L_points (g_at ck_L_law9 36 rfl) (wl_points (sp_points (sv_rg γ i 1) (sv_rg γ i 2) hL rfl hS hR hW w.2.1 w.2.2.1 hσ)) rfl rfl ⟨by decide, by decide⟩ (Nat.le_of_ble_eq_true rfl) (by omega) (by omega) (g_in (g_m5 (List.mem_of_getElem? (i := 149) rfl)) rfl) (fun x5 ρ5 m5 hq => ?_)
  obtain ⟨hL5, hR5, w5, v5, e5, h5⟩ := rd_C (A := (fun x => (daysP Λ hl tl (sig0 s) (sv γ i 2).toNat) 0 (17 + (sv γ i 1)) = x)) w v hL hR hq (fun _ _ _ hz => hz)
  refine tz_istore5 (n := 1094) (g_at ck_L_law10 0 rfl) rfl (by decide) g_hpI ?_
  refine tz_aload2 (n := 1095) (g_at ck_L_law10 1 rfl) rfl (g_ne kd_84) ?_
  refine tz_sv (n := 1101) (g_at ck_L_law10 2 rfl) (g_at ck_L_law10 3 rfl) (g_at ck_L_law10 4 rfl) (g_at ck_L_law10 5 rfl) (g_at ck_L_law10 6 rfl) rfl ⟨by omega, by omega, by omega⟩ ?_
  refine tz_sv (n := 1107) (g_at ck_L_law10 7 rfl) (g_at ck_L_law10 8 rfl) (g_at ck_L_law10 9 rfl) (g_at ck_L_law10 10 rfl) (g_at ck_L_law10 11 rfl) rfl ⟨by omega, by omega, by omega⟩ ?_
  refine tz_cvI2 (n := 1110) (μ' := μX11_points) (cb' := cb) (sb' := sb) ml_L_185 mo_X11_points mv_X11_points np_X11_points kd_84 (g_at ck_L_law10 12 rfl) (mp_points (sv_rg γ i 1) (sv_rg γ i 2) hL5 hR5 hW v5.1 v5.2.1 hσ v5.2.2.2.2.2.2.1.2) rfl rfl rfl ⟨by decide, by decide⟩ (Nat.le_of_ble_eq_true rfl) (by omega) (by omega) (fun x6 ρ6 m6 hq6 => ?_)
  obtain ⟨a1, a2, a3, a4⟩ := rd_2 (y := 0) (A := (fun x => (daysP Λ hl tl (sig0 s) (sv γ i 2).toNat) 0 (17 + (sv γ i 1)) = x)) uE p w5 v5 hL5 h5 hq6
  refine tz_istore6 (n := 1112) (g_at ck_L_law10 13 rfl) rfl (by decide) g_hpI ?_
  exact lt_tail (g_at ck_L_law10 14 rfl) (g_at ck_L_law10 15 rfl) (g_at ck_L_law10 16 rfl) (g_at ck_L_law10 17 rfl) (g_at ck_L_law10 20 rfl) (g_at ck_L_law10 21 rfl) (g_at ck_L_law10 22 rfl) (g_at ck_L_law10 23 rfl) (g_at ck_L_law10 24 rfl) (g_at ck_L_law10 25 rfl) (g_at ck_L_law10 26 rfl) (g_at ck_L_law10 27 rfl) (g_at ck_L_law10 28 rfl) (g_at ck_L_law10 31 rfl) rfl a4.2.1 (a1.trans e5.symm) (fun h9 => by rw [a2]; exact a3 (by rw [← e5]; exact h9)) (kk _ _ a4)
theorem lb_comes {l : Launch} {γ : Gh} {ρ m : Mm} {R : RR} {X : XX} {cb sb : Nat} {N i : Int} (hI : IW N ρ m) (hN : N ≤ 1000) (hi : 0 ≤ i ∧ i + 6 ≤ γ.2.2.2.2.1 ∧ γ.2.2.2.2.1 < 2147483648) (kk : ∀ ρ9 m9, IW (N + 1) ρ9 m9 → gT l γ μL_law 60 cb sb R X KK ρ9 m9 2837 [some (vR (-1)), some (vR 1), some (vR 84), some (vR 122), some (vI i), none, none] []) : gT l γ μL_law 60 (cb + 4) (sb + 24) R X KK ρ m 1143 [some (vR (-1)), some (vR 1), some (vR 84), some (vR 122), some (vI i), none, none] [] := by
  obtain ⟨hL, hR, Λ, hl, tl, s, n, α, κ, h, s2, n2, α2, κ2, t, tn, pl, f, w, v, p⟩ := hI
  have hW := p.1
  have hσ := p.2.1.1.1
  have hS := w.iS hL
  have hA2 : 0 ≤ m 44 2 ∧ m 44 2 ≤ 40 := by rw [w.2.2.2.1.1]; exact p.2.1.2.1
  have hE3 : 0 ≤ m 46 3 ∧ m 46 3 ≤ 8 := by rw [w.2.2.2.2.1.1]; exact p.2.1.2.2.2.1
  have hf : ∀ k, 0 ≤ k → k < 3 → m 61 k < 2000000000 := fun k k1 k2 => by rw [w.2.2.2.2.2.2.2.2 k k1 k2]; have := p.2.2.2.2.2 k k1 k2; omega
  have hTn : m 1 1 = tn := w.2.2.2.2.2.2.2.1.1
  have hf1 : 0 ≤ m 1 1 ∧ m 1 1 ≤ 700 := by rw [hTn]; exact p.2.2.2.2.1
  refine tz_aload1 (n := 1144) (g_at ck_L_law10 32 rfl) rfl (g_ne kd_1) ?_
  refine tz_sv (n := 1150) (g_at ck_L_law10 33 rfl) (g_at ck_L_law10 34 rfl) (g_at ck_L_law11 0 rfl) (g_at ck_L_law11 1 rfl) (g_at ck_L_law11 2 rfl) rfl ⟨by omega, by omega, by omega⟩ ?_
  refine tz_sv (n := 1156) (g_at ck_L_law11 3 rfl) (g_at ck_L_law11 4 rfl) (g_at ck_L_law11 5 rfl) (g_at ck_L_law11 6 rfl) (g_at ck_L_law11 7 rfl) rfl ⟨by omega, by omega, by omega⟩ ?_
  refine tz_aload3 (n := 1157) (g_at ck_L_law11 8 rfl) rfl (g_ne kd_122) ?_
  refine tz_cshI4 (n := 1160) (μ' := μL_comes) (cb' := cb) (sb' := sb) ml_L_186 mo_L_comes ms_L_comes np_L_comes (g_at ck_L_law11 9 rfl) (wl_comes (sp_comes (sv_rg γ i 1) (sv_rg γ i 2) hL rfl hS hR hW w.2.1 w.2.2.1 hσ) (c2q c2P c2C)) rfl rfl ⟨by decide, by decide⟩ (Nat.le_of_ble_eq_true rfl) (by omega) (by omega) (g_in (g_m5 (List.mem_of_getElem? (i := 156) rfl)) rfl) (fun x5 ρ5 m5 hq => ?_)
  obtain ⟨hL5, hR5, w5, v5, e5, h5⟩ := rd_C (A := (fun x => isFN (fun j => (daysP Λ hl tl (sig0 s) j) 0 (1 + (sv γ i 1)) = (sv γ i 2)) 101 x)) w v hL hR hq (fun _ _ _ hz => hz)
  refine tz_istore5 (n := 1162) (g_at ck_L_law11 10 rfl) rfl (by decide) g_hpI ?_
  refine tz_aload2 (n := 1163) (g_at ck_L_law11 11 rfl) rfl (g_ne kd_84) ?_
  refine tz_sv (n := 1169) (g_at ck_L_law11 12 rfl) (g_at ck_L_law11 13 rfl) (g_at ck_L_law11 14 rfl) (g_at ck_L_law11 15 rfl) (g_at ck_L_law11 16 rfl) rfl ⟨by omega, by omega, by omega⟩ ?_
  refine tz_sv (n := 1175) (g_at ck_L_law11 17 rfl) (g_at ck_L_law11 18 rfl) (g_at ck_L_law11 19 rfl) (g_at ck_L_law11 20 rfl) (g_at ck_L_law11 21 rfl) rfl ⟨by omega, by omega, by omega⟩ ?_
  refine tz_cvI2 (n := 1178) (μ' := μX11_comes) (cb' := cb) (sb' := sb) ml_L_188 mo_X11_comes mv_X11_comes np_X11_comes kd_84 (g_at ck_L_law11 22 rfl) (mp_comes (sv_rg γ i 1) (sv_rg γ i 2) hL5 hR5 hW v5.1 v5.2.1 hσ v5.2.2.2.2.2.2.1.2) rfl rfl rfl ⟨by decide, by decide⟩ (Nat.le_of_ble_eq_true rfl) (by omega) (by omega) (fun x6 ρ6 m6 hq6 => ?_)
  obtain ⟨a1, a2, a3, a4⟩ := rd_2 (y := 0) (A := (fun x => isFN (fun j => (daysP Λ hl tl (sig0 s) j) 0 (1 + (sv γ i 1)) = (sv γ i 2)) 101 x)) uFN p w5 v5 hL5 h5 hq6
  refine tz_istore6 (n := 1180) (g_at ck_L_law11 23 rfl) rfl (by decide) g_hpI ?_
  exact lt_tail (g_at ck_L_law11 24 rfl) (g_at ck_L_law11 25 rfl) (g_at ck_L_law11 26 rfl) (g_at ck_L_law11 27 rfl) (g_at ck_L_law11 30 rfl) (g_at ck_L_law11 31 rfl) (g_at ck_L_law11 32 rfl) (g_at ck_L_law11 33 rfl) (g_at ck_L_law12 0 rfl) (g_at ck_L_law12 1 rfl) (g_at ck_L_law12 2 rfl) (g_at ck_L_law12 3 rfl) (g_at ck_L_law12 4 rfl) (g_at ck_L_law12 7 rfl) rfl a4.2.1 (a1.trans e5.symm) (fun h9 => by rw [a2]; exact a3 (by rw [← e5]; exact h9)) (kk _ _ a4)
theorem lb_meet {l : Launch} {γ : Gh} {ρ m : Mm} {R : RR} {X : XX} {cb sb : Nat} {N i : Int} (hI : IW N ρ m) (hN : N ≤ 1000) (hi : 0 ≤ i ∧ i + 6 ≤ γ.2.2.2.2.1 ∧ γ.2.2.2.2.1 < 2147483648) (kk : ∀ ρ9 m9, IW (N + 1) ρ9 m9 → gT l γ μL_law 60 cb sb R X KK ρ9 m9 2837 [some (vR (-1)), some (vR 1), some (vR 84), some (vR 122), some (vI i), none, none] []) : gT l γ μL_law 60 (cb + 4) (sb + 24) R X KK ρ m 1211 [some (vR (-1)), some (vR 1), some (vR 84), some (vR 122), some (vI i), none, none] [] := by
  obtain ⟨hL, hR, Λ, hl, tl, s, n, α, κ, h, s2, n2, α2, κ2, t, tn, pl, f, w, v, p⟩ := hI
  have hW := p.1
  have hσ := p.2.1.1.1
  have hS := w.iS hL
  have hA2 : 0 ≤ m 44 2 ∧ m 44 2 ≤ 40 := by rw [w.2.2.2.1.1]; exact p.2.1.2.1
  have hE3 : 0 ≤ m 46 3 ∧ m 46 3 ≤ 8 := by rw [w.2.2.2.2.1.1]; exact p.2.1.2.2.2.1
  have hf : ∀ k, 0 ≤ k → k < 3 → m 61 k < 2000000000 := fun k k1 k2 => by rw [w.2.2.2.2.2.2.2.2 k k1 k2]; have := p.2.2.2.2.2 k k1 k2; omega
  have hTn : m 1 1 = tn := w.2.2.2.2.2.2.2.1.1
  have hf1 : 0 ≤ m 1 1 ∧ m 1 1 ≤ 700 := by rw [hTn]; exact p.2.2.2.2.1
  refine tz_aload1 (n := 1212) (g_at ck_L_law12 8 rfl) rfl (g_ne kd_1) ?_
  refine tz_sv (n := 1218) (g_at ck_L_law12 9 rfl) (g_at ck_L_law12 10 rfl) (g_at ck_L_law12 11 rfl) (g_at ck_L_law12 12 rfl) (g_at ck_L_law12 13 rfl) rfl ⟨by omega, by omega, by omega⟩ ?_
  refine tz_sv (n := 1224) (g_at ck_L_law12 14 rfl) (g_at ck_L_law12 15 rfl) (g_at ck_L_law12 16 rfl) (g_at ck_L_law12 17 rfl) (g_at ck_L_law12 18 rfl) rfl ⟨by omega, by omega, by omega⟩ ?_
  refine tz_aload3 (n := 1225) (g_at ck_L_law12 19 rfl) rfl (g_ne kd_122) ?_
  refine tz_cshI4 (n := 1228) (μ' := μL_meet) (cb' := cb) (sb' := sb) ml_L_189 mo_L_meet ms_L_meet np_L_meet (g_at ck_L_law12 20 rfl) (wl_meet (sp_meet (sv_rg γ i 1) (sv_rg γ i 2) hL rfl hS hR hW w.2.1 w.2.2.1 hσ) (c2q c2P c2P)) rfl rfl ⟨by decide, by decide⟩ (Nat.le_of_ble_eq_true rfl) (by omega) (by omega) (g_in (g_m5 (List.mem_of_getElem? (i := 163) rfl)) rfl) (fun x5 ρ5 m5 hq => ?_)
  obtain ⟨hL5, hR5, w5, v5, e5, h5⟩ := rd_C (A := (fun x => ((sv γ i 1) = (sv γ i 2) → x = -1) ∧ (¬ (sv γ i 1) = (sv γ i 2) → isFN (fun j => (daysP Λ hl tl (sig0 s) j) 0 (1 + (sv γ i 1)) = (daysP Λ hl tl (sig0 s) j) 0 (1 + (sv γ i 2))) 101 x))) w v hL hR hq (fun _ _ _ hz => hz)
  refine tz_istore5 (n := 1230) (g_at ck_L_law12 21 rfl) rfl (by decide) g_hpI ?_
  refine tz_aload2 (n := 1231) (g_at ck_L_law12 22 rfl) rfl (g_ne kd_84) ?_
  refine tz_sv (n := 1237) (g_at ck_L_law12 23 rfl) (g_at ck_L_law12 24 rfl) (g_at ck_L_law12 25 rfl) (g_at ck_L_law12 26 rfl) (g_at ck_L_law12 27 rfl) rfl ⟨by omega, by omega, by omega⟩ ?_
  refine tz_sv (n := 1243) (g_at ck_L_law12 28 rfl) (g_at ck_L_law12 29 rfl) (g_at ck_L_law12 30 rfl) (g_at ck_L_law12 31 rfl) (g_at ck_L_law13 0 rfl) rfl ⟨by omega, by omega, by omega⟩ ?_
  refine tz_cvI2 (n := 1246) (μ' := μX11_meet) (cb' := cb) (sb' := sb) ml_L_191 mo_X11_meet mv_X11_meet np_X11_meet kd_84 (g_at ck_L_law13 1 rfl) (mp_meet (sv_rg γ i 1) (sv_rg γ i 2) hL5 hR5 hW v5.1 v5.2.1 hσ v5.2.2.2.2.2.2.1.2) rfl rfl rfl ⟨by decide, by decide⟩ (Nat.le_of_ble_eq_true rfl) (by omega) (by omega) (fun x6 ρ6 m6 hq6 => ?_)
  obtain ⟨a1, a2, a3, a4⟩ := rd_2 (y := 0) (A := (fun x => ((sv γ i 1) = (sv γ i 2) → x = -1) ∧ (¬ (sv γ i 1) = (sv γ i 2) → isFN (fun j => (daysP Λ hl tl (sig0 s) j) 0 (1 + (sv γ i 1)) = (daysP Λ hl tl (sig0 s) j) 0 (1 + (sv γ i 2))) 101 x))) (uIf uFN) p w5 v5 hL5 h5 hq6
  refine tz_istore6 (n := 1248) (g_at ck_L_law13 2 rfl) rfl (by decide) g_hpI ?_
  exact lt_tail (g_at ck_L_law13 3 rfl) (g_at ck_L_law13 4 rfl) (g_at ck_L_law13 5 rfl) (g_at ck_L_law13 6 rfl) (g_at ck_L_law13 9 rfl) (g_at ck_L_law13 10 rfl) (g_at ck_L_law13 11 rfl) (g_at ck_L_law13 12 rfl) (g_at ck_L_law13 13 rfl) (g_at ck_L_law13 14 rfl) (g_at ck_L_law13 15 rfl) (g_at ck_L_law13 16 rfl) (g_at ck_L_law13 17 rfl) (g_at ck_L_law13 20 rfl) rfl a4.2.1 (a1.trans e5.symm) (fun h9 => by rw [a2]; exact a3 (by rw [← e5]; exact h9)) (kk _ _ a4)
theorem lb_gone {l : Launch} {γ : Gh} {ρ m : Mm} {R : RR} {X : XX} {cb sb : Nat} {N i : Int} (hI : IW N ρ m) (hN : N ≤ 1000) (hi : 0 ≤ i ∧ i + 6 ≤ γ.2.2.2.2.1 ∧ γ.2.2.2.2.1 < 2147483648) (kk : ∀ ρ9 m9, IW (N + 1) ρ9 m9 → gT l γ μL_law 60 cb sb R X KK ρ9 m9 2837 [some (vR (-1)), some (vR 1), some (vR 84), some (vR 122), some (vI i), none, none] []) : gT l γ μL_law 60 (cb + 4) (sb + 24) R X KK ρ m 1279 [some (vR (-1)), some (vR 1), some (vR 84), some (vR 122), some (vI i), none, none] [] := by
  obtain ⟨hL, hR, Λ, hl, tl, s, n, α, κ, h, s2, n2, α2, κ2, t, tn, pl, f, w, v, p⟩ := hI
  have hW := p.1
  have hσ := p.2.1.1.1
  have hS := w.iS hL
  have hA2 : 0 ≤ m 44 2 ∧ m 44 2 ≤ 40 := by rw [w.2.2.2.1.1]; exact p.2.1.2.1
  have hE3 : 0 ≤ m 46 3 ∧ m 46 3 ≤ 8 := by rw [w.2.2.2.2.1.1]; exact p.2.1.2.2.2.1
  have hf : ∀ k, 0 ≤ k → k < 3 → m 61 k < 2000000000 := fun k k1 k2 => by rw [w.2.2.2.2.2.2.2.2 k k1 k2]; have := p.2.2.2.2.2 k k1 k2; omega
  have hTn : m 1 1 = tn := w.2.2.2.2.2.2.2.1.1
  have hf1 : 0 ≤ m 1 1 ∧ m 1 1 ≤ 700 := by rw [hTn]; exact p.2.2.2.2.1
  refine tz_aload1 (n := 1280) (g_at ck_L_law13 21 rfl) rfl (g_ne kd_1) ?_
  refine tz_sv (n := 1286) (g_at ck_L_law13 22 rfl) (g_at ck_L_law13 23 rfl) (g_at ck_L_law13 24 rfl) (g_at ck_L_law13 25 rfl) (g_at ck_L_law13 26 rfl) rfl ⟨by omega, by omega, by omega⟩ ?_
  refine tz_sv (n := 1292) (g_at ck_L_law13 27 rfl) (g_at ck_L_law13 28 rfl) (g_at ck_L_law13 29 rfl) (g_at ck_L_law13 30 rfl) (g_at ck_L_law14 0 rfl) rfl ⟨by omega, by omega, by omega⟩ ?_
  refine tz_sv (n := 1298) (g_at ck_L_law14 1 rfl) (g_at ck_L_law14 2 rfl) (g_at ck_L_law14 3 rfl) (g_at ck_L_law14 4 rfl) (g_at ck_L_law14 5 rfl) rfl ⟨by omega, by omega, by omega⟩ ?_
  refine tz_aload3 (n := 1299) (g_at ck_L_law14 6 rfl) rfl (g_ne kd_122) ?_
  refine tz_cshI5 (n := 1302) (μ' := μL_gone) (cb' := cb) (sb' := sb) ml_L_192 mo_L_gone ms_L_gone np_L_gone (g_at ck_L_law14 7 rfl) (wl_gone (sp_gone (sv_rg γ i 1) (sv_rg γ i 2) (sv_rg γ i 3) hL rfl hS hR hW w.2.1 w.2.2.1 hσ)) rfl rfl ⟨by decide, by decide⟩ (Nat.le_of_ble_eq_true rfl) (by omega) (by omega) (g_in (g_m5 (List.mem_of_getElem? (i := 174) rfl)) rfl) (fun x5 ρ5 m5 hq => ?_)
  obtain ⟨hL5, hR5, w5, v5, e5, h5⟩ := rd_C (A := (fun x => (daysP Λ hl tl (sig0 s) (sv γ i 3).toNat) 2 ((sv γ i 1) * 5 + (sv γ i 2)) = x)) w v hL hR hq (fun _ _ _ hz => hz)
  refine tz_istore5 (n := 1304) (g_at ck_L_law14 8 rfl) rfl (by decide) g_hpI ?_
  refine tz_aload2 (n := 1305) (g_at ck_L_law14 9 rfl) rfl (g_ne kd_84) ?_
  refine tz_sv (n := 1311) (g_at ck_L_law14 10 rfl) (g_at ck_L_law14 11 rfl) (g_at ck_L_law14 12 rfl) (g_at ck_L_law14 13 rfl) (g_at ck_L_law14 14 rfl) rfl ⟨by omega, by omega, by omega⟩ ?_
  refine tz_sv (n := 1317) (g_at ck_L_law14 15 rfl) (g_at ck_L_law14 16 rfl) (g_at ck_L_law14 17 rfl) (g_at ck_L_law14 18 rfl) (g_at ck_L_law14 19 rfl) rfl ⟨by omega, by omega, by omega⟩ ?_
  refine tz_sv (n := 1323) (g_at ck_L_law14 20 rfl) (g_at ck_L_law14 21 rfl) (g_at ck_L_law14 22 rfl) (g_at ck_L_law14 23 rfl) (g_at ck_L_law14 24 rfl) rfl ⟨by omega, by omega, by omega⟩ ?_
  refine tz_cvI3 (n := 1326) (μ' := μX11_gone) (cb' := cb) (sb' := sb) ml_L_194 mo_X11_gone mv_X11_gone np_X11_gone kd_84 (g_at ck_L_law14 25 rfl) (mp_gone (sv_rg γ i 1) (sv_rg γ i 2) (sv_rg γ i 3) hL5 hR5 hW v5.1 v5.2.1 hσ v5.2.2.2.2.2.2.1.2) rfl rfl rfl ⟨by decide, by decide⟩ (Nat.le_of_ble_eq_true rfl) (by omega) (by omega) (fun x6 ρ6 m6 hq6 => ?_)
  obtain ⟨a1, a2, a3, a4⟩ := rd_2 (y := 0) (A := (fun x => (daysP Λ hl tl (sig0 s) (sv γ i 3).toNat) 2 ((sv γ i 1) * 5 + (sv γ i 2)) = x)) uE p w5 v5 hL5 h5 hq6
  refine tz_istore6 (n := 1328) (g_at ck_L_law14 26 rfl) rfl (by decide) g_hpI ?_
  exact lt_tail (g_at ck_L_law14 27 rfl) (g_at ck_L_law14 28 rfl) (g_at ck_L_law14 29 rfl) (g_at ck_L_law15 0 rfl) (g_at ck_L_law15 3 rfl) (g_at ck_L_law15 4 rfl) (g_at ck_L_law15 5 rfl) (g_at ck_L_law15 6 rfl) (g_at ck_L_law15 7 rfl) (g_at ck_L_law15 8 rfl) (g_at ck_L_law15 9 rfl) (g_at ck_L_law15 10 rfl) (g_at ck_L_law15 11 rfl) (g_at ck_L_law15 14 rfl) rfl a4.2.1 (a1.trans e5.symm) (fun h9 => by rw [a2]; exact a3 (by rw [← e5]; exact h9)) (kk _ _ a4)
theorem lb_later {l : Launch} {γ : Gh} {ρ m : Mm} {R : RR} {X : XX} {cb sb : Nat} {N i : Int} (hI : IW N ρ m) (hN : N ≤ 1000) (hi : 0 ≤ i ∧ i + 6 ≤ γ.2.2.2.2.1 ∧ γ.2.2.2.2.1 < 2147483648) (kk : ∀ ρ9 m9, IW (N + 1) ρ9 m9 → gT l γ μL_law 60 cb sb R X KK ρ9 m9 2837 [some (vR (-1)), some (vR 1), some (vR 84), some (vR 122), some (vI i), none, none] []) : gT l γ μL_law 60 (cb + 4) (sb + 24) R X KK ρ m 1359 [some (vR (-1)), some (vR 1), some (vR 84), some (vR 122), some (vI i), none, none] [] := by
  obtain ⟨hL, hR, Λ, hl, tl, s, n, α, κ, h, s2, n2, α2, κ2, t, tn, pl, f, w, v, p⟩ := hI
  have hW := p.1
  have hσ := p.2.1.1.1
  have hS := w.iS hL
  have hA2 : 0 ≤ m 44 2 ∧ m 44 2 ≤ 40 := by rw [w.2.2.2.1.1]; exact p.2.1.2.1
  have hE3 : 0 ≤ m 46 3 ∧ m 46 3 ≤ 8 := by rw [w.2.2.2.2.1.1]; exact p.2.1.2.2.2.1
  have hf : ∀ k, 0 ≤ k → k < 3 → m 61 k < 2000000000 := fun k k1 k2 => by rw [w.2.2.2.2.2.2.2.2 k k1 k2]; have := p.2.2.2.2.2 k k1 k2; omega
  have hTn : m 1 1 = tn := w.2.2.2.2.2.2.2.1.1
  have hf1 : 0 ≤ m 1 1 ∧ m 1 1 ≤ 700 := by rw [hTn]; exact p.2.2.2.2.1
  refine tz_aload1 (n := 1360) (g_at ck_L_law15 15 rfl) rfl (g_ne kd_1) ?_
  refine tz_sv (n := 1366) (g_at ck_L_law15 16 rfl) (g_at ck_L_law15 17 rfl) (g_at ck_L_law15 18 rfl) (g_at ck_L_law15 19 rfl) (g_at ck_L_law15 20 rfl) rfl ⟨by omega, by omega, by omega⟩ ?_
  refine tz_sv (n := 1372) (g_at ck_L_law15 21 rfl) (g_at ck_L_law15 22 rfl) (g_at ck_L_law15 23 rfl) (g_at ck_L_law15 24 rfl) (g_at ck_L_law15 25 rfl) rfl ⟨by omega, by omega, by omega⟩ ?_
  refine tz_aload3 (n := 1373) (g_at ck_L_law15 26 rfl) rfl (g_ne kd_122) ?_
  refine tz_cshI4 (n := 1376) (μ' := μL_later) (cb' := cb) (sb' := sb) ml_L_195 mo_L_later ms_L_later np_L_later (g_at ck_L_law15 27 rfl) (wl_later (sp_later (sv_rg γ i 1) (sv_rg γ i 2) hL rfl hS hR hW w.2.1 w.2.2.1 hσ)) rfl rfl ⟨by decide, by decide⟩ (Nat.le_of_ble_eq_true rfl) (by omega) (by omega) (g_in (g_m5 (List.mem_of_getElem? (i := 182) rfl)) rfl) (fun x5 ρ5 m5 hq => ?_)
  obtain ⟨hL5, hR5, w5, v5, e5, h5⟩ := rd_C (A := (fun x => (if (sv γ i 2) = 0 then homB Λ (daysP Λ hl tl (sig0 s) (sv γ i 1).toNat) else if (sv γ i 2) = 1 then (porN (daysP Λ hl tl (sig0 s) (sv γ i 1).toNat) (Λ 0 1).toNat).1 else if (sv γ i 2) = 2 then (bzN (ofN Λ hl tl (sig0 s) (sv γ i 1).toNat) (Λ 0 0).toNat).1 else stkP Λ hl tl (daysP Λ hl tl (sig0 s) (sv γ i 1).toNat)) = x)) w v hL hR hq (fun _ _ _ hz => hz)
  refine tz_istore5 (n := 1378) (g_at ck_L_law15 28 rfl) rfl (by decide) g_hpI ?_
  refine tz_aload2 (n := 1379) (g_at ck_L_law16 0 rfl) rfl (g_ne kd_84) ?_
  refine tz_sv (n := 1385) (g_at ck_L_law16 1 rfl) (g_at ck_L_law16 2 rfl) (g_at ck_L_law16 3 rfl) (g_at ck_L_law16 4 rfl) (g_at ck_L_law16 5 rfl) rfl ⟨by omega, by omega, by omega⟩ ?_
  refine tz_sv (n := 1391) (g_at ck_L_law16 6 rfl) (g_at ck_L_law16 7 rfl) (g_at ck_L_law16 8 rfl) (g_at ck_L_law16 9 rfl) (g_at ck_L_law16 10 rfl) rfl ⟨by omega, by omega, by omega⟩ ?_
  refine tz_cvI2 (n := 1394) (μ' := μX11_later) (cb' := cb) (sb' := sb) ml_L_197 mo_X11_later mv_X11_later np_X11_later kd_84 (g_at ck_L_law16 11 rfl) (mp_later (sv_rg γ i 1) (sv_rg γ i 2) hL5 hR5 hW v5.1 v5.2.1 hσ v5.2.2.2.2.2.2.1.2) rfl rfl rfl ⟨by decide, by decide⟩ (Nat.le_of_ble_eq_true rfl) (by omega) (by omega) (fun x6 ρ6 m6 hq6 => ?_)
  obtain ⟨a1, a2, a3, a4⟩ := rd_2 (y := 0) (A := (fun x => (if (sv γ i 2) = 0 then homB Λ (daysP Λ hl tl (sig0 s) (sv γ i 1).toNat) else if (sv γ i 2) = 1 then (porN (daysP Λ hl tl (sig0 s) (sv γ i 1).toNat) (Λ 0 1).toNat).1 else if (sv γ i 2) = 2 then (bzN (ofN Λ hl tl (sig0 s) (sv γ i 1).toNat) (Λ 0 0).toNat).1 else stkP Λ hl tl (daysP Λ hl tl (sig0 s) (sv γ i 1).toNat)) = x)) uE p w5 v5 hL5 h5 hq6
  refine tz_istore6 (n := 1396) (g_at ck_L_law16 12 rfl) rfl (by decide) g_hpI ?_
  exact lt_tail (g_at ck_L_law16 13 rfl) (g_at ck_L_law16 14 rfl) (g_at ck_L_law16 15 rfl) (g_at ck_L_law16 16 rfl) (g_at ck_L_law16 19 rfl) (g_at ck_L_law16 20 rfl) (g_at ck_L_law16 21 rfl) (g_at ck_L_law16 22 rfl) (g_at ck_L_law16 23 rfl) (g_at ck_L_law16 24 rfl) (g_at ck_L_law16 25 rfl) (g_at ck_L_law16 26 rfl) (g_at ck_L_law16 27 rfl) (g_at ck_L_law17 2 rfl) rfl a4.2.1 (a1.trans e5.symm) (fun h9 => by rw [a2]; exact a3 (by rw [← e5]; exact h9)) (kk _ _ a4)
theorem lb_round {l : Launch} {γ : Gh} {ρ m : Mm} {R : RR} {X : XX} {cb sb : Nat} {N i : Int} (hI : IW N ρ m) (hN : N ≤ 1000) (hi : 0 ≤ i ∧ i + 6 ≤ γ.2.2.2.2.1 ∧ γ.2.2.2.2.1 < 2147483648) (kk : ∀ ρ9 m9, IW (N + 1) ρ9 m9 → gT l γ μL_law 60 cb sb R X KK ρ9 m9 2837 [some (vR (-1)), some (vR 1), some (vR 84), some (vR 122), some (vI i), none, none] []) : gT l γ μL_law 60 (cb + 4) (sb + 24) R X KK ρ m 1427 [some (vR (-1)), some (vR 1), some (vR 84), some (vR 122), some (vI i), none, none] [] := by
  obtain ⟨hL, hR, Λ, hl, tl, s, n, α, κ, h, s2, n2, α2, κ2, t, tn, pl, f, w, v, p⟩ := hI
  have hW := p.1
  have hσ := p.2.1.1.1
  have hS := w.iS hL
  have hA2 : 0 ≤ m 44 2 ∧ m 44 2 ≤ 40 := by rw [w.2.2.2.1.1]; exact p.2.1.2.1
  have hE3 : 0 ≤ m 46 3 ∧ m 46 3 ≤ 8 := by rw [w.2.2.2.2.1.1]; exact p.2.1.2.2.2.1
  have hf : ∀ k, 0 ≤ k → k < 3 → m 61 k < 2000000000 := fun k k1 k2 => by rw [w.2.2.2.2.2.2.2.2 k k1 k2]; have := p.2.2.2.2.2 k k1 k2; omega
  have hTn : m 1 1 = tn := w.2.2.2.2.2.2.2.1.1
  have hf1 : 0 ≤ m 1 1 ∧ m 1 1 ≤ 700 := by rw [hTn]; exact p.2.2.2.2.1
  refine tz_aload1 (n := 1428) (g_at ck_L_law17 3 rfl) rfl (g_ne kd_1) ?_
  refine tz_cvI0 (n := 1431) (μ' := μX10_round) (cb' := cb) (sb' := sb) ml_L_198 mo_X10_round mv_X10_round np_X10_round kd_1 (g_at ck_L_law17 4 rfl) (sp_round hL rfl hS hR hW w.2.1 w.2.2.1 hσ) rfl rfl rfl ⟨by decide, by decide⟩ (Nat.le_of_ble_eq_true rfl) (by omega) (by omega) (fun x5 ρ5 m5 hq => ?_)
  obtain ⟨hL5, hR5, w5, v5, h5⟩ := rd_D (A := (fun x => isF1 (fun j => likeP (daysP Λ hl tl (sig0 s) (j + 1)) s ≠ 0) 200 x)) w v hL hq
  refine tz_aload2 (n := 1432) (g_at ck_L_law17 5 rfl) rfl (g_ne kd_84) ?_
  refine tz_cvI0 (n := 1435) (μ' := μX11_round) (cb' := cb) (sb' := sb) ml_L_201 mo_X11_round mv_X11_round np_X11_round kd_84 (g_at ck_L_law17 6 rfl) (mp_round hL5 hR5 hW v5.1 v5.2.1 hσ v5.2.2.2.2.2.2.1.2) rfl rfl rfl ⟨by decide, by decide⟩ (Nat.le_of_ble_eq_true rfl) (by omega) (by omega) (fun x6 ρ6 m6 hq6 => ?_)
  obtain ⟨b1, b2, b3, b4, b5, b6, b7⟩ := rd_M (cd := 0) (A := (fun x => isF1 (fun j => likeP (daysP Λ hl tl (sig0 s) (j + 1)) s ≠ 0) 200 x)) w5 v5 hL5 ⟨hq6.1, hq6.2.1, hq6.2.2.1, hq6.2.2.2.1, fun _ => hq6.2.2.2.2⟩
  exact tz_eqT (tgt := 2837) (uF1 _ _ h5 (b7 rfl)) (g_at ck_L_law17 7 rfl) rfl (kk _ _ (IW.mk b1 b2 b3 b4 p.inc))
theorem lb_way {l : Launch} {γ : Gh} {ρ m : Mm} {R : RR} {X : XX} {cb sb : Nat} {N i : Int} (hI : IW N ρ m) (hN : N ≤ 1000) (hi : 0 ≤ i ∧ i + 6 ≤ γ.2.2.2.2.1 ∧ γ.2.2.2.2.1 < 2147483648) (kk : ∀ ρ9 m9, IW (N + 1) ρ9 m9 → gT l γ μL_law 60 cb sb R X KK ρ9 m9 2837 [some (vR (-1)), some (vR 1), some (vR 84), some (vR 122), some (vI i), none, none] []) : gT l γ μL_law 60 (cb + 4) (sb + 24) R X KK ρ m 1440 [some (vR (-1)), some (vR 1), some (vR 84), some (vR 122), some (vI i), none, none] [] := by
  obtain ⟨hL, hR, Λ, hl, tl, s, n, α, κ, h, s2, n2, α2, κ2, t, tn, pl, f, w, v, p⟩ := hI
  have hW := p.1
  have hσ := p.2.1.1.1
  have hS := w.iS hL
  have hA2 : 0 ≤ m 44 2 ∧ m 44 2 ≤ 40 := by rw [w.2.2.2.1.1]; exact p.2.1.2.1
  have hE3 : 0 ≤ m 46 3 ∧ m 46 3 ≤ 8 := by rw [w.2.2.2.2.1.1]; exact p.2.1.2.2.2.1
  have hf : ∀ k, 0 ≤ k → k < 3 → m 61 k < 2000000000 := fun k k1 k2 => by rw [w.2.2.2.2.2.2.2.2 k k1 k2]; have := p.2.2.2.2.2 k k1 k2; omega
  have hTn : m 1 1 = tn := w.2.2.2.2.2.2.2.1.1
  have hf1 : 0 ≤ m 1 1 ∧ m 1 1 ≤ 700 := by rw [hTn]; exact p.2.2.2.2.1
  refine tz_aload1 (n := 1441) (g_at ck_L_law17 10 rfl) rfl (g_ne kd_1) ?_
  refine tz_sv (n := 1447) (g_at ck_L_law17 11 rfl) (g_at ck_L_law17 12 rfl) (g_at ck_L_law17 13 rfl) (g_at ck_L_law17 14 rfl) (g_at ck_L_law17 15 rfl) rfl ⟨by omega, by omega, by omega⟩ ?_
  refine tz_sv (n := 1453) (g_at ck_L_law17 16 rfl) (g_at ck_L_law17 17 rfl) (g_at ck_L_law17 18 rfl) (g_at ck_L_law17 19 rfl) (g_at ck_L_law17 20 rfl) rfl ⟨by omega, by omega, by omega⟩ ?_
  refine tz_sv (n := 1459) (g_at ck_L_law17 21 rfl) (g_at ck_L_law17 22 rfl) (g_at ck_L_law17 23 rfl) (g_at ck_L_law17 24 rfl) (g_at ck_L_law17 25 rfl) rfl ⟨by omega, by omega, by omega⟩ ?_
  refine tz_aload3 (n := 1460) (g_at ck_L_law17 26 rfl) rfl (g_ne kd_122) ?_
  refine tz_cshI5 (n := 1463) (μ' := μL_way) (cb' := cb) (sb' := sb) ml_L_202 mo_L_way ms_L_way np_L_way (g_at ck_L_law18 0 rfl) (wl_way (sp_way (sv_rg γ i 1) (sv_rg γ i 2) (sv_rg γ i 3) hL rfl hS hR hW w.2.1 w.2.2.1 hσ) (c2q c2C (c2q c2C c2W))) rfl rfl ⟨by decide, by decide⟩ (Nat.le_of_ble_eq_true rfl) (by omega) (by omega) (g_in (g_m5 (List.mem_of_getElem? (i := 206) rfl)) rfl) (fun x5 ρ5 m5 hq => ?_)
  obtain ⟨hL5, hR5, w5, v5, e5, h5⟩ := rd_C (A := (fun x => orN (if (sv γ i 3) = 0 then wyW Λ s 0 ((sv γ i 1) * 9 + (sv γ i 2)) else wyW Λ s 1 ((sv γ i 1) * 9 + (sv γ i 2))) = x)) w v hL hR hq (fun _ _ _ hz => hz)
  refine tz_istore5 (n := 1465) (g_at ck_L_law18 1 rfl) rfl (by decide) g_hpI ?_
  refine tz_aload2 (n := 1466) (g_at ck_L_law18 2 rfl) rfl (g_ne kd_84) ?_
  refine tz_sv (n := 1472) (g_at ck_L_law18 3 rfl) (g_at ck_L_law18 4 rfl) (g_at ck_L_law18 5 rfl) (g_at ck_L_law18 6 rfl) (g_at ck_L_law18 7 rfl) rfl ⟨by omega, by omega, by omega⟩ ?_
  refine tz_sv (n := 1478) (g_at ck_L_law18 8 rfl) (g_at ck_L_law18 9 rfl) (g_at ck_L_law18 10 rfl) (g_at ck_L_law18 11 rfl) (g_at ck_L_law18 12 rfl) rfl ⟨by omega, by omega, by omega⟩ ?_
  refine tz_sv (n := 1484) (g_at ck_L_law18 13 rfl) (g_at ck_L_law18 14 rfl) (g_at ck_L_law18 15 rfl) (g_at ck_L_law18 16 rfl) (g_at ck_L_law18 17 rfl) rfl ⟨by omega, by omega, by omega⟩ ?_
  refine tz_cvI3 (n := 1487) (μ' := μX11_way) (cb' := cb) (sb' := sb) ml_L_204 mo_X11_way mv_X11_way np_X11_way kd_84 (g_at ck_L_law18 18 rfl) (mp_way (sv_rg γ i 1) (sv_rg γ i 2) (sv_rg γ i 3) hL5 hR5 hW v5.1 v5.2.1 hσ v5.2.2.2.2.2.2.1.2) rfl rfl rfl ⟨by decide, by decide⟩ (Nat.le_of_ble_eq_true rfl) (by omega) (by omega) (fun x6 ρ6 m6 hq6 => ?_)
  obtain ⟨a1, a2, a3, a4⟩ := rd_2 (y := 0) (A := (fun x => orN (if (sv γ i 3) = 0 then wyW Λ s 0 ((sv γ i 1) * 9 + (sv γ i 2)) else wyW Λ s 1 ((sv γ i 1) * 9 + (sv γ i 2))) = x)) uE p w5 v5 hL5 h5 hq6
  refine tz_istore6 (n := 1489) (g_at ck_L_law18 19 rfl) rfl (by decide) g_hpI ?_
  exact lt_tail (g_at ck_L_law18 20 rfl) (g_at ck_L_law18 21 rfl) (g_at ck_L_law18 22 rfl) (g_at ck_L_law18 23 rfl) (g_at ck_L_law18 26 rfl) (g_at ck_L_law19 0 rfl) (g_at ck_L_law19 1 rfl) (g_at ck_L_law19 2 rfl) (g_at ck_L_law19 3 rfl) (g_at ck_L_law19 4 rfl) (g_at ck_L_law19 5 rfl) (g_at ck_L_law19 6 rfl) (g_at ck_L_law19 7 rfl) (g_at ck_L_law19 10 rfl) rfl a4.2.1 (a1.trans e5.symm) (fun h9 => by rw [a2]; exact a3 (by rw [← e5]; exact h9)) (kk _ _ a4)
theorem lb_best {l : Launch} {γ : Gh} {ρ m : Mm} {R : RR} {X : XX} {cb sb : Nat} {N i : Int} (hI : IW N ρ m) (hN : N ≤ 1000) (hi : 0 ≤ i ∧ i + 6 ≤ γ.2.2.2.2.1 ∧ γ.2.2.2.2.1 < 2147483648) (kk : ∀ ρ9 m9, IW (N + 1) ρ9 m9 → gT l γ μL_law 60 cb sb R X KK ρ9 m9 2837 [some (vR (-1)), some (vR 1), some (vR 84), some (vR 122), some (vI i), none, none] []) : gT l γ μL_law 60 (cb + 4) (sb + 24) R X KK ρ m 1520 [some (vR (-1)), some (vR 1), some (vR 84), some (vR 122), some (vI i), none, none] [] := by
  obtain ⟨hL, hR, Λ, hl, tl, s, n, α, κ, h, s2, n2, α2, κ2, t, tn, pl, f, w, v, p⟩ := hI
  have hW := p.1
  have hσ := p.2.1.1.1
  have hS := w.iS hL
  have hA2 : 0 ≤ m 44 2 ∧ m 44 2 ≤ 40 := by rw [w.2.2.2.1.1]; exact p.2.1.2.1
  have hE3 : 0 ≤ m 46 3 ∧ m 46 3 ≤ 8 := by rw [w.2.2.2.2.1.1]; exact p.2.1.2.2.2.1
  have hf : ∀ k, 0 ≤ k → k < 3 → m 61 k < 2000000000 := fun k k1 k2 => by rw [w.2.2.2.2.2.2.2.2 k k1 k2]; have := p.2.2.2.2.2 k k1 k2; omega
  have hTn : m 1 1 = tn := w.2.2.2.2.2.2.2.1.1
  have hf1 : 0 ≤ m 1 1 ∧ m 1 1 ≤ 700 := by rw [hTn]; exact p.2.2.2.2.1
  refine tz_aload1 (n := 1521) (g_at ck_L_law19 11 rfl) rfl (g_ne kd_1) ?_
  refine tz_sv (n := 1527) (g_at ck_L_law19 12 rfl) (g_at ck_L_law19 13 rfl) (g_at ck_L_law19 14 rfl) (g_at ck_L_law19 15 rfl) (g_at ck_L_law19 16 rfl) rfl ⟨by omega, by omega, by omega⟩ ?_
  refine tz_aload3 (n := 1528) (g_at ck_L_law19 17 rfl) rfl (g_ne kd_122) ?_
  refine tz_cshI3 (n := 1531) (μ' := μL_best) (cb' := cb) (sb' := sb) ml_L_205 mo_L_best ms_L_best np_L_best (g_at ck_L_law19 18 rfl) (wl_best (sp_best (sv_rg γ i 1) hL rfl hS hR hW w.2.1 w.2.2.1 hσ) c2P) rfl rfl ⟨by decide, by decide⟩ (Nat.le_of_ble_eq_true rfl) (by omega) (by omega) (g_in (g_m5 (List.mem_of_getElem? (i := 218) rfl)) rfl) (fun x5 ρ5 m5 hq => ?_)
  obtain ⟨hL5, hR5, w5, v5, e5, h5⟩ := rd_C (A := (fun x => (bsN Λ hl tl s (sv γ i 1) (Λ 0 0).toNat).2 = x)) w v hL hR hq (fun _ _ _ hz => hz)
  refine tz_istore5 (n := 1533) (g_at ck_L_law19 19 rfl) rfl (by decide) g_hpI ?_
  refine tz_aload2 (n := 1534) (g_at ck_L_law19 20 rfl) rfl (g_ne kd_84) ?_
  refine tz_sv (n := 1540) (g_at ck_L_law19 21 rfl) (g_at ck_L_law19 22 rfl) (g_at ck_L_law19 23 rfl) (g_at ck_L_law19 24 rfl) (g_at ck_L_law19 25 rfl) rfl ⟨by omega, by omega, by omega⟩ ?_
  refine tz_cvI1 (n := 1543) (μ' := μX11_best) (cb' := cb) (sb' := sb) ml_L_207 mo_X11_best mv_X11_best np_X11_best kd_84 (g_at ck_L_law20 0 rfl) (mp_best (sv_rg γ i 1) hL5 hR5 hW v5.1 v5.2.1 hσ v5.2.2.2.2.2.2.1.2) rfl rfl rfl ⟨by decide, by decide⟩ (Nat.le_of_ble_eq_true rfl) (by omega) (by omega) (fun x6 ρ6 m6 hq6 => ?_)
  obtain ⟨a1, a2, a3, a4⟩ := rd_2 (y := 0) (A := (fun x => (bsN Λ hl tl s (sv γ i 1) (Λ 0 0).toNat).2 = x)) uE p w5 v5 hL5 h5 hq6
  refine tz_istore6 (n := 1545) (g_at ck_L_law20 1 rfl) rfl (by decide) g_hpI ?_
  exact lt_tail (g_at ck_L_law20 2 rfl) (g_at ck_L_law20 3 rfl) (g_at ck_L_law20 4 rfl) (g_at ck_L_law20 5 rfl) (g_at ck_L_law20 8 rfl) (g_at ck_L_law20 9 rfl) (g_at ck_L_law20 10 rfl) (g_at ck_L_law20 11 rfl) (g_at ck_L_law20 12 rfl) (g_at ck_L_law20 13 rfl) (g_at ck_L_law20 14 rfl) (g_at ck_L_law20 15 rfl) (g_at ck_L_law20 16 rfl) (g_at ck_L_law20 19 rfl) rfl a4.2.1 (a1.trans e5.symm) (fun h9 => by rw [a2]; exact a3 (by rw [← e5]; exact h9)) (kk _ _ a4)
theorem lb_lodged {l : Launch} {γ : Gh} {ρ m : Mm} {R : RR} {X : XX} {cb sb : Nat} {N i : Int} (hI : IW N ρ m) (hN : N ≤ 1000) (hi : 0 ≤ i ∧ i + 6 ≤ γ.2.2.2.2.1 ∧ γ.2.2.2.2.1 < 2147483648) (kk : ∀ ρ9 m9, IW (N + 1) ρ9 m9 → gT l γ μL_law 60 cb sb R X KK ρ9 m9 2837 [some (vR (-1)), some (vR 1), some (vR 84), some (vR 122), some (vI i), none, none] []) : gT l γ μL_law 60 (cb + 4) (sb + 24) R X KK ρ m 1576 [some (vR (-1)), some (vR 1), some (vR 84), some (vR 122), some (vI i), none, none] [] := by
  obtain ⟨hL, hR, Λ, hl, tl, s, n, α, κ, h, s2, n2, α2, κ2, t, tn, pl, f, w, v, p⟩ := hI
  have hW := p.1
  have hσ := p.2.1.1.1
  have hS := w.iS hL
  have hA2 : 0 ≤ m 44 2 ∧ m 44 2 ≤ 40 := by rw [w.2.2.2.1.1]; exact p.2.1.2.1
  have hE3 : 0 ≤ m 46 3 ∧ m 46 3 ≤ 8 := by rw [w.2.2.2.2.1.1]; exact p.2.1.2.2.2.1
  have hf : ∀ k, 0 ≤ k → k < 3 → m 61 k < 2000000000 := fun k k1 k2 => by rw [w.2.2.2.2.2.2.2.2 k k1 k2]; have := p.2.2.2.2.2 k k1 k2; omega
  have hTn : m 1 1 = tn := w.2.2.2.2.2.2.2.1.1
  have hf1 : 0 ≤ m 1 1 ∧ m 1 1 ≤ 700 := by rw [hTn]; exact p.2.2.2.2.1
  refine tz_aload1 (n := 1577) (g_at ck_L_law20 20 rfl) rfl (g_ne kd_1) ?_
  refine tz_sv (n := 1583) (g_at ck_L_law20 21 rfl) (g_at ck_L_law20 22 rfl) (g_at ck_L_law20 23 rfl) (g_at ck_L_law20 24 rfl) (g_at ck_L_law21 0 rfl) rfl ⟨by omega, by omega, by omega⟩ ?_
  refine tz_aload3 (n := 1584) (g_at ck_L_law21 1 rfl) rfl (g_ne kd_122) ?_
  refine tz_cshI3 (n := 1587) (μ' := μL_lodged) (cb' := cb) (sb' := sb) ml_L_208 mo_L_lodged ms_L_lodged np_L_lodged (g_at ck_L_law21 2 rfl) (wl_lodged (sp_lodged (sv_rg γ i 1) hL rfl hS hR hW w.2.1 w.2.2.1 hσ) c2W) rfl rfl ⟨by decide, by decide⟩ (Nat.le_of_ble_eq_true rfl) (by omega) (by omega) (g_in (g_m5 (List.mem_of_getElem? (i := 233) rfl)) rfl) (fun x5 ρ5 m5 hq => ?_)
  obtain ⟨hL5, hR5, w5, v5, e5, h5⟩ := rd_C (A := (fun x => ∃ T : Int → Int, LodgeOK Λ s T ∧ (if (sv γ i 1) = 0 then (tbN Λ s T (Λ 0 1).toNat).2.1 else (tbN Λ s T (Λ 0 1).toNat).2.2) = x)) w v hL hR hq (fun _ _ _ hz => hz)
  refine tz_istore5 (n := 1589) (g_at ck_L_law21 3 rfl) rfl (by decide) g_hpI ?_
  refine tz_aload2 (n := 1590) (g_at ck_L_law21 4 rfl) rfl (g_ne kd_84) ?_
  refine tz_sv (n := 1596) (g_at ck_L_law21 5 rfl) (g_at ck_L_law21 6 rfl) (g_at ck_L_law21 7 rfl) (g_at ck_L_law21 8 rfl) (g_at ck_L_law21 9 rfl) rfl ⟨by omega, by omega, by omega⟩ ?_
  refine tz_cvI1 (n := 1599) (μ' := μX11_lodged) (cb' := cb) (sb' := sb) ml_L_210 mo_X11_lodged mv_X11_lodged np_X11_lodged kd_84 (g_at ck_L_law21 10 rfl) (mp_lodged (sv_rg γ i 1) hL5 hR5 hW v5.1 v5.2.1 hσ v5.2.2.2.2.2.2.1.2) rfl rfl rfl ⟨by decide, by decide⟩ (Nat.le_of_ble_eq_true rfl) (by omega) (by omega) (fun x6 ρ6 m6 hq6 => ?_)
  obtain ⟨a1, a2, a3, a4⟩ := rd_2 (y := 0) (A := (fun x => ∃ T : Int → Int, LodgeOK Λ s T ∧ (if (sv γ i 1) = 0 then (tbN Λ s T (Λ 0 1).toNat).2.1 else (tbN Λ s T (Λ 0 1).toNat).2.2) = x)) (uLodge hW) p w5 v5 hL5 h5 hq6
  refine tz_istore6 (n := 1601) (g_at ck_L_law21 11 rfl) rfl (by decide) g_hpI ?_
  exact lt_tail (g_at ck_L_law21 12 rfl) (g_at ck_L_law21 13 rfl) (g_at ck_L_law21 14 rfl) (g_at ck_L_law21 15 rfl) (g_at ck_L_law21 18 rfl) (g_at ck_L_law21 19 rfl) (g_at ck_L_law21 20 rfl) (g_at ck_L_law21 21 rfl) (g_at ck_L_law21 22 rfl) (g_at ck_L_law21 23 rfl) (g_at ck_L_law22 0 rfl) (g_at ck_L_law22 1 rfl) (g_at ck_L_law22 2 rfl) (g_at ck_L_law22 5 rfl) rfl a4.2.1 (a1.trans e5.symm) (fun h9 => by rw [a2]; exact a3 (by rw [← e5]; exact h9)) (kk _ _ a4)
theorem lb_see {l : Launch} {γ : Gh} {ρ m : Mm} {R : RR} {X : XX} {cb sb : Nat} {N i : Int} (hI : IW N ρ m) (hN : N ≤ 1000) (hi : 0 ≤ i ∧ i + 6 ≤ γ.2.2.2.2.1 ∧ γ.2.2.2.2.1 < 2147483648) (kk : ∀ ρ9 m9, IW (N + 1) ρ9 m9 → gT l γ μL_law 60 cb sb R X KK ρ9 m9 2837 [some (vR (-1)), some (vR 1), some (vR 84), some (vR 122), some (vI i), none, none] []) : gT l γ μL_law 60 (cb + 4) (sb + 24) R X KK ρ m 1632 [some (vR (-1)), some (vR 1), some (vR 84), some (vR 122), some (vI i), none, none] [] := by
  obtain ⟨hL, hR, Λ, hl, tl, s, n, α, κ, h, s2, n2, α2, κ2, t, tn, pl, f, w, v, p⟩ := hI
  have hW := p.1
  have hσ := p.2.1.1.1
  have hS := w.iS hL
  have hA2 : 0 ≤ m 44 2 ∧ m 44 2 ≤ 40 := by rw [w.2.2.2.1.1]; exact p.2.1.2.1
  have hE3 : 0 ≤ m 46 3 ∧ m 46 3 ≤ 8 := by rw [w.2.2.2.2.1.1]; exact p.2.1.2.2.2.1
  have hf : ∀ k, 0 ≤ k → k < 3 → m 61 k < 2000000000 := fun k k1 k2 => by rw [w.2.2.2.2.2.2.2.2 k k1 k2]; have := p.2.2.2.2.2 k k1 k2; omega
  have hTn : m 1 1 = tn := w.2.2.2.2.2.2.2.1.1
  have hf1 : 0 ≤ m 1 1 ∧ m 1 1 ≤ 700 := by rw [hTn]; exact p.2.2.2.2.1
  refine tz_aload1 (n := 1633) (g_at ck_L_law22 6 rfl) rfl (g_ne kd_1) ?_
  refine tz_sv (n := 1639) (g_at ck_L_law22 7 rfl) (g_at ck_L_law22 8 rfl) (g_at ck_L_law22 9 rfl) (g_at ck_L_law22 10 rfl) (g_at ck_L_law22 11 rfl) rfl ⟨by omega, by omega, by omega⟩ ?_
  refine tz_sv (n := 1645) (g_at ck_L_law22 12 rfl) (g_at ck_L_law22 13 rfl) (g_at ck_L_law22 14 rfl) (g_at ck_L_law22 15 rfl) (g_at ck_L_law22 16 rfl) rfl ⟨by omega, by omega, by omega⟩ ?_
  refine tz_sv (n := 1651) (g_at ck_L_law22 17 rfl) (g_at ck_L_law22 18 rfl) (g_at ck_L_law22 19 rfl) (g_at ck_L_law22 20 rfl) (g_at ck_L_law22 21 rfl) rfl ⟨by omega, by omega, by omega⟩ ?_
  refine tz_aload3 (n := 1652) (g_at ck_L_law22 22 rfl) rfl (g_ne kd_122) ?_
  refine tz_cshI5 (n := 1655) (μ' := μL_see) (cb' := cb) (sb' := sb) ml_L_211 mo_L_see ms_L_see np_L_see (g_at ck_L_law22 23 rfl) (wl_see (sp_see (sv_rg γ i 1) (sv_rg γ i 2) (sv_rg γ i 3) hL rfl hS hR hW w.2.1 w.2.2.1 hσ hf hE3) (c2q c2P c2C)) rfl rfl ⟨by decide, by decide⟩ (Nat.le_of_ble_eq_true rfl) (by omega) (by omega) (g_in (g_m6 (List.mem_of_getElem? (i := 0) rfl)) rfl) (fun x5 ρ5 m5 hq => ?_)
  obtain ⟨hL5, hR5, e5, v5, c1, c2, c3⟩ := se_C (p := (sv γ i 1)) (c := (sv γ i 2)) (y := (sv γ i 3)) w v hL hR p.2.1.2.2.2.1.1 hq (fun _ _ _ hz => hz)
  refine tz_istore5 (n := 1657) (g_at ck_L_law23 0 rfl) rfl (by decide) g_hpI ?_
  refine tz_aload2 (n := 1658) (g_at ck_L_law23 1 rfl) rfl (g_ne kd_84) ?_
  refine tz_sv (n := 1664) (g_at ck_L_law23 2 rfl) (g_at ck_L_law23 3 rfl) (g_at ck_L_law23 4 rfl) (g_at ck_L_law23 5 rfl) (g_at ck_L_law23 6 rfl) rfl ⟨by omega, by omega, by omega⟩ ?_
  refine tz_sv (n := 1670) (g_at ck_L_law23 7 rfl) (g_at ck_L_law23 8 rfl) (g_at ck_L_law23 9 rfl) (g_at ck_L_law23 10 rfl) (g_at ck_L_law23 11 rfl) rfl ⟨by omega, by omega, by omega⟩ ?_
  refine tz_sv (n := 1676) (g_at ck_L_law23 12 rfl) (g_at ck_L_law23 13 rfl) (g_at ck_L_law23 14 rfl) (g_at ck_L_law23 15 rfl) (g_at ck_L_law23 16 rfl) rfl ⟨by omega, by omega, by omega⟩ ?_
  have hf5 : ∀ k, 0 ≤ k → k < 3 → m5 92 k < 2000000000 := fun k k1 k2 => by rw [v5.2.2.2.2.2.2.2.1 k k1 k2]; have := p.2.2.2.2.2 k k1 k2; omega
  refine tz_cvI3 (n := 1679) (μ' := μX11_see) (cb' := cb) (sb' := sb) ml_L_213 mo_X11_see mv_X11_see np_X11_see kd_84 (g_at ck_L_law23 17 rfl) (mp_see (sv_rg γ i 1) (sv_rg γ i 2) (sv_rg γ i 3) hL5 hR5 hW v5.1 v5.2.1 hσ v5.2.2.2.2.2.2.1.2 v5.2.2.2.1 p.2.1.2.2.2 hf5 v5.2.2.1) rfl rfl rfl ⟨by decide, by decide⟩ (Nat.le_of_ble_eq_true rfl) (by omega) (by omega) (fun x6 ρ6 m6 hq6 => ?_)
  obtain ⟨a1, a2, a3, a4⟩ := se_M (p := (sv γ i 1)) (c := (sv γ i 2)) (y := (sv γ i 3)) p v5 hL5 c1 c2 c3 (fun hc => ⟨cdP_0 (sq_l hc), cdC_0 (sq_r hc)⟩) hq6
  refine tz_istore6 (n := 1681) (g_at ck_L_law23 18 rfl) rfl (by decide) g_hpI ?_
  exact lt_tail (g_at ck_L_law23 19 rfl) (g_at ck_L_law23 20 rfl) (g_at ck_L_law23 21 rfl) (g_at ck_L_law23 22 rfl) (g_at ck_L_law24 2 rfl) (g_at ck_L_law24 3 rfl) (g_at ck_L_law24 4 rfl) (g_at ck_L_law24 5 rfl) (g_at ck_L_law24 6 rfl) (g_at ck_L_law24 7 rfl) (g_at ck_L_law24 8 rfl) (g_at ck_L_law24 9 rfl) (g_at ck_L_law24 10 rfl) (g_at ck_L_law24 13 rfl) rfl a4.2.1 (a1.trans e5.symm) (fun h9 => by rw [a2]; exact a3 (by rw [← e5]; exact h9)) (kk _ _ a4)
