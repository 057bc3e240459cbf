/-! The law, call by call. -/
theorem lb_forget {l : Launch} {γ : Gh} {ρ m : Mm} {R : RR} {X : XX} {cb sb : Nat} {N i : Int} (hI : IW N ρ m) (hN : N ≤ 1000) (hi : 0 ≤ i ∧ i + 6 ≤ γ.2.2.2.2.1 ∧ γ.2.2.2.2.1 < 2147483648) (kk : ∀ ρ9 m9, IW (N + 1) ρ9 m9 → gT l γ μL_law 60 cb sb R X KK ρ9 m9 2837 [some (vR (-1)), some (vR 1), some (vR 84), some (vR 122), some (vI i), none, none] []) : gT l γ μL_law 60 (cb + 4) (sb + 24) R X KK ρ m 1712 [some (vR (-1)), some (vR 1), some (vR 84), some (vR 122), some (vI i), none, none] [] := by
  obtain ⟨hL, hR, Λ, hl, tl, s, n, α, κ, h, s2, n2, α2, κ2, t, tn, pl, f, w, v, p⟩ := hI
  have hW := p.1
  have hσ := p.2.1.1.1
  have hS := w.iS hL
  have hA2 : 0 ≤ m 44 2 ∧ m 44 2 ≤ 40 := by rw [w.2.2.2.1.1]; exact p.2.1.2.1
  have hE3 : 0 ≤ m 46 3 ∧ m 46 3 ≤ 8 := by rw [w.2.2.2.2.1.1]; exact p.2.1.2.2.2.1
  have hf : ∀ k, 0 ≤ k → k < 3 → m 61 k < 2000000000 := fun k k1 k2 => by rw [w.2.2.2.2.2.2.2.2 k k1 k2]; have := p.2.2.2.2.2 k k1 k2; omega
  have hTn : m 1 1 = tn := w.2.2.2.2.2.2.2.1.1
  have hf1 : 0 ≤ m 1 1 ∧ m 1 1 ≤ 700 := by rw [hTn]; exact p.2.2.2.2.1
  refine tz_aload1 (n := 1713) (g_at ck_L_law24 14 rfl) rfl (g_ne kd_1) ?_
  refine tz_cvV0 (n := 1716) (μ' := μX10_forget) (cb' := cb) (sb' := sb) ml_L_214 mo_X10_forget mv_X10_forget np_X10_forget kd_1 (g_at ck_L_law24 15 rfl) (sp_forget hL hR) rfl rfl rfl ⟨by decide, by decide⟩ (Nat.le_of_ble_eq_true rfl) (by omega) (by omega) (fun ρ5 m5 hq => ?_)
  obtain ⟨rfl, hR5, hx⟩ := hq
  have hL5 := hL
  have v5 := v.high (m9 := m5) fun a h1 h2 => by rw [← hx]; exact wr_ne (by omega)
  refine tz_aload2 (n := 1717) (g_at ck_L_law24 16 rfl) rfl (g_ne kd_84) ?_
  refine tz_cvV0 (n := 1720) (μ' := μX11_forget) (cb' := cb) (sb' := sb) ml_L_217 mo_X11_forget mv_X11_forget np_X11_forget kd_84 (g_at ck_L_law24 17 rfl) (mp_forget hL5 hR5 v5.2.2.2.1) rfl rfl rfl ⟨by decide, by decide⟩ (Nat.le_of_ble_eq_true rfl) (by omega) (by omega) (fun ρ6 m6 hq6 => ?_)
  have hI := fo_2 p w v5 hL hx hq6
  exact tz_goto (tgt := 2837) (g_at ck_L_law24 18 rfl) rfl (kk _ _ hI)
theorem lb_turned {l : Launch} {γ : Gh} {ρ m : Mm} {R : RR} {X : XX} {cb sb : Nat} {N i : Int} (hI : IW N ρ m) (hN : N ≤ 1000) (hi : 0 ≤ i ∧ i + 6 ≤ γ.2.2.2.2.1 ∧ γ.2.2.2.2.1 < 2147483648) (kk : ∀ ρ9 m9, IW (N + 1) ρ9 m9 → gT l γ μL_law 60 cb sb R X KK ρ9 m9 2837 [some (vR (-1)), some (vR 1), some (vR 84), some (vR 122), some (vI i), none, none] []) : gT l γ μL_law 60 (cb + 4) (sb + 24) R X KK ρ m 1723 [some (vR (-1)), some (vR 1), some (vR 84), some (vR 122), some (vI i), none, none] [] := by
  obtain ⟨hL, hR, Λ, hl, tl, s, n, α, κ, h, s2, n2, α2, κ2, t, tn, pl, f, w, v, p⟩ := hI
  have hW := p.1
  have hσ := p.2.1.1.1
  have hS := w.iS hL
  have hA2 : 0 ≤ m 44 2 ∧ m 44 2 ≤ 40 := by rw [w.2.2.2.1.1]; exact p.2.1.2.1
  have hE3 : 0 ≤ m 46 3 ∧ m 46 3 ≤ 8 := by rw [w.2.2.2.2.1.1]; exact p.2.1.2.2.2.1
  have hf : ∀ k, 0 ≤ k → k < 3 → m 61 k < 2000000000 := fun k k1 k2 => by rw [w.2.2.2.2.2.2.2.2 k k1 k2]; have := p.2.2.2.2.2 k k1 k2; omega
  have hTn : m 1 1 = tn := w.2.2.2.2.2.2.2.1.1
  have hf1 : 0 ≤ m 1 1 ∧ m 1 1 ≤ 700 := by rw [hTn]; exact p.2.2.2.2.1
  refine tz_aload1 (n := 1724) (g_at ck_L_law24 19 rfl) rfl (g_ne kd_1) ?_
  refine tz_sv (n := 1730) (g_at ck_L_law24 20 rfl) (g_at ck_L_law24 21 rfl) (g_at ck_L_law24 22 rfl) (g_at ck_L_law25 0 rfl) (g_at ck_L_law25 1 rfl) rfl ⟨by omega, by omega, by omega⟩ ?_
  refine tz_aload3 (n := 1731) (g_at ck_L_law25 2 rfl) rfl (g_ne kd_122) ?_
  refine tz_cshI3 (n := 1734) (μ' := μL_turned) (cb' := cb) (sb' := sb) ml_L_218 mo_L_turned ms_L_turned np_L_turned (g_at ck_L_law25 3 rfl) (wl_turned (sp_turned (sv_rg γ i 1) hL rfl hS hR hW w.2.1 w.2.2.1 hσ w.2.2.2.2.1 p.2.1.2.2.2) c2W) rfl rfl ⟨by decide, by decide⟩ (Nat.le_of_ble_eq_true rfl) (by omega) (by omega) (g_in (g_m6 (List.mem_of_getElem? (i := 11) rfl)) rfl) (fun x5 ρ5 m5 hq => ?_)
  obtain ⟨hL5, hR5, w5, v5, e5, h5⟩ := rd_C (A := (fun x => (if (sv γ i 1) = 2 then soP Λ hl tl κ (sig0 s) else if (sv γ i 1) = 0 then (cfN Λ (tnB Λ hl tl κ s) (Λ 0 0).toNat).1 else (cfN Λ (tnB Λ hl tl κ s) (Λ 0 0).toNat).2) = x)) w v hL hR hq (fun _ _ _ hz => hz)
  refine tz_istore5 (n := 1736) (g_at ck_L_law25 4 rfl) rfl (by decide) g_hpI ?_
  refine tz_aload2 (n := 1737) (g_at ck_L_law25 5 rfl) rfl (g_ne kd_84) ?_
  refine tz_sv (n := 1743) (g_at ck_L_law25 6 rfl) (g_at ck_L_law25 7 rfl) (g_at ck_L_law25 8 rfl) (g_at ck_L_law25 9 rfl) (g_at ck_L_law25 10 rfl) rfl ⟨by omega, by omega, by omega⟩ ?_
  refine tz_cvI1 (n := 1746) (μ' := μX11_turned) (cb' := cb) (sb' := sb) ml_L_220 mo_X11_turned mv_X11_turned np_X11_turned kd_84 (g_at ck_L_law25 11 rfl) (mp_turned (sv_rg γ i 1) hL5 hR5 hW v5.1 v5.2.1 hσ v5.2.2.2.2.2.2.1.2 v5.2.2.2.1 p.2.1.2.2.2) rfl rfl rfl ⟨by decide, by decide⟩ (Nat.le_of_ble_eq_true rfl) (by omega) (by omega) (fun x6 ρ6 m6 hq6 => ?_)
  obtain ⟨a1, a2, a3, a4⟩ := rd_2 (y := 0) (A := (fun x => (if (sv γ i 1) = 2 then soP Λ hl tl κ (sig0 s) else if (sv γ i 1) = 0 then (cfN Λ (tnB Λ hl tl κ s) (Λ 0 0).toNat).1 else (cfN Λ (tnB Λ hl tl κ s) (Λ 0 0).toNat).2) = x)) uE p w5 v5 hL5 h5 hq6
  refine tz_istore6 (n := 1748) (g_at ck_L_law25 12 rfl) rfl (by decide) g_hpI ?_
  exact lt_tail (g_at ck_L_law25 13 rfl) (g_at ck_L_law25 14 rfl) (g_at ck_L_law25 15 rfl) (g_at ck_L_law25 16 rfl) (g_at ck_L_law25 19 rfl) (g_at ck_L_law25 20 rfl) (g_at ck_L_law25 21 rfl) (g_at ck_L_law26 0 rfl) (g_at ck_L_law26 1 rfl) (g_at ck_L_law26 2 rfl) (g_at ck_L_law26 3 rfl) (g_at ck_L_law26 4 rfl) (g_at ck_L_law26 5 rfl) (g_at ck_L_law26 8 rfl) rfl a4.2.1 (a1.trans e5.symm) (fun h9 => by rw [a2]; exact a3 (by rw [← e5]; exact h9)) (kk _ _ a4)
theorem lb_look {l : Launch} {γ : Gh} {ρ m : Mm} {R : RR} {X : XX} {cb sb : Nat} {N i : Int} (hI : IW N ρ m) (hN : N ≤ 1000) (hi : 0 ≤ i ∧ i + 6 ≤ γ.2.2.2.2.1 ∧ γ.2.2.2.2.1 < 2147483648) (kk : ∀ ρ9 m9, IW (N + 1) ρ9 m9 → gT l γ μL_law 60 cb sb R X KK ρ9 m9 2837 [some (vR (-1)), some (vR 1), some (vR 84), some (vR 122), some (vI i), none, none] []) : gT l γ μL_law 60 (cb + 4) (sb + 24) R X KK ρ m 1779 [some (vR (-1)), some (vR 1), some (vR 84), some (vR 122), some (vI i), none, none] [] := by
  obtain ⟨hL, hR, Λ, hl, tl, s, n, α, κ, h, s2, n2, α2, κ2, t, tn, pl, f, w, v, p⟩ := hI
  have hW := p.1
  have hσ := p.2.1.1.1
  have hS := w.iS hL
  have hA2 : 0 ≤ m 44 2 ∧ m 44 2 ≤ 40 := by rw [w.2.2.2.1.1]; exact p.2.1.2.1
  have hE3 : 0 ≤ m 46 3 ∧ m 46 3 ≤ 8 := by rw [w.2.2.2.2.1.1]; exact p.2.1.2.2.2.1
  have hf : ∀ k, 0 ≤ k → k < 3 → m 61 k < 2000000000 := fun k k1 k2 => by rw [w.2.2.2.2.2.2.2.2 k k1 k2]; have := p.2.2.2.2.2 k k1 k2; omega
  have hTn : m 1 1 = tn := w.2.2.2.2.2.2.2.1.1
  have hf1 : 0 ≤ m 1 1 ∧ m 1 1 ≤ 700 := by rw [hTn]; exact p.2.2.2.2.1
  refine tz_aload1 (n := 1780) (g_at ck_L_law26 9 rfl) rfl (g_ne kd_1) ?_
  refine tz_sv (n := 1786) (g_at ck_L_law26 10 rfl) (g_at ck_L_law26 11 rfl) (g_at ck_L_law26 12 rfl) (g_at ck_L_law26 13 rfl) (g_at ck_L_law26 14 rfl) rfl ⟨by omega, by omega, by omega⟩ ?_
  refine tz_aload3 (n := 1787) (g_at ck_L_law26 15 rfl) rfl (g_ne kd_122) ?_
  refine tz_cshI3 (n := 1790) (μ' := μL_look) (cb' := cb) (sb' := sb) ml_L_221 mo_L_look ms_L_look np_L_look (g_at ck_L_law26 16 rfl) (wl_look (sp_look (sv_rg γ i 1) hL rfl hS hR hW w.2.1 w.2.2.1 hσ w.2.2.2.2.1 p.2.1.2.2.2) c2W) rfl rfl ⟨by decide, by decide⟩ (Nat.le_of_ble_eq_true rfl) (by omega) (by omega) (g_in (g_m6 (List.mem_of_getElem? (i := 36) rfl)) rfl) (fun x5 ρ5 m5 hq => ?_)
  obtain ⟨hL5, hR5, w5, v5, e5, h5⟩ := rd_C (A := (fun x => (if (sv γ i 1) = 0 then (bzN (fun p => bcJ ((lkN Λ hl tl κ s (Λ 0 0).toNat) p)) (Λ 0 1).toNat).1 else (bzN (fun p => bcJ ((lkN Λ hl tl κ s (Λ 0 0).toNat) p)) (Λ 0 1).toNat).2) = x)) w v hL hR hq (fun _ _ _ hz => hz)
  refine tz_istore5 (n := 1792) (g_at ck_L_law26 17 rfl) rfl (by decide) g_hpI ?_
  refine tz_aload2 (n := 1793) (g_at ck_L_law26 18 rfl) rfl (g_ne kd_84) ?_
  refine tz_sv (n := 1799) (g_at ck_L_law26 19 rfl) (g_at ck_L_law26 20 rfl) (g_at ck_L_law26 21 rfl) (g_at ck_L_law27 0 rfl) (g_at ck_L_law27 1 rfl) rfl ⟨by omega, by omega, by omega⟩ ?_
  refine tz_cvI1 (n := 1802) (μ' := μX11_look) (cb' := cb) (sb' := sb) ml_L_223 mo_X11_look mv_X11_look np_X11_look kd_84 (g_at ck_L_law27 2 rfl) (mp_look (sv_rg γ i 1) hL5 hR5 hW v5.1 v5.2.1 hσ v5.2.2.2.2.2.2.1.2 v5.2.2.2.1 p.2.1.2.2.2) rfl rfl rfl ⟨by decide, by decide⟩ (Nat.le_of_ble_eq_true rfl) (by omega) (by omega) (fun x6 ρ6 m6 hq6 => ?_)
  obtain ⟨a1, a2, a3, a4⟩ := rd_2 (y := 0) (A := (fun x => (if (sv γ i 1) = 0 then (bzN (fun p => bcJ ((lkN Λ hl tl κ s (Λ 0 0).toNat) p)) (Λ 0 1).toNat).1 else (bzN (fun p => bcJ ((lkN Λ hl tl κ s (Λ 0 0).toNat) p)) (Λ 0 1).toNat).2) = x)) uE p w5 v5 hL5 h5 hq6
  refine tz_istore6 (n := 1804) (g_at ck_L_law27 3 rfl) rfl (by decide) g_hpI ?_
  exact lt_tail (g_at ck_L_law27 4 rfl) (g_at ck_L_law27 5 rfl) (g_at ck_L_law27 6 rfl) (g_at ck_L_law27 7 rfl) (g_at ck_L_law27 10 rfl) (g_at ck_L_law27 11 rfl) (g_at ck_L_law27 12 rfl) (g_at ck_L_law27 13 rfl) (g_at ck_L_law27 14 rfl) (g_at ck_L_law27 15 rfl) (g_at ck_L_law27 16 rfl) (g_at ck_L_law27 17 rfl) (g_at ck_L_law27 18 rfl) (g_at ck_L_law27 21 rfl) rfl a4.2.1 (a1.trans e5.symm) (fun h9 => by rw [a2]; exact a3 (by rw [← e5]; exact h9)) (kk _ _ a4)
theorem lb_wind {l : Launch} {γ : Gh} {ρ m : Mm} {R : RR} {X : XX} {cb sb : Nat} {N i : Int} (hI : IW N ρ m) (hN : N ≤ 1000) (hi : 0 ≤ i ∧ i + 6 ≤ γ.2.2.2.2.1 ∧ γ.2.2.2.2.1 < 2147483648) (kk : ∀ ρ9 m9, IW (N + 1) ρ9 m9 → gT l γ μL_law 60 cb sb R X KK ρ9 m9 2837 [some (vR (-1)), some (vR 1), some (vR 84), some (vR 122), some (vI i), none, none] []) : gT l γ μL_law 60 (cb + 4) (sb + 24) R X KK ρ m 1835 [some (vR (-1)), some (vR 1), some (vR 84), some (vR 122), some (vI i), none, none] [] := by
  obtain ⟨hL, hR, Λ, hl, tl, s, n, α, κ, h, s2, n2, α2, κ2, t, tn, pl, f, w, v, p⟩ := hI
  have hW := p.1
  have hσ := p.2.1.1.1
  have hS := w.iS hL
  have hA2 : 0 ≤ m 44 2 ∧ m 44 2 ≤ 40 := by rw [w.2.2.2.1.1]; exact p.2.1.2.1
  have hE3 : 0 ≤ m 46 3 ∧ m 46 3 ≤ 8 := by rw [w.2.2.2.2.1.1]; exact p.2.1.2.2.2.1
  have hf : ∀ k, 0 ≤ k → k < 3 → m 61 k < 2000000000 := fun k k1 k2 => by rw [w.2.2.2.2.2.2.2.2 k k1 k2]; have := p.2.2.2.2.2 k k1 k2; omega
  have hTn : m 1 1 = tn := w.2.2.2.2.2.2.2.1.1
  have hf1 : 0 ≤ m 1 1 ∧ m 1 1 ≤ 700 := by rw [hTn]; exact p.2.2.2.2.1
  refine tz_aload1 (n := 1836) (g_at ck_L_law28 0 rfl) rfl (g_ne kd_1) ?_
  refine tz_sv (n := 1842) (g_at ck_L_law28 1 rfl) (g_at ck_L_law28 2 rfl) (g_at ck_L_law28 3 rfl) (g_at ck_L_law28 4 rfl) (g_at ck_L_law28 5 rfl) rfl ⟨by omega, by omega, by omega⟩ ?_
  refine tz_sv (n := 1848) (g_at ck_L_law28 6 rfl) (g_at ck_L_law28 7 rfl) (g_at ck_L_law28 8 rfl) (g_at ck_L_law28 9 rfl) (g_at ck_L_law28 10 rfl) rfl ⟨by omega, by omega, by omega⟩ ?_
  refine tz_sv (n := 1854) (g_at ck_L_law28 11 rfl) (g_at ck_L_law28 12 rfl) (g_at ck_L_law28 13 rfl) (g_at ck_L_law28 14 rfl) (g_at ck_L_law28 15 rfl) rfl ⟨by omega, by omega, by omega⟩ ?_
  refine tz_aload3 (n := 1855) (g_at ck_L_law28 16 rfl) rfl (g_ne kd_122) ?_
  refine tz_cshI5 (n := 1858) (μ' := μL_wind) (cb' := cb) (sb' := sb) ml_L_224 mo_L_wind ms_L_wind np_L_wind (g_at ck_L_law28 17 rfl) (wl_wind (sp_wind (sv_rg γ i 1) (sv_rg γ i 2) (sv_rg γ i 3) hL rfl hS hR hW w.2.1 w.2.2.1 hσ)) rfl rfl ⟨by decide, by decide⟩ (Nat.le_of_ble_eq_true rfl) (by omega) (by omega) (g_in (g_m6 (List.mem_of_getElem? (i := 47) rfl)) rfl) (fun x5 ρ5 m5 hq => ?_)
  obtain ⟨hL5, hR5, w5, v5, e5, h5⟩ := rd_C (A := (fun x => wdS Λ hl tl s (sv γ i 1) (sv γ i 3) (sv γ i 2).toNat (2 ^ (sv γ i 2).toNat) = x)) w v hL hR hq (fun _ _ _ hz => hz)
  refine tz_istore5 (n := 1860) (g_at ck_L_law28 18 rfl) rfl (by decide) g_hpI ?_
  refine tz_aload2 (n := 1861) (g_at ck_L_law28 19 rfl) rfl (g_ne kd_84) ?_
  refine tz_sv (n := 1867) (g_at ck_L_law28 20 rfl) (g_at ck_L_law29 0 rfl) (g_at ck_L_law29 1 rfl) (g_at ck_L_law29 2 rfl) (g_at ck_L_law29 3 rfl) rfl ⟨by omega, by omega, by omega⟩ ?_
  refine tz_sv (n := 1873) (g_at ck_L_law29 4 rfl) (g_at ck_L_law29 5 rfl) (g_at ck_L_law29 6 rfl) (g_at ck_L_law29 7 rfl) (g_at ck_L_law29 8 rfl) rfl ⟨by omega, by omega, by omega⟩ ?_
  refine tz_sv (n := 1879) (g_at ck_L_law29 9 rfl) (g_at ck_L_law29 10 rfl) (g_at ck_L_law29 11 rfl) (g_at ck_L_law29 12 rfl) (g_at ck_L_law29 13 rfl) rfl ⟨by omega, by omega, by omega⟩ ?_
  refine tz_cvI3 (n := 1882) (μ' := μX11_wind) (cb' := cb) (sb' := sb) ml_L_226 mo_X11_wind mv_X11_wind np_X11_wind kd_84 (g_at ck_L_law29 14 rfl) (mp_wind (sv_rg γ i 1) (sv_rg γ i 2) (sv_rg γ i 3) hL5 hR5 hW v5.1 v5.2.1 hσ v5.2.2.2.2.2.2.1.2) rfl rfl rfl ⟨by decide, by decide⟩ (Nat.le_of_ble_eq_true rfl) (by omega) (by omega) (fun x6 ρ6 m6 hq6 => ?_)
  obtain ⟨a1, a2, a3, a4⟩ := rd_2 (y := 0) (A := (fun x => wdS Λ hl tl s (sv γ i 1) (sv γ i 3) (sv γ i 2).toNat (2 ^ (sv γ i 2).toNat) = x)) uE p w5 v5 hL5 h5 hq6
  refine tz_istore6 (n := 1884) (g_at ck_L_law29 15 rfl) rfl (by decide) g_hpI ?_
  exact lt_tail (g_at ck_L_law29 16 rfl) (g_at ck_L_law29 17 rfl) (g_at ck_L_law29 18 rfl) (g_at ck_L_law29 19 rfl) (g_at ck_L_law30 1 rfl) (g_at ck_L_law30 2 rfl) (g_at ck_L_law30 3 rfl) (g_at ck_L_law30 4 rfl) (g_at ck_L_law30 5 rfl) (g_at ck_L_law30 6 rfl) (g_at ck_L_law30 7 rfl) (g_at ck_L_law30 8 rfl) (g_at ck_L_law30 9 rfl) (g_at ck_L_law30 12 rfl) rfl a4.2.1 (a1.trans e5.symm) (fun h9 => by rw [a2]; exact a3 (by rw [← e5]; exact h9)) (kk _ _ a4)
theorem lb_game {l : Launch} {γ : Gh} {ρ m : Mm} {R : RR} {X : XX} {cb sb : Nat} {N i : Int} (hI : IW N ρ m) (hN : N ≤ 1000) (hi : 0 ≤ i ∧ i + 6 ≤ γ.2.2.2.2.1 ∧ γ.2.2.2.2.1 < 2147483648) (kk : ∀ ρ9 m9, IW (N + 1) ρ9 m9 → gT l γ μL_law 60 cb sb R X KK ρ9 m9 2837 [some (vR (-1)), some (vR 1), some (vR 84), some (vR 122), some (vI i), none, none] []) : gT l γ μL_law 60 (cb + 4) (sb + 24) R X KK ρ m 1915 [some (vR (-1)), some (vR 1), some (vR 84), some (vR 122), some (vI i), none, none] [] := by
  obtain ⟨hL, hR, Λ, hl, tl, s, n, α, κ, h, s2, n2, α2, κ2, t, tn, pl, f, w, v, p⟩ := hI
  have hW := p.1
  have hσ := p.2.1.1.1
  have hS := w.iS hL
  have hA2 : 0 ≤ m 44 2 ∧ m 44 2 ≤ 40 := by rw [w.2.2.2.1.1]; exact p.2.1.2.1
  have hE3 : 0 ≤ m 46 3 ∧ m 46 3 ≤ 8 := by rw [w.2.2.2.2.1.1]; exact p.2.1.2.2.2.1
  have hf : ∀ k, 0 ≤ k → k < 3 → m 61 k < 2000000000 := fun k k1 k2 => by rw [w.2.2.2.2.2.2.2.2 k k1 k2]; have := p.2.2.2.2.2 k k1 k2; omega
  have hTn : m 1 1 = tn := w.2.2.2.2.2.2.2.1.1
  have hf1 : 0 ≤ m 1 1 ∧ m 1 1 ≤ 700 := by rw [hTn]; exact p.2.2.2.2.1
  refine tz_aload1 (n := 1916) (g_at ck_L_law30 13 rfl) rfl (g_ne kd_1) ?_
  refine tz_sv (n := 1922) (g_at ck_L_law30 14 rfl) (g_at ck_L_law30 15 rfl) (g_at ck_L_law30 16 rfl) (g_at ck_L_law30 17 rfl) (g_at ck_L_law30 18 rfl) rfl ⟨by omega, by omega, by omega⟩ ?_
  refine tz_sv (n := 1928) (g_at ck_L_law30 19 rfl) (g_at ck_L_law31 0 rfl) (g_at ck_L_law31 1 rfl) (g_at ck_L_law31 2 rfl) (g_at ck_L_law31 3 rfl) rfl ⟨by omega, by omega, by omega⟩ ?_
  refine tz_sv (n := 1934) (g_at ck_L_law31 4 rfl) (g_at ck_L_law31 5 rfl) (g_at ck_L_law31 6 rfl) (g_at ck_L_law31 7 rfl) (g_at ck_L_law31 8 rfl) rfl ⟨by omega, by omega, by omega⟩ ?_
  refine tz_aload3 (n := 1935) (g_at ck_L_law31 9 rfl) rfl (g_ne kd_122) ?_
  refine tz_cshI5 (n := 1938) (μ' := μL_game) (cb' := cb) (sb' := sb) ml_L_227 mo_L_game ms_L_game np_L_game (g_at ck_L_law31 10 rfl) (wl_game (sp_game (sv_rg γ i 1) (sv_rg γ i 2) (sv_rg γ i 3) hL rfl hS hR hW w.2.1 w.2.2.1 hσ)) rfl rfl ⟨by decide, by decide⟩ (Nat.le_of_ble_eq_true rfl) (by omega) (by omega) (g_in (g_m6 (List.mem_of_getElem? (i := 59) rfl)) rfl) (fun x5 ρ5 m5 hq => ?_)
  obtain ⟨hL5, hR5, w5, v5, e5, h5⟩ := rd_C (A := (fun x => (if s (1 + (sv γ i 1)) = Λ 5 (sv γ i 1) ∨ s (1 + (sv γ i 2)) = Λ 5 (sv γ i 2) then -1 else if (sv γ i 3) = 0 then (rsN (gmA Λ hl tl s (sv γ i 1) (sv γ i 2)) (gmB Λ hl tl s (sv γ i 1) (sv γ i 2)) 4).1 else (rsN (gmA Λ hl tl s (sv γ i 1) (sv γ i 2)) (gmB Λ hl tl s (sv γ i 1) (sv γ i 2)) 4).2) = x)) w v hL hR hq (fun _ _ _ hz => hz)
  refine tz_istore5 (n := 1940) (g_at ck_L_law31 11 rfl) rfl (by decide) g_hpI ?_
  refine tz_aload2 (n := 1941) (g_at ck_L_law31 12 rfl) rfl (g_ne kd_84) ?_
  refine tz_sv (n := 1947) (g_at ck_L_law31 13 rfl) (g_at ck_L_law31 14 rfl) (g_at ck_L_law31 15 rfl) (g_at ck_L_law31 16 rfl) (g_at ck_L_law31 17 rfl) rfl ⟨by omega, by omega, by omega⟩ ?_
  refine tz_sv (n := 1953) (g_at ck_L_law31 18 rfl) (g_at ck_L_law31 19 rfl) (g_at ck_L_law32 0 rfl) (g_at ck_L_law32 1 rfl) (g_at ck_L_law32 2 rfl) rfl ⟨by omega, by omega, by omega⟩ ?_
  refine tz_sv (n := 1959) (g_at ck_L_law32 3 rfl) (g_at ck_L_law32 4 rfl) (g_at ck_L_law32 5 rfl) (g_at ck_L_law32 6 rfl) (g_at ck_L_law32 7 rfl) rfl ⟨by omega, by omega, by omega⟩ ?_
  refine tz_cvI3 (n := 1962) (μ' := μX11_game) (cb' := cb) (sb' := sb) ml_L_229 mo_X11_game mv_X11_game np_X11_game kd_84 (g_at ck_L_law32 8 rfl) (mp_game (sv_rg γ i 1) (sv_rg γ i 2) (sv_rg γ i 3) hL5 hR5 hW v5.1 v5.2.1 hσ v5.2.2.2.2.2.2.1.2) rfl rfl rfl ⟨by decide, by decide⟩ (Nat.le_of_ble_eq_true rfl) (by omega) (by omega) (fun x6 ρ6 m6 hq6 => ?_)
  obtain ⟨a1, a2, a3, a4⟩ := rd_2 (y := 0) (A := (fun x => (if s (1 + (sv γ i 1)) = Λ 5 (sv γ i 1) ∨ s (1 + (sv γ i 2)) = Λ 5 (sv γ i 2) then -1 else if (sv γ i 3) = 0 then (rsN (gmA Λ hl tl s (sv γ i 1) (sv γ i 2)) (gmB Λ hl tl s (sv γ i 1) (sv γ i 2)) 4).1 else (rsN (gmA Λ hl tl s (sv γ i 1) (sv γ i 2)) (gmB Λ hl tl s (sv γ i 1) (sv γ i 2)) 4).2) = x)) uE p w5 v5 hL5 h5 hq6
  refine tz_istore6 (n := 1964) (g_at ck_L_law32 9 rfl) rfl (by decide) g_hpI ?_
  exact lt_tail (g_at ck_L_law32 10 rfl) (g_at ck_L_law32 11 rfl) (g_at ck_L_law32 12 rfl) (g_at ck_L_law32 13 rfl) (g_at ck_L_law32 16 rfl) (g_at ck_L_law32 17 rfl) (g_at ck_L_law32 18 rfl) (g_at ck_L_law32 19 rfl) (g_at ck_L_law33 0 rfl) (g_at ck_L_law33 1 rfl) (g_at ck_L_law33 2 rfl) (g_at ck_L_law33 3 rfl) (g_at ck_L_law33 4 rfl) (g_at ck_L_law33 7 rfl) rfl a4.2.1 (a1.trans e5.symm) (fun h9 => by rw [a2]; exact a3 (by rw [← e5]; exact h9)) (kk _ _ a4)
theorem lb_years {l : Launch} {γ : Gh} {ρ m : Mm} {R : RR} {X : XX} {cb sb : Nat} {N i : Int} (hI : IW N ρ m) (hN : N ≤ 1000) (hi : 0 ≤ i ∧ i + 6 ≤ γ.2.2.2.2.1 ∧ γ.2.2.2.2.1 < 2147483648) (kk : ∀ ρ9 m9, IW (N + 1) ρ9 m9 → gT l γ μL_law 60 cb sb R X KK ρ9 m9 2837 [some (vR (-1)), some (vR 1), some (vR 84), some (vR 122), some (vI i), none, none] []) : gT l γ μL_law 60 (cb + 4) (sb + 24) R X KK ρ m 1995 [some (vR (-1)), some (vR 1), some (vR 84), some (vR 122), some (vI i), none, none] [] := by
  obtain ⟨hL, hR, Λ, hl, tl, s, n, α, κ, h, s2, n2, α2, κ2, t, tn, pl, f, w, v, p⟩ := hI
  have hW := p.1
  have hσ := p.2.1.1.1
  have hS := w.iS hL
  have hA2 : 0 ≤ m 44 2 ∧ m 44 2 ≤ 40 := by rw [w.2.2.2.1.1]; exact p.2.1.2.1
  have hE3 : 0 ≤ m 46 3 ∧ m 46 3 ≤ 8 := by rw [w.2.2.2.2.1.1]; exact p.2.1.2.2.2.1
  have hf : ∀ k, 0 ≤ k → k < 3 → m 61 k < 2000000000 := fun k k1 k2 => by rw [w.2.2.2.2.2.2.2.2 k k1 k2]; have := p.2.2.2.2.2 k k1 k2; omega
  have hTn : m 1 1 = tn := w.2.2.2.2.2.2.2.1.1
  have hf1 : 0 ≤ m 1 1 ∧ m 1 1 ≤ 700 := by rw [hTn]; exact p.2.2.2.2.1
  refine tz_aload1 (n := 1996) (g_at ck_L_law33 8 rfl) rfl (g_ne kd_1) ?_
  refine tz_sv (n := 2002) (g_at ck_L_law33 9 rfl) (g_at ck_L_law33 10 rfl) (g_at ck_L_law33 11 rfl) (g_at ck_L_law33 12 rfl) (g_at ck_L_law33 13 rfl) rfl ⟨by omega, by omega, by omega⟩ ?_
  refine tz_sv (n := 2008) (g_at ck_L_law33 14 rfl) (g_at ck_L_law33 15 rfl) (g_at ck_L_law33 16 rfl) (g_at ck_L_law33 17 rfl) (g_at ck_L_law33 18 rfl) rfl ⟨by omega, by omega, by omega⟩ ?_
  refine tz_sv (n := 2014) (g_at ck_L_law33 19 rfl) (g_at ck_L_law34 0 rfl) (g_at ck_L_law34 1 rfl) (g_at ck_L_law34 2 rfl) (g_at ck_L_law34 3 rfl) rfl ⟨by omega, by omega, by omega⟩ ?_
  refine tz_aload3 (n := 2015) (g_at ck_L_law34 4 rfl) rfl (g_ne kd_122) ?_
  refine tz_cshI5 (n := 2018) (μ' := μL_years) (cb' := cb) (sb' := sb) ml_L_230 mo_L_years ms_L_years np_L_years (g_at ck_L_law34 5 rfl) (wl_years (sp_years (sv_rg γ i 1) (sv_rg γ i 2) (sv_rg γ i 3) hL rfl hS hR hW w.2.1 w.2.2.1 hσ)) rfl rfl ⟨by decide, by decide⟩ (Nat.le_of_ble_eq_true rfl) (by omega) (by omega) (g_in (g_m6 (List.mem_of_getElem? (i := 76) rfl)) rfl) (fun x5 ρ5 m5 hq => ?_)
  obtain ⟨hL5, hR5, w5, v5, e5, h5⟩ := rd_C (A := (fun x => (if (sv γ i 3) = 1 then bcJ (homB Λ (yrN Λ hl tl (sv γ i 1) (sig0 s) (sv γ i 2).toNat).2) else if (sv γ i 3) = 0 then sumS (yrN Λ hl tl (sv γ i 1) (sig0 s) (sv γ i 2).toNat).2 (Λ 0 1).toNat else purS (yrN Λ hl tl (sv γ i 1) (sig0 s) (sv γ i 2).toNat).2 (Λ 0 1).toNat) = x)) w v hL hR hq (fun _ _ _ hz => hz)
  refine tz_istore5 (n := 2020) (g_at ck_L_law34 6 rfl) rfl (by decide) g_hpI ?_
  refine tz_aload2 (n := 2021) (g_at ck_L_law34 7 rfl) rfl (g_ne kd_84) ?_
  refine tz_sv (n := 2027) (g_at ck_L_law34 8 rfl) (g_at ck_L_law34 9 rfl) (g_at ck_L_law34 10 rfl) (g_at ck_L_law34 11 rfl) (g_at ck_L_law34 12 rfl) rfl ⟨by omega, by omega, by omega⟩ ?_
  refine tz_sv (n := 2033) (g_at ck_L_law34 13 rfl) (g_at ck_L_law34 14 rfl) (g_at ck_L_law34 15 rfl) (g_at ck_L_law34 16 rfl) (g_at ck_L_law34 17 rfl) rfl ⟨by omega, by omega, by omega⟩ ?_
  refine tz_sv (n := 2039) (g_at ck_L_law34 18 rfl) (g_at ck_L_law35 0 rfl) (g_at ck_L_law35 1 rfl) (g_at ck_L_law35 2 rfl) (g_at ck_L_law35 3 rfl) rfl ⟨by omega, by omega, by omega⟩ ?_
  refine tz_cvI3 (n := 2042) (μ' := μX11_years) (cb' := cb) (sb' := sb) ml_L_232 mo_X11_years mv_X11_years np_X11_years kd_84 (g_at ck_L_law35 4 rfl) (mp_years (sv_rg γ i 1) (sv_rg γ i 2) (sv_rg γ i 3) hL5 hR5 hW v5.1 v5.2.1 hσ v5.2.2.2.2.2.2.1.2) rfl rfl rfl ⟨by decide, by decide⟩ (Nat.le_of_ble_eq_true rfl) (by omega) (by omega) (fun x6 ρ6 m6 hq6 => ?_)
  obtain ⟨a1, a2, a3, a4⟩ := rd_2 (y := 0) (A := (fun x => (if (sv γ i 3) = 1 then bcJ (homB Λ (yrN Λ hl tl (sv γ i 1) (sig0 s) (sv γ i 2).toNat).2) else if (sv γ i 3) = 0 then sumS (yrN Λ hl tl (sv γ i 1) (sig0 s) (sv γ i 2).toNat).2 (Λ 0 1).toNat else purS (yrN Λ hl tl (sv γ i 1) (sig0 s) (sv γ i 2).toNat).2 (Λ 0 1).toNat) = x)) uE p w5 v5 hL5 h5 hq6
  refine tz_istore6 (n := 2044) (g_at ck_L_law35 5 rfl) rfl (by decide) g_hpI ?_
  exact lt_tail (g_at ck_L_law35 6 rfl) (g_at ck_L_law35 7 rfl) (g_at ck_L_law35 8 rfl) (g_at ck_L_law35 9 rfl) (g_at ck_L_law35 12 rfl) (g_at ck_L_law35 13 rfl) (g_at ck_L_law35 14 rfl) (g_at ck_L_law35 15 rfl) (g_at ck_L_law35 16 rfl) (g_at ck_L_law35 17 rfl) (g_at ck_L_law35 18 rfl) (g_at ck_L_law36 0 rfl) (g_at ck_L_law36 1 rfl) (g_at ck_L_law36 4 rfl) rfl a4.2.1 (a1.trans e5.symm) (fun h9 => by rw [a2]; exact a3 (by rw [← e5]; exact h9)) (kk _ _ a4)
theorem lb_first {l : Launch} {γ : Gh} {ρ m : Mm} {R : RR} {X : XX} {cb sb : Nat} {N i : Int} (hI : IW N ρ m) (hN : N ≤ 1000) (hi : 0 ≤ i ∧ i + 6 ≤ γ.2.2.2.2.1 ∧ γ.2.2.2.2.1 < 2147483648) (kk : ∀ ρ9 m9, IW (N + 1) ρ9 m9 → gT l γ μL_law 60 cb sb R X KK ρ9 m9 2837 [some (vR (-1)), some (vR 1), some (vR 84), some (vR 122), some (vI i), none, none] []) : gT l γ μL_law 60 (cb + 4) (sb + 24) R X KK ρ m 2075 [some (vR (-1)), some (vR 1), some (vR 84), some (vR 122), some (vI i), none, none] [] := by
  obtain ⟨hL, hR, Λ, hl, tl, s, n, α, κ, h, s2, n2, α2, κ2, t, tn, pl, f, w, v, p⟩ := hI
  have hW := p.1
  have hσ := p.2.1.1.1
  have hS := w.iS hL
  have hA2 : 0 ≤ m 44 2 ∧ m 44 2 ≤ 40 := by rw [w.2.2.2.1.1]; exact p.2.1.2.1
  have hE3 : 0 ≤ m 46 3 ∧ m 46 3 ≤ 8 := by rw [w.2.2.2.2.1.1]; exact p.2.1.2.2.2.1
  have hf : ∀ k, 0 ≤ k → k < 3 → m 61 k < 2000000000 := fun k k1 k2 => by rw [w.2.2.2.2.2.2.2.2 k k1 k2]; have := p.2.2.2.2.2 k k1 k2; omega
  have hTn : m 1 1 = tn := w.2.2.2.2.2.2.2.1.1
  have hf1 : 0 ≤ m 1 1 ∧ m 1 1 ≤ 700 := by rw [hTn]; exact p.2.2.2.2.1
  refine tz_aload1 (n := 2076) (g_at ck_L_law36 5 rfl) rfl (g_ne kd_1) ?_
  refine tz_cvI0 (n := 2079) (μ' := μX10_first) (cb' := cb) (sb' := sb) ml_L_233 mo_X10_first mv_X10_first np_X10_first kd_1 (g_at ck_L_law36 6 rfl) (sp_first hL rfl hS hR hW w.2.1 w.2.2.1 hσ) rfl rfl rfl ⟨by decide, by decide⟩ (Nat.le_of_ble_eq_true rfl) (by omega) (by omega) (fun x5 ρ5 m5 hq => ?_)
  obtain ⟨hL5, hR5, w5, v5, h5⟩ := rd_D (A := (fun x => isFF (fun (j q : Nat) => (daysP Λ hl tl (sig0 s) (j + 1)) 0 (1 + (q : Int)) = Λ 5 (q : Int) ∧ ¬ s (1 + (q : Int)) = Λ 5 (q : Int)) 100 (Λ 0 1).toNat x)) w v hL hq
  refine tz_aload2 (n := 2080) (g_at ck_L_law36 7 rfl) rfl (g_ne kd_84) ?_
  refine tz_cvI0 (n := 2083) (μ' := μX11_first) (cb' := cb) (sb' := sb) ml_L_236 mo_X11_first mv_X11_first np_X11_first kd_84 (g_at ck_L_law36 8 rfl) (mp_first hL5 hR5 hW v5.1 v5.2.1 hσ v5.2.2.2.2.2.2.1.2) rfl rfl rfl ⟨by decide, by decide⟩ (Nat.le_of_ble_eq_true rfl) (by omega) (by omega) (fun x6 ρ6 m6 hq6 => ?_)
  obtain ⟨b1, b2, b3, b4, b5, b6, b7⟩ := rd_M (cd := 0) (A := (fun x => isFF (fun (j q : Nat) => (daysP Λ hl tl (sig0 s) (j + 1)) 0 (1 + (q : Int)) = Λ 5 (q : Int) ∧ ¬ s (1 + (q : Int)) = Λ 5 (q : Int)) 100 (Λ 0 1).toNat x)) w5 v5 hL5 ⟨hq6.1, hq6.2.1, hq6.2.2.1, hq6.2.2.2.1, fun _ => hq6.2.2.2.2⟩
  exact tz_eqT (tgt := 2837) (uFF _ _ h5 (b7 rfl)) (g_at ck_L_law36 9 rfl) rfl (kk _ _ (IW.mk b1 b2 b3 b4 p.inc))
theorem lb_visited {l : Launch} {γ : Gh} {ρ m : Mm} {R : RR} {X : XX} {cb sb : Nat} {N i : Int} (hI : IW N ρ m) (hN : N ≤ 1000) (hi : 0 ≤ i ∧ i + 6 ≤ γ.2.2.2.2.1 ∧ γ.2.2.2.2.1 < 2147483648) (kk : ∀ ρ9 m9, IW (N + 1) ρ9 m9 → gT l γ μL_law 60 cb sb R X KK ρ9 m9 2837 [some (vR (-1)), some (vR 1), some (vR 84), some (vR 122), some (vI i), none, none] []) : gT l γ μL_law 60 (cb + 4) (sb + 24) R X KK ρ m 2088 [some (vR (-1)), some (vR 1), some (vR 84), some (vR 122), some (vI i), none, none] [] := by
  obtain ⟨hL, hR, Λ, hl, tl, s, n, α, κ, h, s2, n2, α2, κ2, t, tn, pl, f, w, v, p⟩ := hI
  have hW := p.1
  have hσ := p.2.1.1.1
  have hS := w.iS hL
  have hA2 : 0 ≤ m 44 2 ∧ m 44 2 ≤ 40 := by rw [w.2.2.2.1.1]; exact p.2.1.2.1
  have hE3 : 0 ≤ m 46 3 ∧ m 46 3 ≤ 8 := by rw [w.2.2.2.2.1.1]; exact p.2.1.2.2.2.1
  have hf : ∀ k, 0 ≤ k → k < 3 → m 61 k < 2000000000 := fun k k1 k2 => by rw [w.2.2.2.2.2.2.2.2 k k1 k2]; have := p.2.2.2.2.2 k k1 k2; omega
  have hTn : m 1 1 = tn := w.2.2.2.2.2.2.2.1.1
  have hf1 : 0 ≤ m 1 1 ∧ m 1 1 ≤ 700 := by rw [hTn]; exact p.2.2.2.2.1
  refine tz_aload1 (n := 2089) (g_at ck_L_law36 12 rfl) rfl (g_ne kd_1) ?_
  refine tz_sv (n := 2095) (g_at ck_L_law36 13 rfl) (g_at ck_L_law36 14 rfl) (g_at ck_L_law36 15 rfl) (g_at ck_L_law36 16 rfl) (g_at ck_L_law36 17 rfl) rfl ⟨by omega, by omega, by omega⟩ ?_
  refine tz_sv (n := 2101) (g_at ck_L_law36 18 rfl) (g_at ck_L_law37 0 rfl) (g_at ck_L_law37 1 rfl) (g_at ck_L_law37 2 rfl) (g_at ck_L_law37 3 rfl) rfl ⟨by omega, by omega, by omega⟩ ?_
  refine tz_aload3 (n := 2102) (g_at ck_L_law37 4 rfl) rfl (g_ne kd_122) ?_
  refine tz_cshI4 (n := 2105) (μ' := μL_visited) (cb' := cb) (sb' := sb) ml_L_237 mo_L_visited ms_L_visited np_L_visited (g_at ck_L_law37 5 rfl) (wl_visited (sp_visited (sv_rg γ i 1) (sv_rg γ i 2) hL rfl hS hR hW w.2.1 w.2.2.1 hσ)) rfl rfl ⟨by decide, by decide⟩ (Nat.le_of_ble_eq_true rfl) (by omega) (by omega) (g_in (g_m6 (List.mem_of_getElem? (i := 96) rfl)) rfl) (fun x5 ρ5 m5 hq => ?_)
  obtain ⟨hL5, hR5, w5, v5, e5, h5⟩ := rd_C (A := (fun x => visN Λ hl tl s (sv γ i 1) (sv γ i 2).toNat = x)) w v hL hR hq (fun _ _ _ hz => hz)
  refine tz_istore5 (n := 2107) (g_at ck_L_law37 6 rfl) rfl (by decide) g_hpI ?_
  refine tz_aload2 (n := 2108) (g_at ck_L_law37 7 rfl) rfl (g_ne kd_84) ?_
  refine tz_sv (n := 2114) (g_at ck_L_law37 8 rfl) (g_at ck_L_law37 9 rfl) (g_at ck_L_law37 10 rfl) (g_at ck_L_law37 11 rfl) (g_at ck_L_law37 12 rfl) rfl ⟨by omega, by omega, by omega⟩ ?_
  refine tz_sv (n := 2120) (g_at ck_L_law37 13 rfl) (g_at ck_L_law37 14 rfl) (g_at ck_L_law37 15 rfl) (g_at ck_L_law37 16 rfl) (g_at ck_L_law37 17 rfl) rfl ⟨by omega, by omega, by omega⟩ ?_
  refine tz_cvI2 (n := 2123) (μ' := μX11_visited) (cb' := cb) (sb' := sb) ml_L_239 mo_X11_visited mv_X11_visited np_X11_visited kd_84 (g_at ck_L_law38 0 rfl) (mp_visited (sv_rg γ i 1) (sv_rg γ i 2) hL5 hR5 hW v5.1 v5.2.1 hσ v5.2.2.2.2.2.2.1.2) rfl rfl rfl ⟨by decide, by decide⟩ (Nat.le_of_ble_eq_true rfl) (by omega) (by omega) (fun x6 ρ6 m6 hq6 => ?_)
  obtain ⟨a1, a2, a3, a4⟩ := rd_2 (y := 0) (A := (fun x => visN Λ hl tl s (sv γ i 1) (sv γ i 2).toNat = x)) uE p w5 v5 hL5 h5 hq6
  refine tz_istore6 (n := 2125) (g_at ck_L_law38 1 rfl) rfl (by decide) g_hpI ?_
  exact lt_tail (g_at ck_L_law38 2 rfl) (g_at ck_L_law38 3 rfl) (g_at ck_L_law38 4 rfl) (g_at ck_L_law38 5 rfl) (g_at ck_L_law38 8 rfl) (g_at ck_L_law38 9 rfl) (g_at ck_L_law38 10 rfl) (g_at ck_L_law38 11 rfl) (g_at ck_L_law38 12 rfl) (g_at ck_L_law38 13 rfl) (g_at ck_L_law38 14 rfl) (g_at ck_L_law38 15 rfl) (g_at ck_L_law38 16 rfl) (g_at ck_L_law39 1 rfl) rfl a4.2.1 (a1.trans e5.symm) (fun h9 => by rw [a2]; exact a3 (by rw [← e5]; exact h9)) (kk _ _ a4)
theorem lb_uneven {l : Launch} {γ : Gh} {ρ m : Mm} {R : RR} {X : XX} {cb sb : Nat} {N i : Int} (hI : IW N ρ m) (hN : N ≤ 1000) (hi : 0 ≤ i ∧ i + 6 ≤ γ.2.2.2.2.1 ∧ γ.2.2.2.2.1 < 2147483648) (kk : ∀ ρ9 m9, IW (N + 1) ρ9 m9 → gT l γ μL_law 60 cb sb R X KK ρ9 m9 2837 [some (vR (-1)), some (vR 1), some (vR 84), some (vR 122), some (vI i), none, none] []) : gT l γ μL_law 60 (cb + 4) (sb + 24) R X KK ρ m 2156 [some (vR (-1)), some (vR 1), some (vR 84), some (vR 122), some (vI i), none, none] [] := by
  obtain ⟨hL, hR, Λ, hl, tl, s, n, α, κ, h, s2, n2, α2, κ2, t, tn, pl, f, w, v, p⟩ := hI
  have hW := p.1
  have hσ := p.2.1.1.1
  have hS := w.iS hL
  have hA2 : 0 ≤ m 44 2 ∧ m 44 2 ≤ 40 := by rw [w.2.2.2.1.1]; exact p.2.1.2.1
  have hE3 : 0 ≤ m 46 3 ∧ m 46 3 ≤ 8 := by rw [w.2.2.2.2.1.1]; exact p.2.1.2.2.2.1
  have hf : ∀ k, 0 ≤ k → k < 3 → m 61 k < 2000000000 := fun k k1 k2 => by rw [w.2.2.2.2.2.2.2.2 k k1 k2]; have := p.2.2.2.2.2 k k1 k2; omega
  have hTn : m 1 1 = tn := w.2.2.2.2.2.2.2.1.1
  have hf1 : 0 ≤ m 1 1 ∧ m 1 1 ≤ 700 := by rw [hTn]; exact p.2.2.2.2.1
  refine tz_aload1 (n := 2157) (g_at ck_L_law39 2 rfl) rfl (g_ne kd_1) ?_
  refine tz_sv (n := 2163) (g_at ck_L_law39 3 rfl) (g_at ck_L_law39 4 rfl) (g_at ck_L_law39 5 rfl) (g_at ck_L_law39 6 rfl) (g_at ck_L_law39 7 rfl) rfl ⟨by omega, by omega, by omega⟩ ?_
  refine tz_sv (n := 2169) (g_at ck_L_law39 8 rfl) (g_at ck_L_law39 9 rfl) (g_at ck_L_law39 10 rfl) (g_at ck_L_law39 11 rfl) (g_at ck_L_law39 12 rfl) rfl ⟨by omega, by omega, by omega⟩ ?_
  refine tz_aload3 (n := 2170) (g_at ck_L_law39 13 rfl) rfl (g_ne kd_122) ?_
  refine tz_cshI4 (n := 2173) (μ' := μL_uneven) (cb' := cb) (sb' := sb) ml_L_240 mo_L_uneven ms_L_uneven np_L_uneven (g_at ck_L_law39 14 rfl) (wl_uneven (sp_uneven (sv_rg γ i 1) (sv_rg γ i 2) hL rfl hS hR hW w.2.1 w.2.2.1 hσ)) rfl rfl ⟨by decide, by decide⟩ (Nat.le_of_ble_eq_true rfl) (by omega) (by omega) (g_in (g_m6 (List.mem_of_getElem? (i := 103) rfl)) rfl) (fun x5 ρ5 m5 hq => ?_)
  obtain ⟨hL5, hR5, w5, v5, e5, h5⟩ := rd_C (A := (fun x => (if Λ 3 (sv γ i 1) = 0 then 0 else mxG (daysP Λ hl tl (sig0 s) (sv γ i 2).toNat) (sv γ i 1) (Λ 3 (sv γ i 1)).toNat - mnG (daysP Λ hl tl (sig0 s) (sv γ i 2).toNat) (sv γ i 1) (Λ 3 (sv γ i 1)).toNat) = x)) w v hL hR hq (fun _ _ _ hz => hz)
  refine tz_istore5 (n := 2175) (g_at ck_L_law39 15 rfl) rfl (by decide) g_hpI ?_
  refine tz_aload2 (n := 2176) (g_at ck_L_law39 16 rfl) rfl (g_ne kd_84) ?_
  refine tz_sv (n := 2182) (g_at ck_L_law39 17 rfl) (g_at ck_L_law40 0 rfl) (g_at ck_L_law40 1 rfl) (g_at ck_L_law40 2 rfl) (g_at ck_L_law40 3 rfl) rfl ⟨by omega, by omega, by omega⟩ ?_
  refine tz_sv (n := 2188) (g_at ck_L_law40 4 rfl) (g_at ck_L_law40 5 rfl) (g_at ck_L_law40 6 rfl) (g_at ck_L_law40 7 rfl) (g_at ck_L_law40 8 rfl) rfl ⟨by omega, by omega, by omega⟩ ?_
  refine tz_cvI2 (n := 2191) (μ' := μX11_uneven) (cb' := cb) (sb' := sb) ml_L_242 mo_X11_uneven mv_X11_uneven np_X11_uneven kd_84 (g_at ck_L_law40 9 rfl) (mp_uneven (sv_rg γ i 1) (sv_rg γ i 2) hL5 hR5 hW v5.1 v5.2.1 hσ v5.2.2.2.2.2.2.1.2) rfl rfl rfl ⟨by decide, by decide⟩ (Nat.le_of_ble_eq_true rfl) (by omega) (by omega) (fun x6 ρ6 m6 hq6 => ?_)
  obtain ⟨a1, a2, a3, a4⟩ := rd_2 (y := 0) (A := (fun x => (if Λ 3 (sv γ i 1) = 0 then 0 else mxG (daysP Λ hl tl (sig0 s) (sv γ i 2).toNat) (sv γ i 1) (Λ 3 (sv γ i 1)).toNat - mnG (daysP Λ hl tl (sig0 s) (sv γ i 2).toNat) (sv γ i 1) (Λ 3 (sv γ i 1)).toNat) = x)) uE p w5 v5 hL5 h5 hq6
  refine tz_istore6 (n := 2193) (g_at ck_L_law40 10 rfl) rfl (by decide) g_hpI ?_
  exact lt_tail (g_at ck_L_law40 11 rfl) (g_at ck_L_law40 12 rfl) (g_at ck_L_law40 13 rfl) (g_at ck_L_law40 14 rfl) (g_at ck_L_law40 17 rfl) (g_at ck_L_law41 0 rfl) (g_at ck_L_law41 1 rfl) (g_at ck_L_law41 2 rfl) (g_at ck_L_law41 3 rfl) (g_at ck_L_law41 4 rfl) (g_at ck_L_law41 5 rfl) (g_at ck_L_law41 6 rfl) (g_at ck_L_law41 7 rfl) (g_at ck_L_law41 10 rfl) rfl a4.2.1 (a1.trans e5.symm) (fun h9 => by rw [a2]; exact a3 (by rw [← e5]; exact h9)) (kk _ _ a4)
theorem lb_together {l : Launch} {γ : Gh} {ρ m : Mm} {R : RR} {X : XX} {cb sb : Nat} {N i : Int} (hI : IW N ρ m) (hN : N ≤ 1000) (hi : 0 ≤ i ∧ i + 6 ≤ γ.2.2.2.2.1 ∧ γ.2.2.2.2.1 < 2147483648) (kk : ∀ ρ9 m9, IW (N + 1) ρ9 m9 → gT l γ μL_law 60 cb sb R X KK ρ9 m9 2837 [some (vR (-1)), some (vR 1), some (vR 84), some (vR 122), some (vI i), none, none] []) : gT l γ μL_law 60 (cb + 4) (sb + 24) R X KK ρ m 2224 [some (vR (-1)), some (vR 1), some (vR 84), some (vR 122), some (vI i), none, none] [] := by
  obtain ⟨hL, hR, Λ, hl, tl, s, n, α, κ, h, s2, n2, α2, κ2, t, tn, pl, f, w, v, p⟩ := hI
  have hW := p.1
  have hσ := p.2.1.1.1
  have hS := w.iS hL
  have hA2 : 0 ≤ m 44 2 ∧ m 44 2 ≤ 40 := by rw [w.2.2.2.1.1]; exact p.2.1.2.1
  have hE3 : 0 ≤ m 46 3 ∧ m 46 3 ≤ 8 := by rw [w.2.2.2.2.1.1]; exact p.2.1.2.2.2.1
  have hf : ∀ k, 0 ≤ k → k < 3 → m 61 k < 2000000000 := fun k k1 k2 => by rw [w.2.2.2.2.2.2.2.2 k k1 k2]; have := p.2.2.2.2.2 k k1 k2; omega
  have hTn : m 1 1 = tn := w.2.2.2.2.2.2.2.1.1
  have hf1 : 0 ≤ m 1 1 ∧ m 1 1 ≤ 700 := by rw [hTn]; exact p.2.2.2.2.1
  refine tz_aload1 (n := 2225) (g_at ck_L_law41 11 rfl) rfl (g_ne kd_1) ?_
  refine tz_sv (n := 2231) (g_at ck_L_law41 12 rfl) (g_at ck_L_law41 13 rfl) (g_at ck_L_law41 14 rfl) (g_at ck_L_law41 15 rfl) (g_at ck_L_law41 16 rfl) rfl ⟨by omega, by omega, by omega⟩ ?_
  refine tz_sv (n := 2237) (g_at ck_L_law41 17 rfl) (g_at ck_L_law42 0 rfl) (g_at ck_L_law42 1 rfl) (g_at ck_L_law42 2 rfl) (g_at ck_L_law42 3 rfl) rfl ⟨by omega, by omega, by omega⟩ ?_
  refine tz_sv (n := 2243) (g_at ck_L_law42 4 rfl) (g_at ck_L_law42 5 rfl) (g_at ck_L_law42 6 rfl) (g_at ck_L_law42 7 rfl) (g_at ck_L_law42 8 rfl) rfl ⟨by omega, by omega, by omega⟩ ?_
  refine tz_aload3 (n := 2244) (g_at ck_L_law42 9 rfl) rfl (g_ne kd_122) ?_
  refine tz_cshI5 (n := 2247) (μ' := μL_together) (cb' := cb) (sb' := sb) ml_L_243 mo_L_together ms_L_together np_L_together (g_at ck_L_law42 10 rfl) (wl_together (sp_together (sv_rg γ i 1) (sv_rg γ i 2) (sv_rg γ i 3) hL rfl hS hR hW w.2.1 w.2.2.1 hσ)) rfl rfl ⟨by decide, by decide⟩ (Nat.le_of_ble_eq_true rfl) (by omega) (by omega) (g_in (g_m6 (List.mem_of_getElem? (i := 112) rfl)) rfl) (fun x5 ρ5 m5 hq => ?_)
  obtain ⟨hL5, hR5, w5, v5, e5, h5⟩ := rd_C (A := (fun x => togN Λ hl tl s (sv γ i 1) (sv γ i 2) (sv γ i 3).toNat = x)) w v hL hR hq (fun _ _ _ hz => hz)
  refine tz_istore5 (n := 2249) (g_at ck_L_law42 11 rfl) rfl (by decide) g_hpI ?_
  refine tz_aload2 (n := 2250) (g_at ck_L_law42 12 rfl) rfl (g_ne kd_84) ?_
  refine tz_sv (n := 2256) (g_at ck_L_law42 13 rfl) (g_at ck_L_law42 14 rfl) (g_at ck_L_law42 15 rfl) (g_at ck_L_law42 16 rfl) (g_at ck_L_law43 0 rfl) rfl ⟨by omega, by omega, by omega⟩ ?_
  refine tz_sv (n := 2262) (g_at ck_L_law43 1 rfl) (g_at ck_L_law43 2 rfl) (g_at ck_L_law43 3 rfl) (g_at ck_L_law43 4 rfl) (g_at ck_L_law43 5 rfl) rfl ⟨by omega, by omega, by omega⟩ ?_
  refine tz_sv (n := 2268) (g_at ck_L_law43 6 rfl) (g_at ck_L_law43 7 rfl) (g_at ck_L_law43 8 rfl) (g_at ck_L_law43 9 rfl) (g_at ck_L_law43 10 rfl) rfl ⟨by omega, by omega, by omega⟩ ?_
  refine tz_cvI3 (n := 2271) (μ' := μX11_together) (cb' := cb) (sb' := sb) ml_L_245 mo_X11_together mv_X11_together np_X11_together kd_84 (g_at ck_L_law43 11 rfl) (mp_together (sv_rg γ i 1) (sv_rg γ i 2) (sv_rg γ i 3) hL5 hR5 hW v5.1 v5.2.1 hσ v5.2.2.2.2.2.2.1.2) rfl rfl rfl ⟨by decide, by decide⟩ (Nat.le_of_ble_eq_true rfl) (by omega) (by omega) (fun x6 ρ6 m6 hq6 => ?_)
  obtain ⟨a1, a2, a3, a4⟩ := rd_2 (y := 0) (A := (fun x => togN Λ hl tl s (sv γ i 1) (sv γ i 2) (sv γ i 3).toNat = x)) uE p w5 v5 hL5 h5 hq6
  refine tz_istore6 (n := 2273) (g_at ck_L_law43 12 rfl) rfl (by decide) g_hpI ?_
  exact lt_tail (g_at ck_L_law43 13 rfl) (g_at ck_L_law43 14 rfl) (g_at ck_L_law43 15 rfl) (g_at ck_L_law43 16 rfl) (g_at ck_L_law44 2 rfl) (g_at ck_L_law44 3 rfl) (g_at ck_L_law44 4 rfl) (g_at ck_L_law44 5 rfl) (g_at ck_L_law44 6 rfl) (g_at ck_L_law44 7 rfl) (g_at ck_L_law44 8 rfl) (g_at ck_L_law44 9 rfl) (g_at ck_L_law44 10 rfl) (g_at ck_L_law44 13 rfl) rfl a4.2.1 (a1.trans e5.symm) (fun h9 => by rw [a2]; exact a3 (by rw [← e5]; exact h9)) (kk _ _ a4)
theorem lb_taken {l : Launch} {γ : Gh} {ρ m : Mm} {R : RR} {X : XX} {cb sb : Nat} {N i : Int} (hI : IW N ρ m) (hN : N ≤ 1000) (hi : 0 ≤ i ∧ i + 6 ≤ γ.2.2.2.2.1 ∧ γ.2.2.2.2.1 < 2147483648) (kk : ∀ ρ9 m9, IW (N + 1) ρ9 m9 → gT l γ μL_law 60 cb sb R X KK ρ9 m9 2837 [some (vR (-1)), some (vR 1), some (vR 84), some (vR 122), some (vI i), none, none] []) : gT l γ μL_law 60 (cb + 4) (sb + 24) R X KK ρ m 2304 [some (vR (-1)), some (vR 1), some (vR 84), some (vR 122), some (vI i), none, none] [] := by
  obtain ⟨hL, hR, Λ, hl, tl, s, n, α, κ, h, s2, n2, α2, κ2, t, tn, pl, f, w, v, p⟩ := hI
  have hW := p.1
  have hσ := p.2.1.1.1
  have hS := w.iS hL
  have hA2 : 0 ≤ m 44 2 ∧ m 44 2 ≤ 40 := by rw [w.2.2.2.1.1]; exact p.2.1.2.1
  have hE3 : 0 ≤ m 46 3 ∧ m 46 3 ≤ 8 := by rw [w.2.2.2.2.1.1]; exact p.2.1.2.2.2.1
  have hf : ∀ k, 0 ≤ k → k < 3 → m 61 k < 2000000000 := fun k k1 k2 => by rw [w.2.2.2.2.2.2.2.2 k k1 k2]; have := p.2.2.2.2.2 k k1 k2; omega
  have hTn : m 1 1 = tn := w.2.2.2.2.2.2.2.1.1
  have hf1 : 0 ≤ m 1 1 ∧ m 1 1 ≤ 700 := by rw [hTn]; exact p.2.2.2.2.1
  refine tz_aload1 (n := 2305) (g_at ck_L_law44 14 rfl) rfl (g_ne kd_1) ?_
  refine tz_sv (n := 2311) (g_at ck_L_law44 15 rfl) (g_at ck_L_law44 16 rfl) (g_at ck_L_law45 0 rfl) (g_at ck_L_law45 1 rfl) (g_at ck_L_law45 2 rfl) rfl ⟨by omega, by omega, by omega⟩ ?_
  refine tz_sv (n := 2317) (g_at ck_L_law45 3 rfl) (g_at ck_L_law45 4 rfl) (g_at ck_L_law45 5 rfl) (g_at ck_L_law45 6 rfl) (g_at ck_L_law45 7 rfl) rfl ⟨by omega, by omega, by omega⟩ ?_
  refine tz_aload3 (n := 2318) (g_at ck_L_law45 8 rfl) rfl (g_ne kd_122) ?_
  refine tz_cshI4 (n := 2321) (μ' := μL_taken) (cb' := cb) (sb' := sb) ml_L_246 mo_L_taken ms_L_taken np_L_taken (g_at ck_L_law45 9 rfl) (wl_taken (sp_taken (sv_rg γ i 1) (sv_rg γ i 2) hL rfl hS hR hW w.2.1 w.2.2.1 hσ)) rfl rfl ⟨by decide, by decide⟩ (Nat.le_of_ble_eq_true rfl) (by omega) (by omega) (g_in (g_m6 (List.mem_of_getElem? (i := 119) rfl)) rfl) (fun x5 ρ5 m5 hq => ?_)
  obtain ⟨hL5, hR5, w5, v5, e5, h5⟩ := rd_C (A := (fun x => tkN Λ (daysP Λ hl tl (sig0 s) (sv γ i 2).toNat) (sv γ i 1) (Λ 0 0).toNat * Λ 1 (sv γ i 1) = x)) w v hL hR hq (fun _ _ _ hz => hz)
  refine tz_istore5 (n := 2323) (g_at ck_L_law45 10 rfl) rfl (by decide) g_hpI ?_
  refine tz_aload2 (n := 2324) (g_at ck_L_law45 11 rfl) rfl (g_ne kd_84) ?_
  refine tz_sv (n := 2330) (g_at ck_L_law45 12 rfl) (g_at ck_L_law45 13 rfl) (g_at ck_L_law45 14 rfl) (g_at ck_L_law45 15 rfl) (g_at ck_L_law45 16 rfl) rfl ⟨by omega, by omega, by omega⟩ ?_
  refine tz_sv (n := 2336) (g_at ck_L_law46 0 rfl) (g_at ck_L_law46 1 rfl) (g_at ck_L_law46 2 rfl) (g_at ck_L_law46 3 rfl) (g_at ck_L_law46 4 rfl) rfl ⟨by omega, by omega, by omega⟩ ?_
  refine tz_cvI2 (n := 2339) (μ' := μX11_taken) (cb' := cb) (sb' := sb) ml_L_248 mo_X11_taken mv_X11_taken np_X11_taken kd_84 (g_at ck_L_law46 5 rfl) (mp_taken (sv_rg γ i 1) (sv_rg γ i 2) hL5 hR5 hW v5.1 v5.2.1 hσ v5.2.2.2.2.2.2.1.2) rfl rfl rfl ⟨by decide, by decide⟩ (Nat.le_of_ble_eq_true rfl) (by omega) (by omega) (fun x6 ρ6 m6 hq6 => ?_)
  obtain ⟨a1, a2, a3, a4⟩ := rd_2 (y := 0) (A := (fun x => tkN Λ (daysP Λ hl tl (sig0 s) (sv γ i 2).toNat) (sv γ i 1) (Λ 0 0).toNat * Λ 1 (sv γ i 1) = x)) uE p w5 v5 hL5 h5 hq6
  refine tz_istore6 (n := 2341) (g_at ck_L_law46 6 rfl) rfl (by decide) g_hpI ?_
  exact lt_tail (g_at ck_L_law46 7 rfl) (g_at ck_L_law46 8 rfl) (g_at ck_L_law46 9 rfl) (g_at ck_L_law46 10 rfl) (g_at ck_L_law46 13 rfl) (g_at ck_L_law46 14 rfl) (g_at ck_L_law46 15 rfl) (g_at ck_L_law46 16 rfl) (g_at ck_L_law47 0 rfl) (g_at ck_L_law47 1 rfl) (g_at ck_L_law47 2 rfl) (g_at ck_L_law47 3 rfl) (g_at ck_L_law47 4 rfl) (g_at ck_L_law47 7 rfl) rfl a4.2.1 (a1.trans e5.symm) (fun h9 => by rw [a2]; exact a3 (by rw [← e5]; exact h9)) (kk _ _ a4)
theorem lb_covered {l : Launch} {γ : Gh} {ρ m : Mm} {R : RR} {X : XX} {cb sb : Nat} {N i : Int} (hI : IW N ρ m) (hN : N ≤ 1000) (hi : 0 ≤ i ∧ i + 6 ≤ γ.2.2.2.2.1 ∧ γ.2.2.2.2.1 < 2147483648) (kk : ∀ ρ9 m9, IW (N + 1) ρ9 m9 → gT l γ μL_law 60 cb sb R X KK ρ9 m9 2837 [some (vR (-1)), some (vR 1), some (vR 84), some (vR 122), some (vI i), none, none] []) : gT l γ μL_law 60 (cb + 4) (sb + 24) R X KK ρ m 2372 [some (vR (-1)), some (vR 1), some (vR 84), some (vR 122), some (vI i), none, none] [] := by
  obtain ⟨hL, hR, Λ, hl, tl, s, n, α, κ, h, s2, n2, α2, κ2, t, tn, pl, f, w, v, p⟩ := hI
  have hW := p.1
  have hσ := p.2.1.1.1
  have hS := w.iS hL
  have hA2 : 0 ≤ m 44 2 ∧ m 44 2 ≤ 40 := by rw [w.2.2.2.1.1]; exact p.2.1.2.1
  have hE3 : 0 ≤ m 46 3 ∧ m 46 3 ≤ 8 := by rw [w.2.2.2.2.1.1]; exact p.2.1.2.2.2.1
  have hf : ∀ k, 0 ≤ k → k < 3 → m 61 k < 2000000000 := fun k k1 k2 => by rw [w.2.2.2.2.2.2.2.2 k k1 k2]; have := p.2.2.2.2.2 k k1 k2; omega
  have hTn : m 1 1 = tn := w.2.2.2.2.2.2.2.1.1
  have hf1 : 0 ≤ m 1 1 ∧ m 1 1 ≤ 700 := by rw [hTn]; exact p.2.2.2.2.1
  refine tz_aload1 (n := 2373) (g_at ck_L_law47 8 rfl) rfl (g_ne kd_1) ?_
  refine tz_sv (n := 2379) (g_at ck_L_law47 9 rfl) (g_at ck_L_law47 10 rfl) (g_at ck_L_law47 11 rfl) (g_at ck_L_law47 12 rfl) (g_at ck_L_law47 13 rfl) rfl ⟨by omega, by omega, by omega⟩ ?_
  refine tz_aload3 (n := 2380) (g_at ck_L_law47 14 rfl) rfl (g_ne kd_122) ?_
  refine tz_cshI3 (n := 2383) (μ' := μL_covered) (cb' := cb) (sb' := sb) ml_L_249 mo_L_covered ms_L_covered np_L_covered (g_at ck_L_law47 15 rfl) (wl_covered (sp_covered (sv_rg γ i 1) hL rfl hS hR hW w.2.1 w.2.2.1 hσ) c2P) rfl rfl ⟨by decide, by decide⟩ (Nat.le_of_ble_eq_true rfl) (by omega) (by omega) (g_in (g_m6 (List.mem_of_getElem? (i := 126) rfl)) rfl) (fun x5 ρ5 m5 hq => ?_)
  obtain ⟨hL5, hR5, w5, v5, e5, h5⟩ := rd_C (A := (fun x => isFN (fun j => cvN Λ hl tl s (sv γ i 1) (j + 1) = 0) 101 x)) w v hL hR hq (fun _ _ _ hz => hz)
  refine tz_istore5 (n := 2385) (g_at ck_L_law48 0 rfl) rfl (by decide) g_hpI ?_
  refine tz_aload2 (n := 2386) (g_at ck_L_law48 1 rfl) rfl (g_ne kd_84) ?_
  refine tz_sv (n := 2392) (g_at ck_L_law48 2 rfl) (g_at ck_L_law48 3 rfl) (g_at ck_L_law48 4 rfl) (g_at ck_L_law48 5 rfl) (g_at ck_L_law48 6 rfl) rfl ⟨by omega, by omega, by omega⟩ ?_
  refine tz_cvI1 (n := 2395) (μ' := μX11_covered) (cb' := cb) (sb' := sb) ml_L_251 mo_X11_covered mv_X11_covered np_X11_covered kd_84 (g_at ck_L_law48 7 rfl) (mp_covered (sv_rg γ i 1) hL5 hR5 hW v5.1 v5.2.1 hσ v5.2.2.2.2.2.2.1.2) rfl rfl rfl ⟨by decide, by decide⟩ (Nat.le_of_ble_eq_true rfl) (by omega) (by omega) (fun x6 ρ6 m6 hq6 => ?_)
  obtain ⟨a1, a2, a3, a4⟩ := rd_2 (y := 0) (A := (fun x => isFN (fun j => cvN Λ hl tl s (sv γ i 1) (j + 1) = 0) 101 x)) uFN p w5 v5 hL5 h5 hq6
  refine tz_istore6 (n := 2397) (g_at ck_L_law48 8 rfl) rfl (by decide) g_hpI ?_
  exact lt_tail (g_at ck_L_law48 9 rfl) (g_at ck_L_law48 10 rfl) (g_at ck_L_law48 11 rfl) (g_at ck_L_law48 12 rfl) (g_at ck_L_law48 15 rfl) (g_at ck_L_law49 0 rfl) (g_at ck_L_law49 1 rfl) (g_at ck_L_law49 2 rfl) (g_at ck_L_law49 3 rfl) (g_at ck_L_law49 4 rfl) (g_at ck_L_law49 5 rfl) (g_at ck_L_law49 6 rfl) (g_at ck_L_law49 7 rfl) (g_at ck_L_law49 10 rfl) rfl a4.2.1 (a1.trans e5.symm) (fun h9 => by rw [a2]; exact a3 (by rw [← e5]; exact h9)) (kk _ _ a4)
