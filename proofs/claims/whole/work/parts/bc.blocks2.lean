/-! The law, call by call. -/
theorem lb_forget {l : Launch} {γ : Gh} {ρ m : Mm} {R : RR} {X : XX} {cb sb : Nat} {N i : Int} (hI : IW N ρ m) (hN : N ≤ 1000) (hi : 0 ≤ i ∧ i + 6 ≤ γ.2.2.2.2.1 ∧ γ.2.2.2.2.1 < 2147483648) (kk : ∀ ρ9 m9, IW (N + 1) ρ9 m9 → gT l γ μL_law 60 cb sb R X KK ρ9 m9 2837 [some (vR (-1)), some (vR 1), some (vR 84), some (vR 122), some (vI i), none, none] []) : gT l γ μL_law 60 (cb + 4) (sb + 24) R X KK ρ m 1712 [some (vR (-1)), some (vR 1), some (vR 84), some (vR 122), some (vI i), none, none] [] := by
  obtain ⟨hL, hR, Λ, hl, tl, s, n, α, κ, h, s2, n2, α2, κ2, t, tn, pl, f, w, v, p⟩ := hI
  have hW := p.1
  have hσ := p.2.1.1.1
  have hS := w.iS hL
  have hA2 : 0 ≤ m 44 2 ∧ m 44 2 ≤ 40 := by rw [w.2.2.2.1.1]; exact p.2.1.2.1
  have hE3 : 0 ≤ m 46 3 ∧ m 46 3 ≤ 8 := by rw [w.2.2.2.2.1.1]; exact p.2.1.2.2.2.1
  have hf : ∀ k, 0 ≤ k → k < 3 → m 61 k < 2000000000 := fun k k1 k2 => by rw [w.2.2.2.2.2.2.2.2 k k1 k2]; have := p.2.2.2.2.2 k k1 k2; omega
  have hTn : m 1 1 = tn := w.2.2.2.2.2.2.2.1.1
  have hf1 : 0 ≤ m 1 1 ∧ m 1 1 ≤ 700 := by rw [hTn]; exact p.2.2.2.2.1
  refine tz_aload1 (n := 1713) (g_at ck_L_law5 6 rfl) rfl (g_ne kd_1) ?_
  refine tz_cvV0 (n := 1716) (μ' := μX10_forget) (cb' := cb) (sb' := sb) ml_L_214 mo_X10_forget mv_X10_forget np_X10_forget kd_1 (g_at ck_L_law5 7 rfl) (sp_forget hL hR) rfl rfl rfl ⟨by decide, by decide⟩ (Nat.le_of_ble_eq_true rfl) (by omega) (by omega) (fun ρ5 m5 hq => ?_)
  obtain ⟨rfl, hR5, hx⟩ := hq
  have hL5 := hL
  have v5 := v.high (m9 := m5) fun a h1 h2 => by rw [← hx]; exact wr_ne (by omega)
  refine tz_aload2 (n := 1717) (g_at ck_L_law5 8 rfl) rfl (g_ne kd_84) ?_
  refine tz_cvV0 (n := 1720) (μ' := μX11_forget) (cb' := cb) (sb' := sb) ml_L_217 mo_X11_forget mv_X11_forget np_X11_forget kd_84 (g_at ck_L_law5 9 rfl) (mp_forget hL5 hR5 v5.2.2.2.1) rfl rfl rfl ⟨by decide, by decide⟩ (Nat.le_of_ble_eq_true rfl) (by omega) (by omega) (fun ρ6 m6 hq6 => ?_)
  have hI := fo_2 p w v5 hL hx hq6
  exact tz_goto (tgt := 2837) (g_at ck_L_law5 10 rfl) rfl (kk _ _ hI)
theorem lb_turned {l : Launch} {γ : Gh} {ρ m : Mm} {R : RR} {X : XX} {cb sb : Nat} {N i : Int} (hI : IW N ρ m) (hN : N ≤ 1000) (hi : 0 ≤ i ∧ i + 6 ≤ γ.2.2.2.2.1 ∧ γ.2.2.2.2.1 < 2147483648) (kk : ∀ ρ9 m9, IW (N + 1) ρ9 m9 → gT l γ μL_law 60 cb sb R X KK ρ9 m9 2837 [some (vR (-1)), some (vR 1), some (vR 84), some (vR 122), some (vI i), none, none] []) : gT l γ μL_law 60 (cb + 4) (sb + 24) R X KK ρ m 1723 [some (vR (-1)), some (vR 1), some (vR 84), some (vR 122), some (vI i), none, none] [] := by
  obtain ⟨hL, hR, Λ, hl, tl, s, n, α, κ, h, s2, n2, α2, κ2, t, tn, pl, f, w, v, p⟩ := hI
  have hW := p.1
  have hσ := p.2.1.1.1
  have hS := w.iS hL
  have hA2 : 0 ≤ m 44 2 ∧ m 44 2 ≤ 40 := by rw [w.2.2.2.1.1]; exact p.2.1.2.1
  have hE3 : 0 ≤ m 46 3 ∧ m 46 3 ≤ 8 := by rw [w.2.2.2.2.1.1]; exact p.2.1.2.2.2.1
  have hf : ∀ k, 0 ≤ k → k < 3 → m 61 k < 2000000000 := fun k k1 k2 => by rw [w.2.2.2.2.2.2.2.2 k k1 k2]; have := p.2.2.2.2.2 k k1 k2; omega
  have hTn : m 1 1 = tn := w.2.2.2.2.2.2.2.1.1
  have hf1 : 0 ≤ m 1 1 ∧ m 1 1 ≤ 700 := by rw [hTn]; exact p.2.2.2.2.1
  refine tz_aload1 (n := 1724) (g_at ck_L_law5 11 rfl) rfl (g_ne kd_1) ?_
  refine tz_sv (n := 1730) (g_at ck_L_law5 12 rfl) (g_at ck_L_law5 13 rfl) (g_at ck_L_law5 14 rfl) (g_at ck_L_law5 15 rfl) (g_at ck_L_law5 16 rfl) rfl ⟨by omega, by omega, by omega⟩ ?_
  refine tz_aload3 (n := 1731) (g_at ck_L_law5 17 rfl) rfl (g_ne kd_122) ?_
  refine tz_cshI3 (n := 1734) (μ' := μL_turned) (cb' := cb) (sb' := sb) ml_L_218 mo_L_turned ms_L_turned np_L_turned (g_at ck_L_law5 18 rfl) (wl_turned (sp_turned (sv_rg γ i 1) hL rfl hS hR hW w.2.1 w.2.2.1 hσ w.2.2.2.2.1 p.2.1.2.2.2) c2W) rfl rfl ⟨by decide, by decide⟩ (Nat.le_of_ble_eq_true rfl) (by omega) (by omega) (g_in (g_m6 (List.mem_of_getElem? (i := 22) rfl)) rfl) (fun x5 ρ5 m5 hq => ?_)
  obtain ⟨hL5, hR5, w5, v5, e5, h5⟩ := rd_C (A := (fun x => (if (sv γ i 1) = 2 then soP Λ hl tl κ (sig0 s) else if (sv γ i 1) = 0 then (cfN Λ (tnB Λ hl tl κ s) (Λ 0 0).toNat).1 else (cfN Λ (tnB Λ hl tl κ s) (Λ 0 0).toNat).2) = x)) w v hL hR hq (fun _ _ _ hz => hz)
  refine tz_istore5 (n := 1736) (g_at ck_L_law5 19 rfl) rfl (by decide) g_hpI ?_
  refine tz_aload2 (n := 1737) (g_at ck_L_law5 20 rfl) rfl (g_ne kd_84) ?_
  refine tz_sv (n := 1743) (g_at ck_L_law5 21 rfl) (g_at ck_L_law5 22 rfl) (g_at ck_L_law5 23 rfl) (g_at ck_L_law5 24 rfl) (g_at ck_L_law5 25 rfl) rfl ⟨by omega, by omega, by omega⟩ ?_
  refine tz_cvI1 (n := 1746) (μ' := μX11_turned) (cb' := cb) (sb' := sb) ml_L_220 mo_X11_turned mv_X11_turned np_X11_turned kd_84 (g_at ck_L_law5 26 rfl) (mp_turned (sv_rg γ i 1) hL5 hR5 hW v5.1 v5.2.1 hσ v5.2.2.2.2.2.2.1.2 v5.2.2.2.1 p.2.1.2.2.2) rfl rfl rfl ⟨by decide, by decide⟩ (Nat.le_of_ble_eq_true rfl) (by omega) (by omega) (fun x6 ρ6 m6 hq6 => ?_)
  obtain ⟨a1, a2, a3, a4⟩ := rd_2 (A := (fun x => (if (sv γ i 1) = 2 then soP Λ hl tl κ (sig0 s) else if (sv γ i 1) = 0 then (cfN Λ (tnB Λ hl tl κ s) (Λ 0 0).toNat).1 else (cfN Λ (tnB Λ hl tl κ s) (Λ 0 0).toNat).2) = x)) uE p w5 v5 hL5 h5 hq6
  refine tz_istore6 (n := 1748) (g_at ck_L_law5 27 rfl) rfl (by decide) g_hpI ?_
  exact lt_tail (g_at ck_L_law5 28 rfl) (g_at ck_L_law5 29 rfl) (g_at ck_L_law5 30 rfl) (g_at ck_L_law5 31 rfl) (g_at ck_L_law5 34 rfl) (g_at ck_L_law5 35 rfl) (g_at ck_L_law5 36 rfl) (g_at ck_L_law5 37 rfl) (g_at ck_L_law5 38 rfl) (g_at ck_L_law5 39 rfl) (g_at ck_L_law5 40 rfl) (g_at ck_L_law5 41 rfl) (g_at ck_L_law5 42 rfl) (g_at ck_L_law5 45 rfl) rfl a4.2.1 (a1.trans e5.symm) (fun h9 => by rw [a2]; exact a3 (by rw [← e5]; exact h9)) (kk _ _ a4)
theorem lb_look {l : Launch} {γ : Gh} {ρ m : Mm} {R : RR} {X : XX} {cb sb : Nat} {N i : Int} (hI : IW N ρ m) (hN : N ≤ 1000) (hi : 0 ≤ i ∧ i + 6 ≤ γ.2.2.2.2.1 ∧ γ.2.2.2.2.1 < 2147483648) (kk : ∀ ρ9 m9, IW (N + 1) ρ9 m9 → gT l γ μL_law 60 cb sb R X KK ρ9 m9 2837 [some (vR (-1)), some (vR 1), some (vR 84), some (vR 122), some (vI i), none, none] []) : gT l γ μL_law 60 (cb + 4) (sb + 24) R X KK ρ m 1779 [some (vR (-1)), some (vR 1), some (vR 84), some (vR 122), some (vI i), none, none] [] := by
  obtain ⟨hL, hR, Λ, hl, tl, s, n, α, κ, h, s2, n2, α2, κ2, t, tn, pl, f, w, v, p⟩ := hI
  have hW := p.1
  have hσ := p.2.1.1.1
  have hS := w.iS hL
  have hA2 : 0 ≤ m 44 2 ∧ m 44 2 ≤ 40 := by rw [w.2.2.2.1.1]; exact p.2.1.2.1
  have hE3 : 0 ≤ m 46 3 ∧ m 46 3 ≤ 8 := by rw [w.2.2.2.2.1.1]; exact p.2.1.2.2.2.1
  have hf : ∀ k, 0 ≤ k → k < 3 → m 61 k < 2000000000 := fun k k1 k2 => by rw [w.2.2.2.2.2.2.2.2 k k1 k2]; have := p.2.2.2.2.2 k k1 k2; omega
  have hTn : m 1 1 = tn := w.2.2.2.2.2.2.2.1.1
  have hf1 : 0 ≤ m 1 1 ∧ m 1 1 ≤ 700 := by rw [hTn]; exact p.2.2.2.2.1
  refine tz_aload1 (n := 1780) (g_at ck_L_law5 46 rfl) rfl (g_ne kd_1) ?_
  refine tz_sv (n := 1786) (g_at ck_L_law5 47 rfl) (g_at ck_L_law5 48 rfl) (g_at ck_L_law5 49 rfl) (g_at ck_L_law5 50 rfl) (g_at ck_L_law5 51 rfl) rfl ⟨by omega, by omega, by omega⟩ ?_
  refine tz_aload3 (n := 1787) (g_at ck_L_law5 52 rfl) rfl (g_ne kd_122) ?_
  refine tz_cshI3 (n := 1790) (μ' := μL_look) (cb' := cb) (sb' := sb) ml_L_221 mo_L_look ms_L_look np_L_look (g_at ck_L_law5 53 rfl) (wl_look (sp_look (sv_rg γ i 1) hL rfl hS hR hW w.2.1 w.2.2.1 hσ w.2.2.2.2.1 p.2.1.2.2.2) c2W) rfl rfl ⟨by decide, by decide⟩ (Nat.le_of_ble_eq_true rfl) (by omega) (by omega) (g_in (g_m6 (List.mem_of_getElem? (i := 47) rfl)) rfl) (fun x5 ρ5 m5 hq => ?_)
  obtain ⟨hL5, hR5, w5, v5, e5, h5⟩ := rd_C (A := (fun x => (if (sv γ i 1) = 0 then (bzN (fun p => bcJ ((lkN Λ hl tl κ s (Λ 0 0).toNat) p)) (Λ 0 1).toNat).1 else (bzN (fun p => bcJ ((lkN Λ hl tl κ s (Λ 0 0).toNat) p)) (Λ 0 1).toNat).2) = x)) w v hL hR hq (fun _ _ _ hz => hz)
  refine tz_istore5 (n := 1792) (g_at ck_L_law5 54 rfl) rfl (by decide) g_hpI ?_
  refine tz_aload2 (n := 1793) (g_at ck_L_law5 55 rfl) rfl (g_ne kd_84) ?_
  refine tz_sv (n := 1799) (g_at ck_L_law5 56 rfl) (g_at ck_L_law5 57 rfl) (g_at ck_L_law5 58 rfl) (g_at ck_L_law5 59 rfl) (g_at ck_L_law5 60 rfl) rfl ⟨by omega, by omega, by omega⟩ ?_
  refine tz_cvI1 (n := 1802) (μ' := μX11_look) (cb' := cb) (sb' := sb) ml_L_223 mo_X11_look mv_X11_look np_X11_look kd_84 (g_at ck_L_law5 61 rfl) (mp_look (sv_rg γ i 1) hL5 hR5 hW v5.1 v5.2.1 hσ v5.2.2.2.2.2.2.1.2 v5.2.2.2.1 p.2.1.2.2.2) rfl rfl rfl ⟨by decide, by decide⟩ (Nat.le_of_ble_eq_true rfl) (by omega) (by omega) (fun x6 ρ6 m6 hq6 => ?_)
  obtain ⟨a1, a2, a3, a4⟩ := rd_2 (A := (fun x => (if (sv γ i 1) = 0 then (bzN (fun p => bcJ ((lkN Λ hl tl κ s (Λ 0 0).toNat) p)) (Λ 0 1).toNat).1 else (bzN (fun p => bcJ ((lkN Λ hl tl κ s (Λ 0 0).toNat) p)) (Λ 0 1).toNat).2) = x)) uE p w5 v5 hL5 h5 hq6
  refine tz_istore6 (n := 1804) (g_at ck_L_law5 62 rfl) rfl (by decide) g_hpI ?_
  exact lt_tail (g_at ck_L_law5 63 rfl) (g_at ck_L_law5 64 rfl) (g_at ck_L_law5 65 rfl) (g_at ck_L_law5 66 rfl) (g_at ck_L_law5 69 rfl) (g_at ck_L_law5 70 rfl) (g_at ck_L_law5 71 rfl) (g_at ck_L_law5 72 rfl) (g_at ck_L_law5 73 rfl) (g_at ck_L_law5 74 rfl) (g_at ck_L_law5 75 rfl) (g_at ck_L_law5 76 rfl) (g_at ck_L_law5 77 rfl) (g_at ck_L_law5 80 rfl) rfl a4.2.1 (a1.trans e5.symm) (fun h9 => by rw [a2]; exact a3 (by rw [← e5]; exact h9)) (kk _ _ a4)
theorem lb_wind {l : Launch} {γ : Gh} {ρ m : Mm} {R : RR} {X : XX} {cb sb : Nat} {N i : Int} (hI : IW N ρ m) (hN : N ≤ 1000) (hi : 0 ≤ i ∧ i + 6 ≤ γ.2.2.2.2.1 ∧ γ.2.2.2.2.1 < 2147483648) (kk : ∀ ρ9 m9, IW (N + 1) ρ9 m9 → gT l γ μL_law 60 cb sb R X KK ρ9 m9 2837 [some (vR (-1)), some (vR 1), some (vR 84), some (vR 122), some (vI i), none, none] []) : gT l γ μL_law 60 (cb + 4) (sb + 24) R X KK ρ m 1835 [some (vR (-1)), some (vR 1), some (vR 84), some (vR 122), some (vI i), none, none] [] := by
  obtain ⟨hL, hR, Λ, hl, tl, s, n, α, κ, h, s2, n2, α2, κ2, t, tn, pl, f, w, v, p⟩ := hI
  have hW := p.1
  have hσ := p.2.1.1.1
  have hS := w.iS hL
  have hA2 : 0 ≤ m 44 2 ∧ m 44 2 ≤ 40 := by rw [w.2.2.2.1.1]; exact p.2.1.2.1
  have hE3 : 0 ≤ m 46 3 ∧ m 46 3 ≤ 8 := by rw [w.2.2.2.2.1.1]; exact p.2.1.2.2.2.1
  have hf : ∀ k, 0 ≤ k → k < 3 → m 61 k < 2000000000 := fun k k1 k2 => by rw [w.2.2.2.2.2.2.2.2 k k1 k2]; have := p.2.2.2.2.2 k k1 k2; omega
  have hTn : m 1 1 = tn := w.2.2.2.2.2.2.2.1.1
  have hf1 : 0 ≤ m 1 1 ∧ m 1 1 ≤ 700 := by rw [hTn]; exact p.2.2.2.2.1
  refine tz_aload1 (n := 1836) (g_at ck_L_law5 81 rfl) rfl (g_ne kd_1) ?_
  refine tz_sv (n := 1842) (g_at ck_L_law5 82 rfl) (g_at ck_L_law5 83 rfl) (g_at ck_L_law5 84 rfl) (g_at ck_L_law5 85 rfl) (g_at ck_L_law5 86 rfl) rfl ⟨by omega, by omega, by omega⟩ ?_
  refine tz_sv (n := 1848) (g_at ck_L_law5 87 rfl) (g_at ck_L_law5 88 rfl) (g_at ck_L_law5 89 rfl) (g_at ck_L_law5 90 rfl) (g_at ck_L_law5 91 rfl) rfl ⟨by omega, by omega, by omega⟩ ?_
  refine tz_sv (n := 1854) (g_at ck_L_law5 92 rfl) (g_at ck_L_law5 93 rfl) (g_at ck_L_law5 94 rfl) (g_at ck_L_law5 95 rfl) (g_at ck_L_law5 96 rfl) rfl ⟨by omega, by omega, by omega⟩ ?_
  refine tz_aload3 (n := 1855) (g_at ck_L_law5 97 rfl) rfl (g_ne kd_122) ?_
  refine tz_cshI5 (n := 1858) (μ' := μL_wind) (cb' := cb) (sb' := sb) ml_L_224 mo_L_wind ms_L_wind np_L_wind (g_at ck_L_law5 98 rfl) (wl_wind (sp_wind (sv_rg γ i 1) (sv_rg γ i 2) (sv_rg γ i 3) hL rfl hS hR hW w.2.1 w.2.2.1 hσ)) rfl rfl ⟨by decide, by decide⟩ (Nat.le_of_ble_eq_true rfl) (by omega) (by omega) (g_in (g_m6 (List.mem_of_getElem? (i := 58) rfl)) rfl) (fun x5 ρ5 m5 hq => ?_)
  obtain ⟨hL5, hR5, w5, v5, e5, h5⟩ := rd_C (A := (fun x => wdS Λ hl tl s (sv γ i 1) (sv γ i 3) (sv γ i 2).toNat (2 ^ (sv γ i 2).toNat) = x)) w v hL hR hq (fun _ _ _ hz => hz)
  refine tz_istore5 (n := 1860) (g_at ck_L_law5 99 rfl) rfl (by decide) g_hpI ?_
  refine tz_aload2 (n := 1861) (g_at ck_L_law5 100 rfl) rfl (g_ne kd_84) ?_
  refine tz_sv (n := 1867) (g_at ck_L_law5 101 rfl) (g_at ck_L_law5 102 rfl) (g_at ck_L_law5 103 rfl) (g_at ck_L_law5 104 rfl) (g_at ck_L_law5 105 rfl) rfl ⟨by omega, by omega, by omega⟩ ?_
  refine tz_sv (n := 1873) (g_at ck_L_law5 106 rfl) (g_at ck_L_law5 107 rfl) (g_at ck_L_law5 108 rfl) (g_at ck_L_law5 109 rfl) (g_at ck_L_law5 110 rfl) rfl ⟨by omega, by omega, by omega⟩ ?_
  refine tz_sv (n := 1879) (g_at ck_L_law5 111 rfl) (g_at ck_L_law5 112 rfl) (g_at ck_L_law5 113 rfl) (g_at ck_L_law5 114 rfl) (g_at ck_L_law5 115 rfl) rfl ⟨by omega, by omega, by omega⟩ ?_
  refine tz_cvI3 (n := 1882) (μ' := μX11_wind) (cb' := cb) (sb' := sb) ml_L_226 mo_X11_wind mv_X11_wind np_X11_wind kd_84 (g_at ck_L_law5 116 rfl) (mp_wind (sv_rg γ i 1) (sv_rg γ i 2) (sv_rg γ i 3) hL5 hR5 hW v5.1 v5.2.1 hσ v5.2.2.2.2.2.2.1.2) rfl rfl rfl ⟨by decide, by decide⟩ (Nat.le_of_ble_eq_true rfl) (by omega) (by omega) (fun x6 ρ6 m6 hq6 => ?_)
  obtain ⟨a1, a2, a3, a4⟩ := rd_2 (A := (fun x => wdS Λ hl tl s (sv γ i 1) (sv γ i 3) (sv γ i 2).toNat (2 ^ (sv γ i 2).toNat) = x)) uE p w5 v5 hL5 h5 hq6
  refine tz_istore6 (n := 1884) (g_at ck_L_law5 117 rfl) rfl (by decide) g_hpI ?_
  exact lt_tail (g_at ck_L_law5 118 rfl) (g_at ck_L_law5 119 rfl) (g_at ck_L_law5 120 rfl) (g_at ck_L_law5 121 rfl) (g_at ck_L_law5 124 rfl) (g_at ck_L_law5 125 rfl) (g_at ck_L_law5 126 rfl) (g_at ck_L_law5 127 rfl) (g_at ck_L_law5 128 rfl) (g_at ck_L_law5 129 rfl) (g_at ck_L_law5 130 rfl) (g_at ck_L_law5 131 rfl) (g_at ck_L_law5 132 rfl) (g_at ck_L_law5 135 rfl) rfl a4.2.1 (a1.trans e5.symm) (fun h9 => by rw [a2]; exact a3 (by rw [← e5]; exact h9)) (kk _ _ a4)
theorem lb_game {l : Launch} {γ : Gh} {ρ m : Mm} {R : RR} {X : XX} {cb sb : Nat} {N i : Int} (hI : IW N ρ m) (hN : N ≤ 1000) (hi : 0 ≤ i ∧ i + 6 ≤ γ.2.2.2.2.1 ∧ γ.2.2.2.2.1 < 2147483648) (kk : ∀ ρ9 m9, IW (N + 1) ρ9 m9 → gT l γ μL_law 60 cb sb R X KK ρ9 m9 2837 [some (vR (-1)), some (vR 1), some (vR 84), some (vR 122), some (vI i), none, none] []) : gT l γ μL_law 60 (cb + 4) (sb + 24) R X KK ρ m 1915 [some (vR (-1)), some (vR 1), some (vR 84), some (vR 122), some (vI i), none, none] [] := by
  obtain ⟨hL, hR, Λ, hl, tl, s, n, α, κ, h, s2, n2, α2, κ2, t, tn, pl, f, w, v, p⟩ := hI
  have hW := p.1
  have hσ := p.2.1.1.1
  have hS := w.iS hL
  have hA2 : 0 ≤ m 44 2 ∧ m 44 2 ≤ 40 := by rw [w.2.2.2.1.1]; exact p.2.1.2.1
  have hE3 : 0 ≤ m 46 3 ∧ m 46 3 ≤ 8 := by rw [w.2.2.2.2.1.1]; exact p.2.1.2.2.2.1
  have hf : ∀ k, 0 ≤ k → k < 3 → m 61 k < 2000000000 := fun k k1 k2 => by rw [w.2.2.2.2.2.2.2.2 k k1 k2]; have := p.2.2.2.2.2 k k1 k2; omega
  have hTn : m 1 1 = tn := w.2.2.2.2.2.2.2.1.1
  have hf1 : 0 ≤ m 1 1 ∧ m 1 1 ≤ 700 := by rw [hTn]; exact p.2.2.2.2.1
  refine tz_aload1 (n := 1916) (g_at ck_L_law5 136 rfl) rfl (g_ne kd_1) ?_
  refine tz_sv (n := 1922) (g_at ck_L_law5 137 rfl) (g_at ck_L_law5 138 rfl) (g_at ck_L_law5 139 rfl) (g_at ck_L_law5 140 rfl) (g_at ck_L_law5 141 rfl) rfl ⟨by omega, by omega, by omega⟩ ?_
  refine tz_sv (n := 1928) (g_at ck_L_law5 142 rfl) (g_at ck_L_law5 143 rfl) (g_at ck_L_law5 144 rfl) (g_at ck_L_law5 145 rfl) (g_at ck_L_law5 146 rfl) rfl ⟨by omega, by omega, by omega⟩ ?_
  refine tz_sv (n := 1934) (g_at ck_L_law5 147 rfl) (g_at ck_L_law5 148 rfl) (g_at ck_L_law5 149 rfl) (g_at ck_L_law5 150 rfl) (g_at ck_L_law5 151 rfl) rfl ⟨by omega, by omega, by omega⟩ ?_
  refine tz_aload3 (n := 1935) (g_at ck_L_law5 152 rfl) rfl (g_ne kd_122) ?_
  refine tz_cshI5 (n := 1938) (μ' := μL_game) (cb' := cb) (sb' := sb) ml_L_227 mo_L_game ms_L_game np_L_game (g_at ck_L_law5 153 rfl) (wl_game (sp_game (sv_rg γ i 1) (sv_rg γ i 2) (sv_rg γ i 3) hL rfl hS hR hW w.2.1 w.2.2.1 hσ)) rfl rfl ⟨by decide, by decide⟩ (Nat.le_of_ble_eq_true rfl) (by omega) (by omega) (g_in (g_m6 (List.mem_of_getElem? (i := 70) rfl)) rfl) (fun x5 ρ5 m5 hq => ?_)
  obtain ⟨hL5, hR5, w5, v5, e5, h5⟩ := rd_C (A := (fun x => (if s (1 + (sv γ i 1)) = Λ 5 (sv γ i 1) ∨ s (1 + (sv γ i 2)) = Λ 5 (sv γ i 2) then -1 else if (sv γ i 3) = 0 then (rsN (gmA Λ hl tl s (sv γ i 1) (sv γ i 2)) (gmB Λ hl tl s (sv γ i 1) (sv γ i 2)) 4).1 else (rsN (gmA Λ hl tl s (sv γ i 1) (sv γ i 2)) (gmB Λ hl tl s (sv γ i 1) (sv γ i 2)) 4).2) = x)) w v hL hR hq (fun _ _ _ hz => hz)
  refine tz_istore5 (n := 1940) (g_at ck_L_law5 154 rfl) rfl (by decide) g_hpI ?_
  refine tz_aload2 (n := 1941) (g_at ck_L_law5 155 rfl) rfl (g_ne kd_84) ?_
  refine tz_sv (n := 1947) (g_at ck_L_law5 156 rfl) (g_at ck_L_law5 157 rfl) (g_at ck_L_law5 158 rfl) (g_at ck_L_law5 159 rfl) (g_at ck_L_law5 160 rfl) rfl ⟨by omega, by omega, by omega⟩ ?_
  refine tz_sv (n := 1953) (g_at ck_L_law5 161 rfl) (g_at ck_L_law5 162 rfl) (g_at ck_L_law5 163 rfl) (g_at ck_L_law5 164 rfl) (g_at ck_L_law5 165 rfl) rfl ⟨by omega, by omega, by omega⟩ ?_
  refine tz_sv (n := 1959) (g_at ck_L_law5 166 rfl) (g_at ck_L_law5 167 rfl) (g_at ck_L_law5 168 rfl) (g_at ck_L_law5 169 rfl) (g_at ck_L_law5 170 rfl) rfl ⟨by omega, by omega, by omega⟩ ?_
  refine tz_cvI3 (n := 1962) (μ' := μX11_game) (cb' := cb) (sb' := sb) ml_L_229 mo_X11_game mv_X11_game np_X11_game kd_84 (g_at ck_L_law5 171 rfl) (mp_game (sv_rg γ i 1) (sv_rg γ i 2) (sv_rg γ i 3) hL5 hR5 hW v5.1 v5.2.1 hσ v5.2.2.2.2.2.2.1.2) rfl rfl rfl ⟨by decide, by decide⟩ (Nat.le_of_ble_eq_true rfl) (by omega) (by omega) (fun x6 ρ6 m6 hq6 => ?_)
  obtain ⟨a1, a2, a3, a4⟩ := rd_2 (A := (fun x => (if s (1 + (sv γ i 1)) = Λ 5 (sv γ i 1) ∨ s (1 + (sv γ i 2)) = Λ 5 (sv γ i 2) then -1 else if (sv γ i 3) = 0 then (rsN (gmA Λ hl tl s (sv γ i 1) (sv γ i 2)) (gmB Λ hl tl s (sv γ i 1) (sv γ i 2)) 4).1 else (rsN (gmA Λ hl tl s (sv γ i 1) (sv γ i 2)) (gmB Λ hl tl s (sv γ i 1) (sv γ i 2)) 4).2) = x)) uE p w5 v5 hL5 h5 hq6
  refine tz_istore6 (n := 1964) (g_at ck_L_law5 172 rfl) rfl (by decide) g_hpI ?_
  exact lt_tail (g_at ck_L_law5 173 rfl) (g_at ck_L_law5 174 rfl) (g_at ck_L_law5 175 rfl) (g_at ck_L_law5 176 rfl) (g_at ck_L_law5 179 rfl) (g_at ck_L_law5 180 rfl) (g_at ck_L_law5 181 rfl) (g_at ck_L_law5 182 rfl) (g_at ck_L_law5 183 rfl) (g_at ck_L_law5 184 rfl) (g_at ck_L_law5 185 rfl) (g_at ck_L_law5 186 rfl) (g_at ck_L_law5 187 rfl) (g_at ck_L_law5 190 rfl) rfl a4.2.1 (a1.trans e5.symm) (fun h9 => by rw [a2]; exact a3 (by rw [← e5]; exact h9)) (kk _ _ a4)
theorem lb_years {l : Launch} {γ : Gh} {ρ m : Mm} {R : RR} {X : XX} {cb sb : Nat} {N i : Int} (hI : IW N ρ m) (hN : N ≤ 1000) (hi : 0 ≤ i ∧ i + 6 ≤ γ.2.2.2.2.1 ∧ γ.2.2.2.2.1 < 2147483648) (kk : ∀ ρ9 m9, IW (N + 1) ρ9 m9 → gT l γ μL_law 60 cb sb R X KK ρ9 m9 2837 [some (vR (-1)), some (vR 1), some (vR 84), some (vR 122), some (vI i), none, none] []) : gT l γ μL_law 60 (cb + 4) (sb + 24) R X KK ρ m 1995 [some (vR (-1)), some (vR 1), some (vR 84), some (vR 122), some (vI i), none, none] [] := by
  obtain ⟨hL, hR, Λ, hl, tl, s, n, α, κ, h, s2, n2, α2, κ2, t, tn, pl, f, w, v, p⟩ := hI
  have hW := p.1
  have hσ := p.2.1.1.1
  have hS := w.iS hL
  have hA2 : 0 ≤ m 44 2 ∧ m 44 2 ≤ 40 := by rw [w.2.2.2.1.1]; exact p.2.1.2.1
  have hE3 : 0 ≤ m 46 3 ∧ m 46 3 ≤ 8 := by rw [w.2.2.2.2.1.1]; exact p.2.1.2.2.2.1
  have hf : ∀ k, 0 ≤ k → k < 3 → m 61 k < 2000000000 := fun k k1 k2 => by rw [w.2.2.2.2.2.2.2.2 k k1 k2]; have := p.2.2.2.2.2 k k1 k2; omega
  have hTn : m 1 1 = tn := w.2.2.2.2.2.2.2.1.1
  have hf1 : 0 ≤ m 1 1 ∧ m 1 1 ≤ 700 := by rw [hTn]; exact p.2.2.2.2.1
  refine tz_aload1 (n := 1996) (g_at ck_L_law5 191 rfl) rfl (g_ne kd_1) ?_
  refine tz_sv (n := 2002) (g_at ck_L_law5 192 rfl) (g_at ck_L_law5 193 rfl) (g_at ck_L_law5 194 rfl) (g_at ck_L_law5 195 rfl) (g_at ck_L_law5 196 rfl) rfl ⟨by omega, by omega, by omega⟩ ?_
  refine tz_sv (n := 2008) (g_at ck_L_law5 197 rfl) (g_at ck_L_law5 198 rfl) (g_at ck_L_law5 199 rfl) (g_at ck_L_law6 0 rfl) (g_at ck_L_law6 1 rfl) rfl ⟨by omega, by omega, by omega⟩ ?_
  refine tz_sv (n := 2014) (g_at ck_L_law6 2 rfl) (g_at ck_L_law6 3 rfl) (g_at ck_L_law6 4 rfl) (g_at ck_L_law6 5 rfl) (g_at ck_L_law6 6 rfl) rfl ⟨by omega, by omega, by omega⟩ ?_
  refine tz_aload3 (n := 2015) (g_at ck_L_law6 7 rfl) rfl (g_ne kd_122) ?_
  refine tz_cshI5 (n := 2018) (μ' := μL_years) (cb' := cb) (sb' := sb) ml_L_230 mo_L_years ms_L_years np_L_years (g_at ck_L_law6 8 rfl) (wl_years (sp_years (sv_rg γ i 1) (sv_rg γ i 2) (sv_rg γ i 3) hL rfl hS hR hW w.2.1 w.2.2.1 hσ)) rfl rfl ⟨by decide, by decide⟩ (Nat.le_of_ble_eq_true rfl) (by omega) (by omega) (g_in (g_m6 (List.mem_of_getElem? (i := 87) rfl)) rfl) (fun x5 ρ5 m5 hq => ?_)
  obtain ⟨hL5, hR5, w5, v5, e5, h5⟩ := rd_C (A := (fun x => (if (sv γ i 3) = 1 then bcJ (homB Λ (yrN Λ hl tl (sv γ i 1) (sig0 s) (sv γ i 2).toNat).2) else if (sv γ i 3) = 0 then sumS (yrN Λ hl tl (sv γ i 1) (sig0 s) (sv γ i 2).toNat).2 (Λ 0 1).toNat else purS (yrN Λ hl tl (sv γ i 1) (sig0 s) (sv γ i 2).toNat).2 (Λ 0 1).toNat) = x)) w v hL hR hq (fun _ _ _ hz => hz)
  refine tz_istore5 (n := 2020) (g_at ck_L_law6 9 rfl) rfl (by decide) g_hpI ?_
  refine tz_aload2 (n := 2021) (g_at ck_L_law6 10 rfl) rfl (g_ne kd_84) ?_
  refine tz_sv (n := 2027) (g_at ck_L_law6 11 rfl) (g_at ck_L_law6 12 rfl) (g_at ck_L_law6 13 rfl) (g_at ck_L_law6 14 rfl) (g_at ck_L_law6 15 rfl) rfl ⟨by omega, by omega, by omega⟩ ?_
  refine tz_sv (n := 2033) (g_at ck_L_law6 16 rfl) (g_at ck_L_law6 17 rfl) (g_at ck_L_law6 18 rfl) (g_at ck_L_law6 19 rfl) (g_at ck_L_law6 20 rfl) rfl ⟨by omega, by omega, by omega⟩ ?_
  refine tz_sv (n := 2039) (g_at ck_L_law6 21 rfl) (g_at ck_L_law6 22 rfl) (g_at ck_L_law6 23 rfl) (g_at ck_L_law6 24 rfl) (g_at ck_L_law6 25 rfl) rfl ⟨by omega, by omega, by omega⟩ ?_
  refine tz_cvI3 (n := 2042) (μ' := μX11_years) (cb' := cb) (sb' := sb) ml_L_232 mo_X11_years mv_X11_years np_X11_years kd_84 (g_at ck_L_law6 26 rfl) (mp_years (sv_rg γ i 1) (sv_rg γ i 2) (sv_rg γ i 3) hL5 hR5 hW v5.1 v5.2.1 hσ v5.2.2.2.2.2.2.1.2) rfl rfl rfl ⟨by decide, by decide⟩ (Nat.le_of_ble_eq_true rfl) (by omega) (by omega) (fun x6 ρ6 m6 hq6 => ?_)
  obtain ⟨a1, a2, a3, a4⟩ := rd_2 (A := (fun x => (if (sv γ i 3) = 1 then bcJ (homB Λ (yrN Λ hl tl (sv γ i 1) (sig0 s) (sv γ i 2).toNat).2) else if (sv γ i 3) = 0 then sumS (yrN Λ hl tl (sv γ i 1) (sig0 s) (sv γ i 2).toNat).2 (Λ 0 1).toNat else purS (yrN Λ hl tl (sv γ i 1) (sig0 s) (sv γ i 2).toNat).2 (Λ 0 1).toNat) = x)) uE p w5 v5 hL5 h5 hq6
  refine tz_istore6 (n := 2044) (g_at ck_L_law6 27 rfl) rfl (by decide) g_hpI ?_
  exact lt_tail (g_at ck_L_law6 28 rfl) (g_at ck_L_law6 29 rfl) (g_at ck_L_law6 30 rfl) (g_at ck_L_law6 31 rfl) (g_at ck_L_law6 34 rfl) (g_at ck_L_law6 35 rfl) (g_at ck_L_law6 36 rfl) (g_at ck_L_law6 37 rfl) (g_at ck_L_law6 38 rfl) (g_at ck_L_law6 39 rfl) (g_at ck_L_law6 40 rfl) (g_at ck_L_law6 41 rfl) (g_at ck_L_law6 42 rfl) (g_at ck_L_law6 45 rfl) rfl a4.2.1 (a1.trans e5.symm) (fun h9 => by rw [a2]; exact a3 (by rw [← e5]; exact h9)) (kk _ _ a4)
theorem lb_first {l : Launch} {γ : Gh} {ρ m : Mm} {R : RR} {X : XX} {cb sb : Nat} {N i : Int} (hI : IW N ρ m) (hN : N ≤ 1000) (hi : 0 ≤ i ∧ i + 6 ≤ γ.2.2.2.2.1 ∧ γ.2.2.2.2.1 < 2147483648) (kk : ∀ ρ9 m9, IW (N + 1) ρ9 m9 → gT l γ μL_law 60 cb sb R X KK ρ9 m9 2837 [some (vR (-1)), some (vR 1), some (vR 84), some (vR 122), some (vI i), none, none] []) : gT l γ μL_law 60 (cb + 4) (sb + 24) R X KK ρ m 2075 [some (vR (-1)), some (vR 1), some (vR 84), some (vR 122), some (vI i), none, none] [] := by
  obtain ⟨hL, hR, Λ, hl, tl, s, n, α, κ, h, s2, n2, α2, κ2, t, tn, pl, f, w, v, p⟩ := hI
  have hW := p.1
  have hσ := p.2.1.1.1
  have hS := w.iS hL
  have hA2 : 0 ≤ m 44 2 ∧ m 44 2 ≤ 40 := by rw [w.2.2.2.1.1]; exact p.2.1.2.1
  have hE3 : 0 ≤ m 46 3 ∧ m 46 3 ≤ 8 := by rw [w.2.2.2.2.1.1]; exact p.2.1.2.2.2.1
  have hf : ∀ k, 0 ≤ k → k < 3 → m 61 k < 2000000000 := fun k k1 k2 => by rw [w.2.2.2.2.2.2.2.2 k k1 k2]; have := p.2.2.2.2.2 k k1 k2; omega
  have hTn : m 1 1 = tn := w.2.2.2.2.2.2.2.1.1
  have hf1 : 0 ≤ m 1 1 ∧ m 1 1 ≤ 700 := by rw [hTn]; exact p.2.2.2.2.1
  refine tz_aload1 (n := 2076) (g_at ck_L_law6 46 rfl) rfl (g_ne kd_1) ?_
  refine tz_cvI0 (n := 2079) (μ' := μX10_first) (cb' := cb) (sb' := sb) ml_L_233 mo_X10_first mv_X10_first np_X10_first kd_1 (g_at ck_L_law6 47 rfl) (sp_first hL rfl hS hR hW w.2.1 w.2.2.1 hσ) rfl rfl rfl ⟨by decide, by decide⟩ (Nat.le_of_ble_eq_true rfl) (by omega) (by omega) (fun x5 ρ5 m5 hq => ?_)
  obtain ⟨hL5, hR5, w5, v5, h5⟩ := rd_D (A := (fun x => isFF (fun (j q : Nat) => (daysP Λ hl tl (sig0 s) (j + 1)) 0 (1 + (q : Int)) = Λ 5 (q : Int) ∧ ¬ s (1 + (q : Int)) = Λ 5 (q : Int)) 100 (Λ 0 1).toNat x)) w v hL hq
  refine tz_aload2 (n := 2080) (g_at ck_L_law6 48 rfl) rfl (g_ne kd_84) ?_
  refine tz_cvI0 (n := 2083) (μ' := μX11_first) (cb' := cb) (sb' := sb) ml_L_236 mo_X11_first mv_X11_first np_X11_first kd_84 (g_at ck_L_law6 49 rfl) (mp_first hL5 hR5 hW v5.1 v5.2.1 hσ v5.2.2.2.2.2.2.1.2) rfl rfl rfl ⟨by decide, by decide⟩ (Nat.le_of_ble_eq_true rfl) (by omega) (by omega) (fun x6 ρ6 m6 hq6 => ?_)
  obtain ⟨b1, b2, b3, b4, b5, b6, b7⟩ := rd_M (cd := 0) (A := (fun x => isFF (fun (j q : Nat) => (daysP Λ hl tl (sig0 s) (j + 1)) 0 (1 + (q : Int)) = Λ 5 (q : Int) ∧ ¬ s (1 + (q : Int)) = Λ 5 (q : Int)) 100 (Λ 0 1).toNat x)) w5 v5 hL5 ⟨hq6.1, hq6.2.1, hq6.2.2.1, hq6.2.2.2.1, fun _ => hq6.2.2.2.2⟩
  exact tz_eqT (tgt := 2837) (uFF _ _ h5 (b7 rfl)) (g_at ck_L_law6 50 rfl) rfl (kk _ _ (IW.mk b1 b2 b3 b4 p.inc))
theorem lb_visited {l : Launch} {γ : Gh} {ρ m : Mm} {R : RR} {X : XX} {cb sb : Nat} {N i : Int} (hI : IW N ρ m) (hN : N ≤ 1000) (hi : 0 ≤ i ∧ i + 6 ≤ γ.2.2.2.2.1 ∧ γ.2.2.2.2.1 < 2147483648) (kk : ∀ ρ9 m9, IW (N + 1) ρ9 m9 → gT l γ μL_law 60 cb sb R X KK ρ9 m9 2837 [some (vR (-1)), some (vR 1), some (vR 84), some (vR 122), some (vI i), none, none] []) : gT l γ μL_law 60 (cb + 4) (sb + 24) R X KK ρ m 2088 [some (vR (-1)), some (vR 1), some (vR 84), some (vR 122), some (vI i), none, none] [] := by
  obtain ⟨hL, hR, Λ, hl, tl, s, n, α, κ, h, s2, n2, α2, κ2, t, tn, pl, f, w, v, p⟩ := hI
  have hW := p.1
  have hσ := p.2.1.1.1
  have hS := w.iS hL
  have hA2 : 0 ≤ m 44 2 ∧ m 44 2 ≤ 40 := by rw [w.2.2.2.1.1]; exact p.2.1.2.1
  have hE3 : 0 ≤ m 46 3 ∧ m 46 3 ≤ 8 := by rw [w.2.2.2.2.1.1]; exact p.2.1.2.2.2.1
  have hf : ∀ k, 0 ≤ k → k < 3 → m 61 k < 2000000000 := fun k k1 k2 => by rw [w.2.2.2.2.2.2.2.2 k k1 k2]; have := p.2.2.2.2.2 k k1 k2; omega
  have hTn : m 1 1 = tn := w.2.2.2.2.2.2.2.1.1
  have hf1 : 0 ≤ m 1 1 ∧ m 1 1 ≤ 700 := by rw [hTn]; exact p.2.2.2.2.1
  refine tz_aload1 (n := 2089) (g_at ck_L_law6 53 rfl) rfl (g_ne kd_1) ?_
  refine tz_sv (n := 2095) (g_at ck_L_law6 54 rfl) (g_at ck_L_law6 55 rfl) (g_at ck_L_law6 56 rfl) (g_at ck_L_law6 57 rfl) (g_at ck_L_law6 58 rfl) rfl ⟨by omega, by omega, by omega⟩ ?_
  refine tz_sv (n := 2101) (g_at ck_L_law6 59 rfl) (g_at ck_L_law6 60 rfl) (g_at ck_L_law6 61 rfl) (g_at ck_L_law6 62 rfl) (g_at ck_L_law6 63 rfl) rfl ⟨by omega, by omega, by omega⟩ ?_
  refine tz_aload3 (n := 2102) (g_at ck_L_law6 64 rfl) rfl (g_ne kd_122) ?_
  refine tz_cshI4 (n := 2105) (μ' := μL_visited) (cb' := cb) (sb' := sb) ml_L_237 mo_L_visited ms_L_visited np_L_visited (g_at ck_L_law6 65 rfl) (wl_visited (sp_visited (sv_rg γ i 1) (sv_rg γ i 2) hL rfl hS hR hW w.2.1 w.2.2.1 hσ)) rfl rfl ⟨by decide, by decide⟩ (Nat.le_of_ble_eq_true rfl) (by omega) (by omega) (g_in (g_m6 (List.mem_of_getElem? (i := 107) rfl)) rfl) (fun x5 ρ5 m5 hq => ?_)
  obtain ⟨hL5, hR5, w5, v5, e5, h5⟩ := rd_C (A := (fun x => visN Λ hl tl s (sv γ i 1) (sv γ i 2).toNat = x)) w v hL hR hq (fun _ _ _ hz => hz)
  refine tz_istore5 (n := 2107) (g_at ck_L_law6 66 rfl) rfl (by decide) g_hpI ?_
  refine tz_aload2 (n := 2108) (g_at ck_L_law6 67 rfl) rfl (g_ne kd_84) ?_
  refine tz_sv (n := 2114) (g_at ck_L_law6 68 rfl) (g_at ck_L_law6 69 rfl) (g_at ck_L_law6 70 rfl) (g_at ck_L_law6 71 rfl) (g_at ck_L_law6 72 rfl) rfl ⟨by omega, by omega, by omega⟩ ?_
  refine tz_sv (n := 2120) (g_at ck_L_law6 73 rfl) (g_at ck_L_law6 74 rfl) (g_at ck_L_law6 75 rfl) (g_at ck_L_law6 76 rfl) (g_at ck_L_law6 77 rfl) rfl ⟨by omega, by omega, by omega⟩ ?_
  refine tz_cvI2 (n := 2123) (μ' := μX11_visited) (cb' := cb) (sb' := sb) ml_L_239 mo_X11_visited mv_X11_visited np_X11_visited kd_84 (g_at ck_L_law6 78 rfl) (mp_visited (sv_rg γ i 1) (sv_rg γ i 2) hL5 hR5 hW v5.1 v5.2.1 hσ v5.2.2.2.2.2.2.1.2) rfl rfl rfl ⟨by decide, by decide⟩ (Nat.le_of_ble_eq_true rfl) (by omega) (by omega) (fun x6 ρ6 m6 hq6 => ?_)
  obtain ⟨a1, a2, a3, a4⟩ := rd_2 (A := (fun x => visN Λ hl tl s (sv γ i 1) (sv γ i 2).toNat = x)) uE p w5 v5 hL5 h5 hq6
  refine tz_istore6 (n := 2125) (g_at ck_L_law6 79 rfl) rfl (by decide) g_hpI ?_
  exact lt_tail (g_at ck_L_law6 80 rfl) (g_at ck_L_law6 81 rfl) (g_at ck_L_law6 82 rfl) (g_at ck_L_law6 83 rfl) (g_at ck_L_law6 86 rfl) (g_at ck_L_law6 87 rfl) (g_at ck_L_law6 88 rfl) (g_at ck_L_law6 89 rfl) (g_at ck_L_law6 90 rfl) (g_at ck_L_law6 91 rfl) (g_at ck_L_law6 92 rfl) (g_at ck_L_law6 93 rfl) (g_at ck_L_law6 94 rfl) (g_at ck_L_law6 97 rfl) rfl a4.2.1 (a1.trans e5.symm) (fun h9 => by rw [a2]; exact a3 (by rw [← e5]; exact h9)) (kk _ _ a4)
theorem lb_uneven {l : Launch} {γ : Gh} {ρ m : Mm} {R : RR} {X : XX} {cb sb : Nat} {N i : Int} (hI : IW N ρ m) (hN : N ≤ 1000) (hi : 0 ≤ i ∧ i + 6 ≤ γ.2.2.2.2.1 ∧ γ.2.2.2.2.1 < 2147483648) (kk : ∀ ρ9 m9, IW (N + 1) ρ9 m9 → gT l γ μL_law 60 cb sb R X KK ρ9 m9 2837 [some (vR (-1)), some (vR 1), some (vR 84), some (vR 122), some (vI i), none, none] []) : gT l γ μL_law 60 (cb + 4) (sb + 24) R X KK ρ m 2156 [some (vR (-1)), some (vR 1), some (vR 84), some (vR 122), some (vI i), none, none] [] := by
  obtain ⟨hL, hR, Λ, hl, tl, s, n, α, κ, h, s2, n2, α2, κ2, t, tn, pl, f, w, v, p⟩ := hI
  have hW := p.1
  have hσ := p.2.1.1.1
  have hS := w.iS hL
  have hA2 : 0 ≤ m 44 2 ∧ m 44 2 ≤ 40 := by rw [w.2.2.2.1.1]; exact p.2.1.2.1
  have hE3 : 0 ≤ m 46 3 ∧ m 46 3 ≤ 8 := by rw [w.2.2.2.2.1.1]; exact p.2.1.2.2.2.1
  have hf : ∀ k, 0 ≤ k → k < 3 → m 61 k < 2000000000 := fun k k1 k2 => by rw [w.2.2.2.2.2.2.2.2 k k1 k2]; have := p.2.2.2.2.2 k k1 k2; omega
  have hTn : m 1 1 = tn := w.2.2.2.2.2.2.2.1.1
  have hf1 : 0 ≤ m 1 1 ∧ m 1 1 ≤ 700 := by rw [hTn]; exact p.2.2.2.2.1
  refine tz_aload1 (n := 2157) (g_at ck_L_law6 98 rfl) rfl (g_ne kd_1) ?_
  refine tz_sv (n := 2163) (g_at ck_L_law6 99 rfl) (g_at ck_L_law6 100 rfl) (g_at ck_L_law6 101 rfl) (g_at ck_L_law6 102 rfl) (g_at ck_L_law6 103 rfl) rfl ⟨by omega, by omega, by omega⟩ ?_
  refine tz_sv (n := 2169) (g_at ck_L_law6 104 rfl) (g_at ck_L_law6 105 rfl) (g_at ck_L_law6 106 rfl) (g_at ck_L_law6 107 rfl) (g_at ck_L_law6 108 rfl) rfl ⟨by omega, by omega, by omega⟩ ?_
  refine tz_aload3 (n := 2170) (g_at ck_L_law6 109 rfl) rfl (g_ne kd_122) ?_
  refine tz_cshI4 (n := 2173) (μ' := μL_uneven) (cb' := cb) (sb' := sb) ml_L_240 mo_L_uneven ms_L_uneven np_L_uneven (g_at ck_L_law6 110 rfl) (wl_uneven (sp_uneven (sv_rg γ i 1) (sv_rg γ i 2) hL rfl hS hR hW w.2.1 w.2.2.1 hσ)) rfl rfl ⟨by decide, by decide⟩ (Nat.le_of_ble_eq_true rfl) (by omega) (by omega) (g_in (g_m6 (List.mem_of_getElem? (i := 114) rfl)) rfl) (fun x5 ρ5 m5 hq => ?_)
  obtain ⟨hL5, hR5, w5, v5, e5, h5⟩ := rd_C (A := (fun x => (if Λ 3 (sv γ i 1) = 0 then 0 else mxG (daysP Λ hl tl (sig0 s) (sv γ i 2).toNat) (sv γ i 1) (Λ 3 (sv γ i 1)).toNat - mnG (daysP Λ hl tl (sig0 s) (sv γ i 2).toNat) (sv γ i 1) (Λ 3 (sv γ i 1)).toNat) = x)) w v hL hR hq (fun _ _ _ hz => hz)
  refine tz_istore5 (n := 2175) (g_at ck_L_law6 111 rfl) rfl (by decide) g_hpI ?_
  refine tz_aload2 (n := 2176) (g_at ck_L_law6 112 rfl) rfl (g_ne kd_84) ?_
  refine tz_sv (n := 2182) (g_at ck_L_law6 113 rfl) (g_at ck_L_law6 114 rfl) (g_at ck_L_law6 115 rfl) (g_at ck_L_law6 116 rfl) (g_at ck_L_law6 117 rfl) rfl ⟨by omega, by omega, by omega⟩ ?_
  refine tz_sv (n := 2188) (g_at ck_L_law6 118 rfl) (g_at ck_L_law6 119 rfl) (g_at ck_L_law6 120 rfl) (g_at ck_L_law6 121 rfl) (g_at ck_L_law6 122 rfl) rfl ⟨by omega, by omega, by omega⟩ ?_
  refine tz_cvI2 (n := 2191) (μ' := μX11_uneven) (cb' := cb) (sb' := sb) ml_L_242 mo_X11_uneven mv_X11_uneven np_X11_uneven kd_84 (g_at ck_L_law6 123 rfl) (mp_uneven (sv_rg γ i 1) (sv_rg γ i 2) hL5 hR5 hW v5.1 v5.2.1 hσ v5.2.2.2.2.2.2.1.2) rfl rfl rfl ⟨by decide, by decide⟩ (Nat.le_of_ble_eq_true rfl) (by omega) (by omega) (fun x6 ρ6 m6 hq6 => ?_)
  obtain ⟨a1, a2, a3, a4⟩ := rd_2 (A := (fun x => (if Λ 3 (sv γ i 1) = 0 then 0 else mxG (daysP Λ hl tl (sig0 s) (sv γ i 2).toNat) (sv γ i 1) (Λ 3 (sv γ i 1)).toNat - mnG (daysP Λ hl tl (sig0 s) (sv γ i 2).toNat) (sv γ i 1) (Λ 3 (sv γ i 1)).toNat) = x)) uE p w5 v5 hL5 h5 hq6
  refine tz_istore6 (n := 2193) (g_at ck_L_law6 124 rfl) rfl (by decide) g_hpI ?_
  exact lt_tail (g_at ck_L_law6 125 rfl) (g_at ck_L_law6 126 rfl) (g_at ck_L_law6 127 rfl) (g_at ck_L_law6 128 rfl) (g_at ck_L_law6 131 rfl) (g_at ck_L_law6 132 rfl) (g_at ck_L_law6 133 rfl) (g_at ck_L_law6 134 rfl) (g_at ck_L_law6 135 rfl) (g_at ck_L_law6 136 rfl) (g_at ck_L_law6 137 rfl) (g_at ck_L_law6 138 rfl) (g_at ck_L_law6 139 rfl) (g_at ck_L_law6 142 rfl) rfl a4.2.1 (a1.trans e5.symm) (fun h9 => by rw [a2]; exact a3 (by rw [← e5]; exact h9)) (kk _ _ a4)
theorem lb_together {l : Launch} {γ : Gh} {ρ m : Mm} {R : RR} {X : XX} {cb sb : Nat} {N i : Int} (hI : IW N ρ m) (hN : N ≤ 1000) (hi : 0 ≤ i ∧ i + 6 ≤ γ.2.2.2.2.1 ∧ γ.2.2.2.2.1 < 2147483648) (kk : ∀ ρ9 m9, IW (N + 1) ρ9 m9 → gT l γ μL_law 60 cb sb R X KK ρ9 m9 2837 [some (vR (-1)), some (vR 1), some (vR 84), some (vR 122), some (vI i), none, none] []) : gT l γ μL_law 60 (cb + 4) (sb + 24) R X KK ρ m 2224 [some (vR (-1)), some (vR 1), some (vR 84), some (vR 122), some (vI i), none, none] [] := by
  obtain ⟨hL, hR, Λ, hl, tl, s, n, α, κ, h, s2, n2, α2, κ2, t, tn, pl, f, w, v, p⟩ := hI
  have hW := p.1
  have hσ := p.2.1.1.1
  have hS := w.iS hL
  have hA2 : 0 ≤ m 44 2 ∧ m 44 2 ≤ 40 := by rw [w.2.2.2.1.1]; exact p.2.1.2.1
  have hE3 : 0 ≤ m 46 3 ∧ m 46 3 ≤ 8 := by rw [w.2.2.2.2.1.1]; exact p.2.1.2.2.2.1
  have hf : ∀ k, 0 ≤ k → k < 3 → m 61 k < 2000000000 := fun k k1 k2 => by rw [w.2.2.2.2.2.2.2.2 k k1 k2]; have := p.2.2.2.2.2 k k1 k2; omega
  have hTn : m 1 1 = tn := w.2.2.2.2.2.2.2.1.1
  have hf1 : 0 ≤ m 1 1 ∧ m 1 1 ≤ 700 := by rw [hTn]; exact p.2.2.2.2.1
  refine tz_aload1 (n := 2225) (g_at ck_L_law6 143 rfl) rfl (g_ne kd_1) ?_
  refine tz_sv (n := 2231) (g_at ck_L_law6 144 rfl) (g_at ck_L_law6 145 rfl) (g_at ck_L_law6 146 rfl) (g_at ck_L_law6 147 rfl) (g_at ck_L_law6 148 rfl) rfl ⟨by omega, by omega, by omega⟩ ?_
  refine tz_sv (n := 2237) (g_at ck_L_law6 149 rfl) (g_at ck_L_law6 150 rfl) (g_at ck_L_law6 151 rfl) (g_at ck_L_law6 152 rfl) (g_at ck_L_law6 153 rfl) rfl ⟨by omega, by omega, by omega⟩ ?_
  refine tz_sv (n := 2243) (g_at ck_L_law6 154 rfl) (g_at ck_L_law6 155 rfl) (g_at ck_L_law6 156 rfl) (g_at ck_L_law6 157 rfl) (g_at ck_L_law6 158 rfl) rfl ⟨by omega, by omega, by omega⟩ ?_
  refine tz_aload3 (n := 2244) (g_at ck_L_law6 159 rfl) rfl (g_ne kd_122) ?_
  refine tz_cshI5 (n := 2247) (μ' := μL_together) (cb' := cb) (sb' := sb) ml_L_243 mo_L_together ms_L_together np_L_together (g_at ck_L_law6 160 rfl) (wl_together (sp_together (sv_rg γ i 1) (sv_rg γ i 2) (sv_rg γ i 3) hL rfl hS hR hW w.2.1 w.2.2.1 hσ)) rfl rfl ⟨by decide, by decide⟩ (Nat.le_of_ble_eq_true rfl) (by omega) (by omega) (g_in (g_m6 (List.mem_of_getElem? (i := 123) rfl)) rfl) (fun x5 ρ5 m5 hq => ?_)
  obtain ⟨hL5, hR5, w5, v5, e5, h5⟩ := rd_C (A := (fun x => togN Λ hl tl s (sv γ i 1) (sv γ i 2) (sv γ i 3).toNat = x)) w v hL hR hq (fun _ _ _ hz => hz)
  refine tz_istore5 (n := 2249) (g_at ck_L_law6 161 rfl) rfl (by decide) g_hpI ?_
  refine tz_aload2 (n := 2250) (g_at ck_L_law6 162 rfl) rfl (g_ne kd_84) ?_
  refine tz_sv (n := 2256) (g_at ck_L_law6 163 rfl) (g_at ck_L_law6 164 rfl) (g_at ck_L_law6 165 rfl) (g_at ck_L_law6 166 rfl) (g_at ck_L_law6 167 rfl) rfl ⟨by omega, by omega, by omega⟩ ?_
  refine tz_sv (n := 2262) (g_at ck_L_law6 168 rfl) (g_at ck_L_law6 169 rfl) (g_at ck_L_law6 170 rfl) (g_at ck_L_law6 171 rfl) (g_at ck_L_law6 172 rfl) rfl ⟨by omega, by omega, by omega⟩ ?_
  refine tz_sv (n := 2268) (g_at ck_L_law6 173 rfl) (g_at ck_L_law6 174 rfl) (g_at ck_L_law6 175 rfl) (g_at ck_L_law6 176 rfl) (g_at ck_L_law6 177 rfl) rfl ⟨by omega, by omega, by omega⟩ ?_
  refine tz_cvI3 (n := 2271) (μ' := μX11_together) (cb' := cb) (sb' := sb) ml_L_245 mo_X11_together mv_X11_together np_X11_together kd_84 (g_at ck_L_law6 178 rfl) (mp_together (sv_rg γ i 1) (sv_rg γ i 2) (sv_rg γ i 3) hL5 hR5 hW v5.1 v5.2.1 hσ v5.2.2.2.2.2.2.1.2) rfl rfl rfl ⟨by decide, by decide⟩ (Nat.le_of_ble_eq_true rfl) (by omega) (by omega) (fun x6 ρ6 m6 hq6 => ?_)
  obtain ⟨a1, a2, a3, a4⟩ := rd_2 (A := (fun x => togN Λ hl tl s (sv γ i 1) (sv γ i 2) (sv γ i 3).toNat = x)) uE p w5 v5 hL5 h5 hq6
  refine tz_istore6 (n := 2273) (g_at ck_L_law6 179 rfl) rfl (by decide) g_hpI ?_
  exact lt_tail (g_at ck_L_law6 180 rfl) (g_at ck_L_law6 181 rfl) (g_at ck_L_law6 182 rfl) (g_at ck_L_law6 183 rfl) (g_at ck_L_law6 186 rfl) (g_at ck_L_law6 187 rfl) (g_at ck_L_law6 188 rfl) (g_at ck_L_law6 189 rfl) (g_at ck_L_law6 190 rfl) (g_at ck_L_law6 191 rfl) (g_at ck_L_law6 192 rfl) (g_at ck_L_law6 193 rfl) (g_at ck_L_law6 194 rfl) (g_at ck_L_law6 197 rfl) rfl a4.2.1 (a1.trans e5.symm) (fun h9 => by rw [a2]; exact a3 (by rw [← e5]; exact h9)) (kk _ _ a4)
theorem lb_taken {l : Launch} {γ : Gh} {ρ m : Mm} {R : RR} {X : XX} {cb sb : Nat} {N i : Int} (hI : IW N ρ m) (hN : N ≤ 1000) (hi : 0 ≤ i ∧ i + 6 ≤ γ.2.2.2.2.1 ∧ γ.2.2.2.2.1 < 2147483648) (kk : ∀ ρ9 m9, IW (N + 1) ρ9 m9 → gT l γ μL_law 60 cb sb R X KK ρ9 m9 2837 [some (vR (-1)), some (vR 1), some (vR 84), some (vR 122), some (vI i), none, none] []) : gT l γ μL_law 60 (cb + 4) (sb + 24) R X KK ρ m 2304 [some (vR (-1)), some (vR 1), some (vR 84), some (vR 122), some (vI i), none, none] [] := by
  obtain ⟨hL, hR, Λ, hl, tl, s, n, α, κ, h, s2, n2, α2, κ2, t, tn, pl, f, w, v, p⟩ := hI
  have hW := p.1
  have hσ := p.2.1.1.1
  have hS := w.iS hL
  have hA2 : 0 ≤ m 44 2 ∧ m 44 2 ≤ 40 := by rw [w.2.2.2.1.1]; exact p.2.1.2.1
  have hE3 : 0 ≤ m 46 3 ∧ m 46 3 ≤ 8 := by rw [w.2.2.2.2.1.1]; exact p.2.1.2.2.2.1
  have hf : ∀ k, 0 ≤ k → k < 3 → m 61 k < 2000000000 := fun k k1 k2 => by rw [w.2.2.2.2.2.2.2.2 k k1 k2]; have := p.2.2.2.2.2 k k1 k2; omega
  have hTn : m 1 1 = tn := w.2.2.2.2.2.2.2.1.1
  have hf1 : 0 ≤ m 1 1 ∧ m 1 1 ≤ 700 := by rw [hTn]; exact p.2.2.2.2.1
  refine tz_aload1 (n := 2305) (g_at ck_L_law6 198 rfl) rfl (g_ne kd_1) ?_
  refine tz_sv (n := 2311) (g_at ck_L_law6 199 rfl) (g_at ck_L_law7 0 rfl) (g_at ck_L_law7 1 rfl) (g_at ck_L_law7 2 rfl) (g_at ck_L_law7 3 rfl) rfl ⟨by omega, by omega, by omega⟩ ?_
  refine tz_sv (n := 2317) (g_at ck_L_law7 4 rfl) (g_at ck_L_law7 5 rfl) (g_at ck_L_law7 6 rfl) (g_at ck_L_law7 7 rfl) (g_at ck_L_law7 8 rfl) rfl ⟨by omega, by omega, by omega⟩ ?_
  refine tz_aload3 (n := 2318) (g_at ck_L_law7 9 rfl) rfl (g_ne kd_122) ?_
  refine tz_cshI4 (n := 2321) (μ' := μL_taken) (cb' := cb) (sb' := sb) ml_L_246 mo_L_taken ms_L_taken np_L_taken (g_at ck_L_law7 10 rfl) (wl_taken (sp_taken (sv_rg γ i 1) (sv_rg γ i 2) hL rfl hS hR hW w.2.1 w.2.2.1 hσ)) rfl rfl ⟨by decide, by decide⟩ (Nat.le_of_ble_eq_true rfl) (by omega) (by omega) (g_in (g_m6 (List.mem_of_getElem? (i := 130) rfl)) rfl) (fun x5 ρ5 m5 hq => ?_)
  obtain ⟨hL5, hR5, w5, v5, e5, h5⟩ := rd_C (A := (fun x => tkN Λ (daysP Λ hl tl (sig0 s) (sv γ i 2).toNat) (sv γ i 1) (Λ 0 0).toNat * Λ 1 (sv γ i 1) = x)) w v hL hR hq (fun _ _ _ hz => hz)
  refine tz_istore5 (n := 2323) (g_at ck_L_law7 11 rfl) rfl (by decide) g_hpI ?_
  refine tz_aload2 (n := 2324) (g_at ck_L_law7 12 rfl) rfl (g_ne kd_84) ?_
  refine tz_sv (n := 2330) (g_at ck_L_law7 13 rfl) (g_at ck_L_law7 14 rfl) (g_at ck_L_law7 15 rfl) (g_at ck_L_law7 16 rfl) (g_at ck_L_law7 17 rfl) rfl ⟨by omega, by omega, by omega⟩ ?_
  refine tz_sv (n := 2336) (g_at ck_L_law7 18 rfl) (g_at ck_L_law7 19 rfl) (g_at ck_L_law7 20 rfl) (g_at ck_L_law7 21 rfl) (g_at ck_L_law7 22 rfl) rfl ⟨by omega, by omega, by omega⟩ ?_
  refine tz_cvI2 (n := 2339) (μ' := μX11_taken) (cb' := cb) (sb' := sb) ml_L_248 mo_X11_taken mv_X11_taken np_X11_taken kd_84 (g_at ck_L_law7 23 rfl) (mp_taken (sv_rg γ i 1) (sv_rg γ i 2) hL5 hR5 hW v5.1 v5.2.1 hσ v5.2.2.2.2.2.2.1.2) rfl rfl rfl ⟨by decide, by decide⟩ (Nat.le_of_ble_eq_true rfl) (by omega) (by omega) (fun x6 ρ6 m6 hq6 => ?_)
  obtain ⟨a1, a2, a3, a4⟩ := rd_2 (A := (fun x => tkN Λ (daysP Λ hl tl (sig0 s) (sv γ i 2).toNat) (sv γ i 1) (Λ 0 0).toNat * Λ 1 (sv γ i 1) = x)) uE p w5 v5 hL5 h5 hq6
  refine tz_istore6 (n := 2341) (g_at ck_L_law7 24 rfl) rfl (by decide) g_hpI ?_
  exact lt_tail (g_at ck_L_law7 25 rfl) (g_at ck_L_law7 26 rfl) (g_at ck_L_law7 27 rfl) (g_at ck_L_law7 28 rfl) (g_at ck_L_law7 31 rfl) (g_at ck_L_law7 32 rfl) (g_at ck_L_law7 33 rfl) (g_at ck_L_law7 34 rfl) (g_at ck_L_law7 35 rfl) (g_at ck_L_law7 36 rfl) (g_at ck_L_law7 37 rfl) (g_at ck_L_law7 38 rfl) (g_at ck_L_law7 39 rfl) (g_at ck_L_law7 42 rfl) rfl a4.2.1 (a1.trans e5.symm) (fun h9 => by rw [a2]; exact a3 (by rw [← e5]; exact h9)) (kk _ _ a4)
theorem lb_covered {l : Launch} {γ : Gh} {ρ m : Mm} {R : RR} {X : XX} {cb sb : Nat} {N i : Int} (hI : IW N ρ m) (hN : N ≤ 1000) (hi : 0 ≤ i ∧ i + 6 ≤ γ.2.2.2.2.1 ∧ γ.2.2.2.2.1 < 2147483648) (kk : ∀ ρ9 m9, IW (N + 1) ρ9 m9 → gT l γ μL_law 60 cb sb R X KK ρ9 m9 2837 [some (vR (-1)), some (vR 1), some (vR 84), some (vR 122), some (vI i), none, none] []) : gT l γ μL_law 60 (cb + 4) (sb + 24) R X KK ρ m 2372 [some (vR (-1)), some (vR 1), some (vR 84), some (vR 122), some (vI i), none, none] [] := by
  obtain ⟨hL, hR, Λ, hl, tl, s, n, α, κ, h, s2, n2, α2, κ2, t, tn, pl, f, w, v, p⟩ := hI
  have hW := p.1
  have hσ := p.2.1.1.1
  have hS := w.iS hL
  have hA2 : 0 ≤ m 44 2 ∧ m 44 2 ≤ 40 := by rw [w.2.2.2.1.1]; exact p.2.1.2.1
  have hE3 : 0 ≤ m 46 3 ∧ m 46 3 ≤ 8 := by rw [w.2.2.2.2.1.1]; exact p.2.1.2.2.2.1
  have hf : ∀ k, 0 ≤ k → k < 3 → m 61 k < 2000000000 := fun k k1 k2 => by rw [w.2.2.2.2.2.2.2.2 k k1 k2]; have := p.2.2.2.2.2 k k1 k2; omega
  have hTn : m 1 1 = tn := w.2.2.2.2.2.2.2.1.1
  have hf1 : 0 ≤ m 1 1 ∧ m 1 1 ≤ 700 := by rw [hTn]; exact p.2.2.2.2.1
  refine tz_aload1 (n := 2373) (g_at ck_L_law7 43 rfl) rfl (g_ne kd_1) ?_
  refine tz_sv (n := 2379) (g_at ck_L_law7 44 rfl) (g_at ck_L_law7 45 rfl) (g_at ck_L_law7 46 rfl) (g_at ck_L_law7 47 rfl) (g_at ck_L_law7 48 rfl) rfl ⟨by omega, by omega, by omega⟩ ?_
  refine tz_aload3 (n := 2380) (g_at ck_L_law7 49 rfl) rfl (g_ne kd_122) ?_
  refine tz_cshI3 (n := 2383) (μ' := μL_covered) (cb' := cb) (sb' := sb) ml_L_249 mo_L_covered ms_L_covered np_L_covered (g_at ck_L_law7 50 rfl) (wl_covered (sp_covered (sv_rg γ i 1) hL rfl hS hR hW w.2.1 w.2.2.1 hσ) c2P) rfl rfl ⟨by decide, by decide⟩ (Nat.le_of_ble_eq_true rfl) (by omega) (by omega) (g_in (g_m6 (List.mem_of_getElem? (i := 137) rfl)) rfl) (fun x5 ρ5 m5 hq => ?_)
  obtain ⟨hL5, hR5, w5, v5, e5, h5⟩ := rd_C (A := (fun x => isFN (fun j => cvN Λ hl tl s (sv γ i 1) (j + 1) = 0) 101 x)) w v hL hR hq (fun _ _ _ hz => hz)
  refine tz_istore5 (n := 2385) (g_at ck_L_law7 51 rfl) rfl (by decide) g_hpI ?_
  refine tz_aload2 (n := 2386) (g_at ck_L_law7 52 rfl) rfl (g_ne kd_84) ?_
  refine tz_sv (n := 2392) (g_at ck_L_law7 53 rfl) (g_at ck_L_law7 54 rfl) (g_at ck_L_law7 55 rfl) (g_at ck_L_law7 56 rfl) (g_at ck_L_law7 57 rfl) rfl ⟨by omega, by omega, by omega⟩ ?_
  refine tz_cvI1 (n := 2395) (μ' := μX11_covered) (cb' := cb) (sb' := sb) ml_L_251 mo_X11_covered mv_X11_covered np_X11_covered kd_84 (g_at ck_L_law7 58 rfl) (mp_covered (sv_rg γ i 1) hL5 hR5 hW v5.1 v5.2.1 hσ v5.2.2.2.2.2.2.1.2) rfl rfl rfl ⟨by decide, by decide⟩ (Nat.le_of_ble_eq_true rfl) (by omega) (by omega) (fun x6 ρ6 m6 hq6 => ?_)
  obtain ⟨a1, a2, a3, a4⟩ := rd_2 (A := (fun x => isFN (fun j => cvN Λ hl tl s (sv γ i 1) (j + 1) = 0) 101 x)) uFN p w5 v5 hL5 h5 hq6
  refine tz_istore6 (n := 2397) (g_at ck_L_law7 59 rfl) rfl (by decide) g_hpI ?_
  exact lt_tail (g_at ck_L_law7 60 rfl) (g_at ck_L_law7 61 rfl) (g_at ck_L_law7 62 rfl) (g_at ck_L_law7 63 rfl) (g_at ck_L_law7 66 rfl) (g_at ck_L_law7 67 rfl) (g_at ck_L_law7 68 rfl) (g_at ck_L_law7 69 rfl) (g_at ck_L_law7 70 rfl) (g_at ck_L_law7 71 rfl) (g_at ck_L_law7 72 rfl) (g_at ck_L_law7 73 rfl) (g_at ck_L_law7 74 rfl) (g_at ck_L_law7 77 rfl) rfl a4.2.1 (a1.trans e5.symm) (fun h9 => by rw [a2]; exact a3 (by rw [← e5]; exact h9)) (kk _ _ a4)
