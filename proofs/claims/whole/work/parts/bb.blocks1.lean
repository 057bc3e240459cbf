/-! The law, call by call. -/
theorem lb_undo {l : Launch} {γ : Gh} {ρ m : Mm} {R : RR} {X : XX} {cb sb : Nat} {N i : Int} (hI : IW N ρ m) (hN : N ≤ 1000) (hi : 0 ≤ i ∧ i + 6 ≤ γ.2.2.2.2.1 ∧ γ.2.2.2.2.1 < 2147483648) (kk : ∀ ρ9 m9, IW (N + 1) ρ9 m9 → gT l γ μL_law 60 cb sb R X KK ρ9 m9 2837 [some (vR (-1)), some (vR 1), some (vR 84), some (vR 122), some (vI i), none, none] []) : gT l γ μL_law 60 (cb + 4) (sb + 24) R X KK ρ m 982 [some (vR (-1)), some (vR 1), some (vR 84), some (vR 122), some (vI i), none, none] [] := by
  obtain ⟨hL, hR, Λ, hl, tl, s, n, α, κ, h, s2, n2, α2, κ2, t, tn, pl, f, w, v, p⟩ := hI
  have hW := p.1
  have hσ := p.2.1.1.1
  have hS := w.iS hL
  have hA2 : 0 ≤ m 44 2 ∧ m 44 2 ≤ 40 := by rw [w.2.2.2.1.1]; exact p.2.1.2.1
  have hE3 : 0 ≤ m 46 3 ∧ m 46 3 ≤ 8 := by rw [w.2.2.2.2.1.1]; exact p.2.1.2.2.2.1
  have hf : ∀ k, 0 ≤ k → k < 3 → m 61 k < 2000000000 := fun k k1 k2 => by rw [w.2.2.2.2.2.2.2.2 k k1 k2]; have := p.2.2.2.2.2 k k1 k2; omega
  have hTn : m 1 1 = tn := w.2.2.2.2.2.2.2.1.1
  have hf1 : 0 ≤ m 1 1 ∧ m 1 1 ≤ 700 := by rw [hTn]; exact p.2.2.2.2.1
  refine tz_aload1 (n := 983) (g_at ck_L_law2 122 rfl) rfl (g_ne kd_1) ?_
  refine tz_cvI0 (n := 986) (μ' := μX10_undo) (cb' := cb) (sb' := sb) ml_L_176 mo_X10_undo mv_X10_undo np_X10_undo kd_1 (g_at ck_L_law2 123 rfl) (sp_undo hL hR w.2.2.2.1.2.1 hA2) rfl rfl rfl ⟨by decide, by decide⟩ (Nat.le_of_ble_eq_true rfl) (by omega) (by omega) (fun x5 ρ5 m5 hq => ?_)
  obtain ⟨hL5, hR5, v5, c1, c2⟩ := un_C w v hL p.2.1.2.1.1 hq
  refine tz_aload2 (n := 987) (g_at ck_L_law2 124 rfl) rfl (g_ne kd_84) ?_
  refine tz_cvI0 (n := 990) (μ' := μX11_undo) (cb' := cb) (sb' := sb) ml_L_179 mo_X11_undo mv_X11_undo np_X11_undo kd_84 (g_at ck_L_law2 125 rfl) (mp_undo hL5 hR5 v5.2.2.1 p.2.1.2.1) rfl rfl rfl ⟨by decide, by decide⟩ (Nat.le_of_ble_eq_true rfl) (by omega) (by omega) (fun x6 ρ6 m6 hq6 => ?_)
  obtain ⟨e, hI⟩ := un_M p v5 hL5 c1 c2 hq6
  exact tz_eqT (tgt := 2837) e (g_at ck_L_law2 126 rfl) rfl (kk _ _ hI)
theorem lb_then {l : Launch} {γ : Gh} {ρ m : Mm} {R : RR} {X : XX} {cb sb : Nat} {N i : Int} (hI : IW N ρ m) (hN : N ≤ 1000) (hi : 0 ≤ i ∧ i + 6 ≤ γ.2.2.2.2.1 ∧ γ.2.2.2.2.1 < 2147483648) (kk : ∀ ρ9 m9, IW (N + 1) ρ9 m9 → gT l γ μL_law 60 cb sb R X KK ρ9 m9 2837 [some (vR (-1)), some (vR 1), some (vR 84), some (vR 122), some (vI i), none, none] []) : gT l γ μL_law 60 (cb + 4) (sb + 24) R X KK ρ m 995 [some (vR (-1)), some (vR 1), some (vR 84), some (vR 122), some (vI i), none, none] [] := by
  obtain ⟨hL, hR, Λ, hl, tl, s, n, α, κ, h, s2, n2, α2, κ2, t, tn, pl, f, w, v, p⟩ := hI
  have hW := p.1
  have hσ := p.2.1.1.1
  have hS := w.iS hL
  have hA2 : 0 ≤ m 44 2 ∧ m 44 2 ≤ 40 := by rw [w.2.2.2.1.1]; exact p.2.1.2.1
  have hE3 : 0 ≤ m 46 3 ∧ m 46 3 ≤ 8 := by rw [w.2.2.2.2.1.1]; exact p.2.1.2.2.2.1
  have hf : ∀ k, 0 ≤ k → k < 3 → m 61 k < 2000000000 := fun k k1 k2 => by rw [w.2.2.2.2.2.2.2.2 k k1 k2]; have := p.2.2.2.2.2 k k1 k2; omega
  have hTn : m 1 1 = tn := w.2.2.2.2.2.2.2.1.1
  have hf1 : 0 ≤ m 1 1 ∧ m 1 1 ≤ 700 := by rw [hTn]; exact p.2.2.2.2.1
  refine tz_aload1 (n := 996) (g_at ck_L_law2 129 rfl) rfl (g_ne kd_1) ?_
  refine tz_sv (n := 1002) (g_at ck_L_law2 130 rfl) (g_at ck_L_law2 131 rfl) (g_at ck_L_law2 132 rfl) (g_at ck_L_law2 133 rfl) (g_at ck_L_law2 134 rfl) rfl ⟨by omega, by omega, by omega⟩ ?_
  refine tz_sv (n := 1008) (g_at ck_L_law2 135 rfl) (g_at ck_L_law2 136 rfl) (g_at ck_L_law2 137 rfl) (g_at ck_L_law2 138 rfl) (g_at ck_L_law2 139 rfl) rfl ⟨by omega, by omega, by omega⟩ ?_
  refine tz_sv (n := 1014) (g_at ck_L_law2 140 rfl) (g_at ck_L_law2 141 rfl) (g_at ck_L_law2 142 rfl) (g_at ck_L_law2 143 rfl) (g_at ck_L_law2 144 rfl) rfl ⟨by omega, by omega, by omega⟩ ?_
  refine tz_aload3 (n := 1015) (g_at ck_L_law2 145 rfl) rfl (g_ne kd_122) ?_
  refine tz_cshI5 (n := 1018) (μ' := μL_then) (cb' := cb) (sb' := sb) ml_L_180 mo_L_then ms_L_then np_L_then (g_at ck_L_law2 146 rfl) (wl_then (sp_then (sv_rg γ i 1) (sv_rg γ i 2) (sv_rg γ i 3) hL rfl hS hR hW w.2.1 w.2.2.1 hσ)) rfl rfl ⟨by decide, by decide⟩ (Nat.le_of_ble_eq_true rfl) (by omega) (by omega) (g_in (g_m5 (List.mem_of_getElem? (i := 149) rfl)) rfl) (fun x5 ρ5 m5 hq => ?_)
  obtain ⟨hL5, hR5, w5, v5, e5, h5⟩ := rd_C (A := (fun x => (if (sv γ i 3) = 0 then (daysP Λ hl tl (sig0 s) (sv γ i 2).toNat) 0 (1 + (sv γ i 1)) else if (sv γ i 3) = 1 then (daysP Λ hl tl (sig0 s) (sv γ i 2).toNat) 0 (9 + (sv γ i 1)) else (daysP Λ hl tl (sig0 s) (sv γ i 2).toNat) 1 (sv γ i 1)) = x)) w v hL hR hq (fun _ _ _ hz => hz)
  refine tz_istore5 (n := 1020) (g_at ck_L_law2 147 rfl) rfl (by decide) g_hpI ?_
  refine tz_aload2 (n := 1021) (g_at ck_L_law2 148 rfl) rfl (g_ne kd_84) ?_
  refine tz_sv (n := 1027) (g_at ck_L_law2 149 rfl) (g_at ck_L_law2 150 rfl) (g_at ck_L_law2 151 rfl) (g_at ck_L_law2 152 rfl) (g_at ck_L_law2 153 rfl) rfl ⟨by omega, by omega, by omega⟩ ?_
  refine tz_sv (n := 1033) (g_at ck_L_law2 154 rfl) (g_at ck_L_law2 155 rfl) (g_at ck_L_law2 156 rfl) (g_at ck_L_law2 157 rfl) (g_at ck_L_law2 158 rfl) rfl ⟨by omega, by omega, by omega⟩ ?_
  refine tz_sv (n := 1039) (g_at ck_L_law2 159 rfl) (g_at ck_L_law2 160 rfl) (g_at ck_L_law2 161 rfl) (g_at ck_L_law2 162 rfl) (g_at ck_L_law2 163 rfl) rfl ⟨by omega, by omega, by omega⟩ ?_
  refine tz_cvI3 (n := 1042) (μ' := μX11_then) (cb' := cb) (sb' := sb) ml_L_182 mo_X11_then mv_X11_then np_X11_then kd_84 (g_at ck_L_law2 164 rfl) (mp_then (sv_rg γ i 1) (sv_rg γ i 2) (sv_rg γ i 3) hL5 hR5 hW v5.1 v5.2.1 hσ v5.2.2.2.2.2.2.1.2) rfl rfl rfl ⟨by decide, by decide⟩ (Nat.le_of_ble_eq_true rfl) (by omega) (by omega) (fun x6 ρ6 m6 hq6 => ?_)
  obtain ⟨a1, a2, a3, a4⟩ := rd_2 (A := (fun x => (if (sv γ i 3) = 0 then (daysP Λ hl tl (sig0 s) (sv γ i 2).toNat) 0 (1 + (sv γ i 1)) else if (sv γ i 3) = 1 then (daysP Λ hl tl (sig0 s) (sv γ i 2).toNat) 0 (9 + (sv γ i 1)) else (daysP Λ hl tl (sig0 s) (sv γ i 2).toNat) 1 (sv γ i 1)) = x)) uE p w5 v5 hL5 h5 hq6
  refine tz_istore6 (n := 1044) (g_at ck_L_law2 165 rfl) rfl (by decide) g_hpI ?_
  exact lt_tail (g_at ck_L_law2 166 rfl) (g_at ck_L_law2 167 rfl) (g_at ck_L_law2 168 rfl) (g_at ck_L_law2 169 rfl) (g_at ck_L_law2 172 rfl) (g_at ck_L_law2 173 rfl) (g_at ck_L_law2 174 rfl) (g_at ck_L_law2 175 rfl) (g_at ck_L_law2 176 rfl) (g_at ck_L_law2 177 rfl) (g_at ck_L_law2 178 rfl) (g_at ck_L_law2 179 rfl) (g_at ck_L_law2 180 rfl) (g_at ck_L_law2 183 rfl) rfl a4.2.1 (a1.trans e5.symm) (fun h9 => by rw [a2]; exact a3 (by rw [← e5]; exact h9)) (kk _ _ a4)
theorem lb_points {l : Launch} {γ : Gh} {ρ m : Mm} {R : RR} {X : XX} {cb sb : Nat} {N i : Int} (hI : IW N ρ m) (hN : N ≤ 1000) (hi : 0 ≤ i ∧ i + 6 ≤ γ.2.2.2.2.1 ∧ γ.2.2.2.2.1 < 2147483648) (kk : ∀ ρ9 m9, IW (N + 1) ρ9 m9 → gT l γ μL_law 60 cb sb R X KK ρ9 m9 2837 [some (vR (-1)), some (vR 1), some (vR 84), some (vR 122), some (vI i), none, none] []) : gT l γ μL_law 60 (cb + 4) (sb + 24) R X KK ρ m 1075 [some (vR (-1)), some (vR 1), some (vR 84), some (vR 122), some (vI i), none, none] [] := by
  obtain ⟨hL, hR, Λ, hl, tl, s, n, α, κ, h, s2, n2, α2, κ2, t, tn, pl, f, w, v, p⟩ := hI
  have hW := p.1
  have hσ := p.2.1.1.1
  have hS := w.iS hL
  have hA2 : 0 ≤ m 44 2 ∧ m 44 2 ≤ 40 := by rw [w.2.2.2.1.1]; exact p.2.1.2.1
  have hE3 : 0 ≤ m 46 3 ∧ m 46 3 ≤ 8 := by rw [w.2.2.2.2.1.1]; exact p.2.1.2.2.2.1
  have hf : ∀ k, 0 ≤ k → k < 3 → m 61 k < 2000000000 := fun k k1 k2 => by rw [w.2.2.2.2.2.2.2.2 k k1 k2]; have := p.2.2.2.2.2 k k1 k2; omega
  have hTn : m 1 1 = tn := w.2.2.2.2.2.2.2.1.1
  have hf1 : 0 ≤ m 1 1 ∧ m 1 1 ≤ 700 := by rw [hTn]; exact p.2.2.2.2.1
  refine tz_aload1 (n := 1076) (g_at ck_L_law2 184 rfl) rfl (g_ne kd_1) ?_
  refine tz_sv (n := 1082) (g_at ck_L_law2 185 rfl) (g_at ck_L_law2 186 rfl) (g_at ck_L_law2 187 rfl) (g_at ck_L_law2 188 rfl) (g_at ck_L_law2 189 rfl) rfl ⟨by omega, by omega, by omega⟩ ?_
  refine tz_sv (n := 1088) (g_at ck_L_law2 190 rfl) (g_at ck_L_law2 191 rfl) (g_at ck_L_law2 192 rfl) (g_at ck_L_law2 193 rfl) (g_at ck_L_law2 194 rfl) rfl ⟨by omega, by omega, by omega⟩ ?_
  refine tz_aload3 (n := 1089) (g_at ck_L_law2 195 rfl) rfl (g_ne kd_122) ?_
  refine tz_cshI4 (n := 1092) (μ' := μL_points) (cb' := cb) (sb' := sb) ml_L_183 mo_L_points ms_L_points np_L_points (g_at ck_L_law2 196 rfl) (wl_points (sp_points (sv_rg γ i 1) (sv_rg γ i 2) hL rfl hS hR hW w.2.1 w.2.2.1 hσ)) rfl rfl ⟨by decide, by decide⟩ (Nat.le_of_ble_eq_true rfl) (by omega) (by omega) (g_in (g_m5 (List.mem_of_getElem? (i := 160) rfl)) rfl) (fun x5 ρ5 m5 hq => ?_)
  obtain ⟨hL5, hR5, w5, v5, e5, h5⟩ := rd_C (A := (fun x => (daysP Λ hl tl (sig0 s) (sv γ i 2).toNat) 0 (17 + (sv γ i 1)) = x)) w v hL hR hq (fun _ _ _ hz => hz)
  refine tz_istore5 (n := 1094) (g_at ck_L_law2 197 rfl) rfl (by decide) g_hpI ?_
  refine tz_aload2 (n := 1095) (g_at ck_L_law2 198 rfl) rfl (g_ne kd_84) ?_
  refine tz_sv (n := 1101) (g_at ck_L_law2 199 rfl) (g_at ck_L_law3 0 rfl) (g_at ck_L_law3 1 rfl) (g_at ck_L_law3 2 rfl) (g_at ck_L_law3 3 rfl) rfl ⟨by omega, by omega, by omega⟩ ?_
  refine tz_sv (n := 1107) (g_at ck_L_law3 4 rfl) (g_at ck_L_law3 5 rfl) (g_at ck_L_law3 6 rfl) (g_at ck_L_law3 7 rfl) (g_at ck_L_law3 8 rfl) rfl ⟨by omega, by omega, by omega⟩ ?_
  refine tz_cvI2 (n := 1110) (μ' := μX11_points) (cb' := cb) (sb' := sb) ml_L_185 mo_X11_points mv_X11_points np_X11_points kd_84 (g_at ck_L_law3 9 rfl) (mp_points (sv_rg γ i 1) (sv_rg γ i 2) hL5 hR5 hW v5.1 v5.2.1 hσ v5.2.2.2.2.2.2.1.2) rfl rfl rfl ⟨by decide, by decide⟩ (Nat.le_of_ble_eq_true rfl) (by omega) (by omega) (fun x6 ρ6 m6 hq6 => ?_)
  obtain ⟨a1, a2, a3, a4⟩ := rd_2 (A := (fun x => (daysP Λ hl tl (sig0 s) (sv γ i 2).toNat) 0 (17 + (sv γ i 1)) = x)) uE p w5 v5 hL5 h5 hq6
  refine tz_istore6 (n := 1112) (g_at ck_L_law3 10 rfl) rfl (by decide) g_hpI ?_
  exact lt_tail (g_at ck_L_law3 11 rfl) (g_at ck_L_law3 12 rfl) (g_at ck_L_law3 13 rfl) (g_at ck_L_law3 14 rfl) (g_at ck_L_law3 17 rfl) (g_at ck_L_law3 18 rfl) (g_at ck_L_law3 19 rfl) (g_at ck_L_law3 20 rfl) (g_at ck_L_law3 21 rfl) (g_at ck_L_law3 22 rfl) (g_at ck_L_law3 23 rfl) (g_at ck_L_law3 24 rfl) (g_at ck_L_law3 25 rfl) (g_at ck_L_law3 28 rfl) rfl a4.2.1 (a1.trans e5.symm) (fun h9 => by rw [a2]; exact a3 (by rw [← e5]; exact h9)) (kk _ _ a4)
theorem lb_comes {l : Launch} {γ : Gh} {ρ m : Mm} {R : RR} {X : XX} {cb sb : Nat} {N i : Int} (hI : IW N ρ m) (hN : N ≤ 1000) (hi : 0 ≤ i ∧ i + 6 ≤ γ.2.2.2.2.1 ∧ γ.2.2.2.2.1 < 2147483648) (kk : ∀ ρ9 m9, IW (N + 1) ρ9 m9 → gT l γ μL_law 60 cb sb R X KK ρ9 m9 2837 [some (vR (-1)), some (vR 1), some (vR 84), some (vR 122), some (vI i), none, none] []) : gT l γ μL_law 60 (cb + 4) (sb + 24) R X KK ρ m 1143 [some (vR (-1)), some (vR 1), some (vR 84), some (vR 122), some (vI i), none, none] [] := by
  obtain ⟨hL, hR, Λ, hl, tl, s, n, α, κ, h, s2, n2, α2, κ2, t, tn, pl, f, w, v, p⟩ := hI
  have hW := p.1
  have hσ := p.2.1.1.1
  have hS := w.iS hL
  have hA2 : 0 ≤ m 44 2 ∧ m 44 2 ≤ 40 := by rw [w.2.2.2.1.1]; exact p.2.1.2.1
  have hE3 : 0 ≤ m 46 3 ∧ m 46 3 ≤ 8 := by rw [w.2.2.2.2.1.1]; exact p.2.1.2.2.2.1
  have hf : ∀ k, 0 ≤ k → k < 3 → m 61 k < 2000000000 := fun k k1 k2 => by rw [w.2.2.2.2.2.2.2.2 k k1 k2]; have := p.2.2.2.2.2 k k1 k2; omega
  have hTn : m 1 1 = tn := w.2.2.2.2.2.2.2.1.1
  have hf1 : 0 ≤ m 1 1 ∧ m 1 1 ≤ 700 := by rw [hTn]; exact p.2.2.2.2.1
  refine tz_aload1 (n := 1144) (g_at ck_L_law3 29 rfl) rfl (g_ne kd_1) ?_
  refine tz_sv (n := 1150) (g_at ck_L_law3 30 rfl) (g_at ck_L_law3 31 rfl) (g_at ck_L_law3 32 rfl) (g_at ck_L_law3 33 rfl) (g_at ck_L_law3 34 rfl) rfl ⟨by omega, by omega, by omega⟩ ?_
  refine tz_sv (n := 1156) (g_at ck_L_law3 35 rfl) (g_at ck_L_law3 36 rfl) (g_at ck_L_law3 37 rfl) (g_at ck_L_law3 38 rfl) (g_at ck_L_law3 39 rfl) rfl ⟨by omega, by omega, by omega⟩ ?_
  refine tz_aload3 (n := 1157) (g_at ck_L_law3 40 rfl) rfl (g_ne kd_122) ?_
  refine tz_cshI4 (n := 1160) (μ' := μL_comes) (cb' := cb) (sb' := sb) ml_L_186 mo_L_comes ms_L_comes np_L_comes (g_at ck_L_law3 41 rfl) (wl_comes (sp_comes (sv_rg γ i 1) (sv_rg γ i 2) hL rfl hS hR hW w.2.1 w.2.2.1 hσ) (c2q c2P c2C)) rfl rfl ⟨by decide, by decide⟩ (Nat.le_of_ble_eq_true rfl) (by omega) (by omega) (g_in (g_m5 (List.mem_of_getElem? (i := 167) rfl)) rfl) (fun x5 ρ5 m5 hq => ?_)
  obtain ⟨hL5, hR5, w5, v5, e5, h5⟩ := rd_C (A := (fun x => isFN (fun j => (daysP Λ hl tl (sig0 s) j) 0 (1 + (sv γ i 1)) = (sv γ i 2)) 101 x)) w v hL hR hq (fun _ _ _ hz => hz)
  refine tz_istore5 (n := 1162) (g_at ck_L_law3 42 rfl) rfl (by decide) g_hpI ?_
  refine tz_aload2 (n := 1163) (g_at ck_L_law3 43 rfl) rfl (g_ne kd_84) ?_
  refine tz_sv (n := 1169) (g_at ck_L_law3 44 rfl) (g_at ck_L_law3 45 rfl) (g_at ck_L_law3 46 rfl) (g_at ck_L_law3 47 rfl) (g_at ck_L_law3 48 rfl) rfl ⟨by omega, by omega, by omega⟩ ?_
  refine tz_sv (n := 1175) (g_at ck_L_law3 49 rfl) (g_at ck_L_law3 50 rfl) (g_at ck_L_law3 51 rfl) (g_at ck_L_law3 52 rfl) (g_at ck_L_law3 53 rfl) rfl ⟨by omega, by omega, by omega⟩ ?_
  refine tz_cvI2 (n := 1178) (μ' := μX11_comes) (cb' := cb) (sb' := sb) ml_L_188 mo_X11_comes mv_X11_comes np_X11_comes kd_84 (g_at ck_L_law3 54 rfl) (mp_comes (sv_rg γ i 1) (sv_rg γ i 2) hL5 hR5 hW v5.1 v5.2.1 hσ v5.2.2.2.2.2.2.1.2) rfl rfl rfl ⟨by decide, by decide⟩ (Nat.le_of_ble_eq_true rfl) (by omega) (by omega) (fun x6 ρ6 m6 hq6 => ?_)
  obtain ⟨a1, a2, a3, a4⟩ := rd_2 (A := (fun x => isFN (fun j => (daysP Λ hl tl (sig0 s) j) 0 (1 + (sv γ i 1)) = (sv γ i 2)) 101 x)) uFN p w5 v5 hL5 h5 hq6
  refine tz_istore6 (n := 1180) (g_at ck_L_law3 55 rfl) rfl (by decide) g_hpI ?_
  exact lt_tail (g_at ck_L_law3 56 rfl) (g_at ck_L_law3 57 rfl) (g_at ck_L_law3 58 rfl) (g_at ck_L_law3 59 rfl) (g_at ck_L_law3 62 rfl) (g_at ck_L_law3 63 rfl) (g_at ck_L_law3 64 rfl) (g_at ck_L_law3 65 rfl) (g_at ck_L_law3 66 rfl) (g_at ck_L_law3 67 rfl) (g_at ck_L_law3 68 rfl) (g_at ck_L_law3 69 rfl) (g_at ck_L_law3 70 rfl) (g_at ck_L_law3 73 rfl) rfl a4.2.1 (a1.trans e5.symm) (fun h9 => by rw [a2]; exact a3 (by rw [← e5]; exact h9)) (kk _ _ a4)
theorem lb_meet {l : Launch} {γ : Gh} {ρ m : Mm} {R : RR} {X : XX} {cb sb : Nat} {N i : Int} (hI : IW N ρ m) (hN : N ≤ 1000) (hi : 0 ≤ i ∧ i + 6 ≤ γ.2.2.2.2.1 ∧ γ.2.2.2.2.1 < 2147483648) (kk : ∀ ρ9 m9, IW (N + 1) ρ9 m9 → gT l γ μL_law 60 cb sb R X KK ρ9 m9 2837 [some (vR (-1)), some (vR 1), some (vR 84), some (vR 122), some (vI i), none, none] []) : gT l γ μL_law 60 (cb + 4) (sb + 24) R X KK ρ m 1211 [some (vR (-1)), some (vR 1), some (vR 84), some (vR 122), some (vI i), none, none] [] := by
  obtain ⟨hL, hR, Λ, hl, tl, s, n, α, κ, h, s2, n2, α2, κ2, t, tn, pl, f, w, v, p⟩ := hI
  have hW := p.1
  have hσ := p.2.1.1.1
  have hS := w.iS hL
  have hA2 : 0 ≤ m 44 2 ∧ m 44 2 ≤ 40 := by rw [w.2.2.2.1.1]; exact p.2.1.2.1
  have hE3 : 0 ≤ m 46 3 ∧ m 46 3 ≤ 8 := by rw [w.2.2.2.2.1.1]; exact p.2.1.2.2.2.1
  have hf : ∀ k, 0 ≤ k → k < 3 → m 61 k < 2000000000 := fun k k1 k2 => by rw [w.2.2.2.2.2.2.2.2 k k1 k2]; have := p.2.2.2.2.2 k k1 k2; omega
  have hTn : m 1 1 = tn := w.2.2.2.2.2.2.2.1.1
  have hf1 : 0 ≤ m 1 1 ∧ m 1 1 ≤ 700 := by rw [hTn]; exact p.2.2.2.2.1
  refine tz_aload1 (n := 1212) (g_at ck_L_law3 74 rfl) rfl (g_ne kd_1) ?_
  refine tz_sv (n := 1218) (g_at ck_L_law3 75 rfl) (g_at ck_L_law3 76 rfl) (g_at ck_L_law3 77 rfl) (g_at ck_L_law3 78 rfl) (g_at ck_L_law3 79 rfl) rfl ⟨by omega, by omega, by omega⟩ ?_
  refine tz_sv (n := 1224) (g_at ck_L_law3 80 rfl) (g_at ck_L_law3 81 rfl) (g_at ck_L_law3 82 rfl) (g_at ck_L_law3 83 rfl) (g_at ck_L_law3 84 rfl) rfl ⟨by omega, by omega, by omega⟩ ?_
  refine tz_aload3 (n := 1225) (g_at ck_L_law3 85 rfl) rfl (g_ne kd_122) ?_
  refine tz_cshI4 (n := 1228) (μ' := μL_meet) (cb' := cb) (sb' := sb) ml_L_189 mo_L_meet ms_L_meet np_L_meet (g_at ck_L_law3 86 rfl) (wl_meet (sp_meet (sv_rg γ i 1) (sv_rg γ i 2) hL rfl hS hR hW w.2.1 w.2.2.1 hσ) (c2q c2P c2P)) rfl rfl ⟨by decide, by decide⟩ (Nat.le_of_ble_eq_true rfl) (by omega) (by omega) (g_in (g_m5 (List.mem_of_getElem? (i := 174) rfl)) rfl) (fun x5 ρ5 m5 hq => ?_)
  obtain ⟨hL5, hR5, w5, v5, e5, h5⟩ := rd_C (A := (fun x => ((sv γ i 1) = (sv γ i 2) → x = -1) ∧ (¬ (sv γ i 1) = (sv γ i 2) → isFN (fun j => (daysP Λ hl tl (sig0 s) j) 0 (1 + (sv γ i 1)) = (daysP Λ hl tl (sig0 s) j) 0 (1 + (sv γ i 2))) 101 x))) w v hL hR hq (fun _ _ _ hz => hz)
  refine tz_istore5 (n := 1230) (g_at ck_L_law3 87 rfl) rfl (by decide) g_hpI ?_
  refine tz_aload2 (n := 1231) (g_at ck_L_law3 88 rfl) rfl (g_ne kd_84) ?_
  refine tz_sv (n := 1237) (g_at ck_L_law3 89 rfl) (g_at ck_L_law3 90 rfl) (g_at ck_L_law3 91 rfl) (g_at ck_L_law3 92 rfl) (g_at ck_L_law3 93 rfl) rfl ⟨by omega, by omega, by omega⟩ ?_
  refine tz_sv (n := 1243) (g_at ck_L_law3 94 rfl) (g_at ck_L_law3 95 rfl) (g_at ck_L_law3 96 rfl) (g_at ck_L_law3 97 rfl) (g_at ck_L_law3 98 rfl) rfl ⟨by omega, by omega, by omega⟩ ?_
  refine tz_cvI2 (n := 1246) (μ' := μX11_meet) (cb' := cb) (sb' := sb) ml_L_191 mo_X11_meet mv_X11_meet np_X11_meet kd_84 (g_at ck_L_law3 99 rfl) (mp_meet (sv_rg γ i 1) (sv_rg γ i 2) hL5 hR5 hW v5.1 v5.2.1 hσ v5.2.2.2.2.2.2.1.2) rfl rfl rfl ⟨by decide, by decide⟩ (Nat.le_of_ble_eq_true rfl) (by omega) (by omega) (fun x6 ρ6 m6 hq6 => ?_)
  obtain ⟨a1, a2, a3, a4⟩ := rd_2 (A := (fun x => ((sv γ i 1) = (sv γ i 2) → x = -1) ∧ (¬ (sv γ i 1) = (sv γ i 2) → isFN (fun j => (daysP Λ hl tl (sig0 s) j) 0 (1 + (sv γ i 1)) = (daysP Λ hl tl (sig0 s) j) 0 (1 + (sv γ i 2))) 101 x))) (uIf uFN) p w5 v5 hL5 h5 hq6
  refine tz_istore6 (n := 1248) (g_at ck_L_law3 100 rfl) rfl (by decide) g_hpI ?_
  exact lt_tail (g_at ck_L_law3 101 rfl) (g_at ck_L_law3 102 rfl) (g_at ck_L_law3 103 rfl) (g_at ck_L_law3 104 rfl) (g_at ck_L_law3 107 rfl) (g_at ck_L_law3 108 rfl) (g_at ck_L_law3 109 rfl) (g_at ck_L_law3 110 rfl) (g_at ck_L_law3 111 rfl) (g_at ck_L_law3 112 rfl) (g_at ck_L_law3 113 rfl) (g_at ck_L_law3 114 rfl) (g_at ck_L_law3 115 rfl) (g_at ck_L_law3 118 rfl) rfl a4.2.1 (a1.trans e5.symm) (fun h9 => by rw [a2]; exact a3 (by rw [← e5]; exact h9)) (kk _ _ a4)
theorem lb_gone {l : Launch} {γ : Gh} {ρ m : Mm} {R : RR} {X : XX} {cb sb : Nat} {N i : Int} (hI : IW N ρ m) (hN : N ≤ 1000) (hi : 0 ≤ i ∧ i + 6 ≤ γ.2.2.2.2.1 ∧ γ.2.2.2.2.1 < 2147483648) (kk : ∀ ρ9 m9, IW (N + 1) ρ9 m9 → gT l γ μL_law 60 cb sb R X KK ρ9 m9 2837 [some (vR (-1)), some (vR 1), some (vR 84), some (vR 122), some (vI i), none, none] []) : gT l γ μL_law 60 (cb + 4) (sb + 24) R X KK ρ m 1279 [some (vR (-1)), some (vR 1), some (vR 84), some (vR 122), some (vI i), none, none] [] := by
  obtain ⟨hL, hR, Λ, hl, tl, s, n, α, κ, h, s2, n2, α2, κ2, t, tn, pl, f, w, v, p⟩ := hI
  have hW := p.1
  have hσ := p.2.1.1.1
  have hS := w.iS hL
  have hA2 : 0 ≤ m 44 2 ∧ m 44 2 ≤ 40 := by rw [w.2.2.2.1.1]; exact p.2.1.2.1
  have hE3 : 0 ≤ m 46 3 ∧ m 46 3 ≤ 8 := by rw [w.2.2.2.2.1.1]; exact p.2.1.2.2.2.1
  have hf : ∀ k, 0 ≤ k → k < 3 → m 61 k < 2000000000 := fun k k1 k2 => by rw [w.2.2.2.2.2.2.2.2 k k1 k2]; have := p.2.2.2.2.2 k k1 k2; omega
  have hTn : m 1 1 = tn := w.2.2.2.2.2.2.2.1.1
  have hf1 : 0 ≤ m 1 1 ∧ m 1 1 ≤ 700 := by rw [hTn]; exact p.2.2.2.2.1
  refine tz_aload1 (n := 1280) (g_at ck_L_law3 119 rfl) rfl (g_ne kd_1) ?_
  refine tz_sv (n := 1286) (g_at ck_L_law3 120 rfl) (g_at ck_L_law3 121 rfl) (g_at ck_L_law3 122 rfl) (g_at ck_L_law3 123 rfl) (g_at ck_L_law3 124 rfl) rfl ⟨by omega, by omega, by omega⟩ ?_
  refine tz_sv (n := 1292) (g_at ck_L_law3 125 rfl) (g_at ck_L_law3 126 rfl) (g_at ck_L_law3 127 rfl) (g_at ck_L_law3 128 rfl) (g_at ck_L_law3 129 rfl) rfl ⟨by omega, by omega, by omega⟩ ?_
  refine tz_sv (n := 1298) (g_at ck_L_law3 130 rfl) (g_at ck_L_law3 131 rfl) (g_at ck_L_law3 132 rfl) (g_at ck_L_law3 133 rfl) (g_at ck_L_law3 134 rfl) rfl ⟨by omega, by omega, by omega⟩ ?_
  refine tz_aload3 (n := 1299) (g_at ck_L_law3 135 rfl) rfl (g_ne kd_122) ?_
  refine tz_cshI5 (n := 1302) (μ' := μL_gone) (cb' := cb) (sb' := sb) ml_L_192 mo_L_gone ms_L_gone np_L_gone (g_at ck_L_law3 136 rfl) (wl_gone (sp_gone (sv_rg γ i 1) (sv_rg γ i 2) (sv_rg γ i 3) hL rfl hS hR hW w.2.1 w.2.2.1 hσ)) rfl rfl ⟨by decide, by decide⟩ (Nat.le_of_ble_eq_true rfl) (by omega) (by omega) (g_in (g_m5 (List.mem_of_getElem? (i := 185) rfl)) rfl) (fun x5 ρ5 m5 hq => ?_)
  obtain ⟨hL5, hR5, w5, v5, e5, h5⟩ := rd_C (A := (fun x => (daysP Λ hl tl (sig0 s) (sv γ i 3).toNat) 2 ((sv γ i 1) * 5 + (sv γ i 2)) = x)) w v hL hR hq (fun _ _ _ hz => hz)
  refine tz_istore5 (n := 1304) (g_at ck_L_law3 137 rfl) rfl (by decide) g_hpI ?_
  refine tz_aload2 (n := 1305) (g_at ck_L_law3 138 rfl) rfl (g_ne kd_84) ?_
  refine tz_sv (n := 1311) (g_at ck_L_law3 139 rfl) (g_at ck_L_law3 140 rfl) (g_at ck_L_law3 141 rfl) (g_at ck_L_law3 142 rfl) (g_at ck_L_law3 143 rfl) rfl ⟨by omega, by omega, by omega⟩ ?_
  refine tz_sv (n := 1317) (g_at ck_L_law3 144 rfl) (g_at ck_L_law3 145 rfl) (g_at ck_L_law3 146 rfl) (g_at ck_L_law3 147 rfl) (g_at ck_L_law3 148 rfl) rfl ⟨by omega, by omega, by omega⟩ ?_
  refine tz_sv (n := 1323) (g_at ck_L_law3 149 rfl) (g_at ck_L_law3 150 rfl) (g_at ck_L_law3 151 rfl) (g_at ck_L_law3 152 rfl) (g_at ck_L_law3 153 rfl) rfl ⟨by omega, by omega, by omega⟩ ?_
  refine tz_cvI3 (n := 1326) (μ' := μX11_gone) (cb' := cb) (sb' := sb) ml_L_194 mo_X11_gone mv_X11_gone np_X11_gone kd_84 (g_at ck_L_law3 154 rfl) (mp_gone (sv_rg γ i 1) (sv_rg γ i 2) (sv_rg γ i 3) hL5 hR5 hW v5.1 v5.2.1 hσ v5.2.2.2.2.2.2.1.2) rfl rfl rfl ⟨by decide, by decide⟩ (Nat.le_of_ble_eq_true rfl) (by omega) (by omega) (fun x6 ρ6 m6 hq6 => ?_)
  obtain ⟨a1, a2, a3, a4⟩ := rd_2 (A := (fun x => (daysP Λ hl tl (sig0 s) (sv γ i 3).toNat) 2 ((sv γ i 1) * 5 + (sv γ i 2)) = x)) uE p w5 v5 hL5 h5 hq6
  refine tz_istore6 (n := 1328) (g_at ck_L_law3 155 rfl) rfl (by decide) g_hpI ?_
  exact lt_tail (g_at ck_L_law3 156 rfl) (g_at ck_L_law3 157 rfl) (g_at ck_L_law3 158 rfl) (g_at ck_L_law3 159 rfl) (g_at ck_L_law3 162 rfl) (g_at ck_L_law3 163 rfl) (g_at ck_L_law3 164 rfl) (g_at ck_L_law3 165 rfl) (g_at ck_L_law3 166 rfl) (g_at ck_L_law3 167 rfl) (g_at ck_L_law3 168 rfl) (g_at ck_L_law3 169 rfl) (g_at ck_L_law3 170 rfl) (g_at ck_L_law3 173 rfl) rfl a4.2.1 (a1.trans e5.symm) (fun h9 => by rw [a2]; exact a3 (by rw [← e5]; exact h9)) (kk _ _ a4)
theorem lb_later {l : Launch} {γ : Gh} {ρ m : Mm} {R : RR} {X : XX} {cb sb : Nat} {N i : Int} (hI : IW N ρ m) (hN : N ≤ 1000) (hi : 0 ≤ i ∧ i + 6 ≤ γ.2.2.2.2.1 ∧ γ.2.2.2.2.1 < 2147483648) (kk : ∀ ρ9 m9, IW (N + 1) ρ9 m9 → gT l γ μL_law 60 cb sb R X KK ρ9 m9 2837 [some (vR (-1)), some (vR 1), some (vR 84), some (vR 122), some (vI i), none, none] []) : gT l γ μL_law 60 (cb + 4) (sb + 24) R X KK ρ m 1359 [some (vR (-1)), some (vR 1), some (vR 84), some (vR 122), some (vI i), none, none] [] := by
  obtain ⟨hL, hR, Λ, hl, tl, s, n, α, κ, h, s2, n2, α2, κ2, t, tn, pl, f, w, v, p⟩ := hI
  have hW := p.1
  have hσ := p.2.1.1.1
  have hS := w.iS hL
  have hA2 : 0 ≤ m 44 2 ∧ m 44 2 ≤ 40 := by rw [w.2.2.2.1.1]; exact p.2.1.2.1
  have hE3 : 0 ≤ m 46 3 ∧ m 46 3 ≤ 8 := by rw [w.2.2.2.2.1.1]; exact p.2.1.2.2.2.1
  have hf : ∀ k, 0 ≤ k → k < 3 → m 61 k < 2000000000 := fun k k1 k2 => by rw [w.2.2.2.2.2.2.2.2 k k1 k2]; have := p.2.2.2.2.2 k k1 k2; omega
  have hTn : m 1 1 = tn := w.2.2.2.2.2.2.2.1.1
  have hf1 : 0 ≤ m 1 1 ∧ m 1 1 ≤ 700 := by rw [hTn]; exact p.2.2.2.2.1
  refine tz_aload1 (n := 1360) (g_at ck_L_law3 174 rfl) rfl (g_ne kd_1) ?_
  refine tz_sv (n := 1366) (g_at ck_L_law3 175 rfl) (g_at ck_L_law3 176 rfl) (g_at ck_L_law3 177 rfl) (g_at ck_L_law3 178 rfl) (g_at ck_L_law3 179 rfl) rfl ⟨by omega, by omega, by omega⟩ ?_
  refine tz_sv (n := 1372) (g_at ck_L_law3 180 rfl) (g_at ck_L_law3 181 rfl) (g_at ck_L_law3 182 rfl) (g_at ck_L_law3 183 rfl) (g_at ck_L_law3 184 rfl) rfl ⟨by omega, by omega, by omega⟩ ?_
  refine tz_aload3 (n := 1373) (g_at ck_L_law3 185 rfl) rfl (g_ne kd_122) ?_
  refine tz_cshI4 (n := 1376) (μ' := μL_later) (cb' := cb) (sb' := sb) ml_L_195 mo_L_later ms_L_later np_L_later (g_at ck_L_law3 186 rfl) (wl_later (sp_later (sv_rg γ i 1) (sv_rg γ i 2) hL rfl hS hR hW w.2.1 w.2.2.1 hσ)) rfl rfl ⟨by decide, by decide⟩ (Nat.le_of_ble_eq_true rfl) (by omega) (by omega) (g_in (g_m5 (List.mem_of_getElem? (i := 193) rfl)) rfl) (fun x5 ρ5 m5 hq => ?_)
  obtain ⟨hL5, hR5, w5, v5, e5, h5⟩ := rd_C (A := (fun x => (if (sv γ i 2) = 0 then homB Λ (daysP Λ hl tl (sig0 s) (sv γ i 1).toNat) else if (sv γ i 2) = 1 then (porN (daysP Λ hl tl (sig0 s) (sv γ i 1).toNat) (Λ 0 1).toNat).1 else if (sv γ i 2) = 2 then (bzN (ofN Λ hl tl (sig0 s) (sv γ i 1).toNat) (Λ 0 0).toNat).1 else stkP Λ hl tl (daysP Λ hl tl (sig0 s) (sv γ i 1).toNat)) = x)) w v hL hR hq (fun _ _ _ hz => hz)
  refine tz_istore5 (n := 1378) (g_at ck_L_law3 187 rfl) rfl (by decide) g_hpI ?_
  refine tz_aload2 (n := 1379) (g_at ck_L_law3 188 rfl) rfl (g_ne kd_84) ?_
  refine tz_sv (n := 1385) (g_at ck_L_law3 189 rfl) (g_at ck_L_law3 190 rfl) (g_at ck_L_law3 191 rfl) (g_at ck_L_law3 192 rfl) (g_at ck_L_law3 193 rfl) rfl ⟨by omega, by omega, by omega⟩ ?_
  refine tz_sv (n := 1391) (g_at ck_L_law3 194 rfl) (g_at ck_L_law3 195 rfl) (g_at ck_L_law3 196 rfl) (g_at ck_L_law3 197 rfl) (g_at ck_L_law3 198 rfl) rfl ⟨by omega, by omega, by omega⟩ ?_
  refine tz_cvI2 (n := 1394) (μ' := μX11_later) (cb' := cb) (sb' := sb) ml_L_197 mo_X11_later mv_X11_later np_X11_later kd_84 (g_at ck_L_law3 199 rfl) (mp_later (sv_rg γ i 1) (sv_rg γ i 2) hL5 hR5 hW v5.1 v5.2.1 hσ v5.2.2.2.2.2.2.1.2) rfl rfl rfl ⟨by decide, by decide⟩ (Nat.le_of_ble_eq_true rfl) (by omega) (by omega) (fun x6 ρ6 m6 hq6 => ?_)
  obtain ⟨a1, a2, a3, a4⟩ := rd_2 (A := (fun x => (if (sv γ i 2) = 0 then homB Λ (daysP Λ hl tl (sig0 s) (sv γ i 1).toNat) else if (sv γ i 2) = 1 then (porN (daysP Λ hl tl (sig0 s) (sv γ i 1).toNat) (Λ 0 1).toNat).1 else if (sv γ i 2) = 2 then (bzN (ofN Λ hl tl (sig0 s) (sv γ i 1).toNat) (Λ 0 0).toNat).1 else stkP Λ hl tl (daysP Λ hl tl (sig0 s) (sv γ i 1).toNat)) = x)) uE p w5 v5 hL5 h5 hq6
  refine tz_istore6 (n := 1396) (g_at ck_L_law4 0 rfl) rfl (by decide) g_hpI ?_
  exact lt_tail (g_at ck_L_law4 1 rfl) (g_at ck_L_law4 2 rfl) (g_at ck_L_law4 3 rfl) (g_at ck_L_law4 4 rfl) (g_at ck_L_law4 7 rfl) (g_at ck_L_law4 8 rfl) (g_at ck_L_law4 9 rfl) (g_at ck_L_law4 10 rfl) (g_at ck_L_law4 11 rfl) (g_at ck_L_law4 12 rfl) (g_at ck_L_law4 13 rfl) (g_at ck_L_law4 14 rfl) (g_at ck_L_law4 15 rfl) (g_at ck_L_law4 18 rfl) rfl a4.2.1 (a1.trans e5.symm) (fun h9 => by rw [a2]; exact a3 (by rw [← e5]; exact h9)) (kk _ _ a4)
theorem lb_round {l : Launch} {γ : Gh} {ρ m : Mm} {R : RR} {X : XX} {cb sb : Nat} {N i : Int} (hI : IW N ρ m) (hN : N ≤ 1000) (hi : 0 ≤ i ∧ i + 6 ≤ γ.2.2.2.2.1 ∧ γ.2.2.2.2.1 < 2147483648) (kk : ∀ ρ9 m9, IW (N + 1) ρ9 m9 → gT l γ μL_law 60 cb sb R X KK ρ9 m9 2837 [some (vR (-1)), some (vR 1), some (vR 84), some (vR 122), some (vI i), none, none] []) : gT l γ μL_law 60 (cb + 4) (sb + 24) R X KK ρ m 1427 [some (vR (-1)), some (vR 1), some (vR 84), some (vR 122), some (vI i), none, none] [] := by
  obtain ⟨hL, hR, Λ, hl, tl, s, n, α, κ, h, s2, n2, α2, κ2, t, tn, pl, f, w, v, p⟩ := hI
  have hW := p.1
  have hσ := p.2.1.1.1
  have hS := w.iS hL
  have hA2 : 0 ≤ m 44 2 ∧ m 44 2 ≤ 40 := by rw [w.2.2.2.1.1]; exact p.2.1.2.1
  have hE3 : 0 ≤ m 46 3 ∧ m 46 3 ≤ 8 := by rw [w.2.2.2.2.1.1]; exact p.2.1.2.2.2.1
  have hf : ∀ k, 0 ≤ k → k < 3 → m 61 k < 2000000000 := fun k k1 k2 => by rw [w.2.2.2.2.2.2.2.2 k k1 k2]; have := p.2.2.2.2.2 k k1 k2; omega
  have hTn : m 1 1 = tn := w.2.2.2.2.2.2.2.1.1
  have hf1 : 0 ≤ m 1 1 ∧ m 1 1 ≤ 700 := by rw [hTn]; exact p.2.2.2.2.1
  refine tz_aload1 (n := 1428) (g_at ck_L_law4 19 rfl) rfl (g_ne kd_1) ?_
  refine tz_cvI0 (n := 1431) (μ' := μX10_round) (cb' := cb) (sb' := sb) ml_L_198 mo_X10_round mv_X10_round np_X10_round kd_1 (g_at ck_L_law4 20 rfl) (sp_round hL rfl hS hR hW w.2.1 w.2.2.1 hσ) rfl rfl rfl ⟨by decide, by decide⟩ (Nat.le_of_ble_eq_true rfl) (by omega) (by omega) (fun x5 ρ5 m5 hq => ?_)
  obtain ⟨hL5, hR5, w5, v5, h5⟩ := rd_D (A := (fun x => isF1 (fun j => likeP (daysP Λ hl tl (sig0 s) (j + 1)) s ≠ 0) 200 x)) w v hL hq
  refine tz_aload2 (n := 1432) (g_at ck_L_law4 21 rfl) rfl (g_ne kd_84) ?_
  refine tz_cvI0 (n := 1435) (μ' := μX11_round) (cb' := cb) (sb' := sb) ml_L_201 mo_X11_round mv_X11_round np_X11_round kd_84 (g_at ck_L_law4 22 rfl) (mp_round hL5 hR5 hW v5.1 v5.2.1 hσ v5.2.2.2.2.2.2.1.2) rfl rfl rfl ⟨by decide, by decide⟩ (Nat.le_of_ble_eq_true rfl) (by omega) (by omega) (fun x6 ρ6 m6 hq6 => ?_)
  obtain ⟨b1, b2, b3, b4, b5, b6, b7⟩ := rd_M (cd := 0) (A := (fun x => isF1 (fun j => likeP (daysP Λ hl tl (sig0 s) (j + 1)) s ≠ 0) 200 x)) w5 v5 hL5 ⟨hq6.1, hq6.2.1, hq6.2.2.1, hq6.2.2.2.1, fun _ => hq6.2.2.2.2⟩
  exact tz_eqT (tgt := 2837) (uF1 _ _ h5 (b7 rfl)) (g_at ck_L_law4 23 rfl) rfl (kk _ _ (IW.mk b1 b2 b3 b4 p.inc))
theorem lb_way {l : Launch} {γ : Gh} {ρ m : Mm} {R : RR} {X : XX} {cb sb : Nat} {N i : Int} (hI : IW N ρ m) (hN : N ≤ 1000) (hi : 0 ≤ i ∧ i + 6 ≤ γ.2.2.2.2.1 ∧ γ.2.2.2.2.1 < 2147483648) (kk : ∀ ρ9 m9, IW (N + 1) ρ9 m9 → gT l γ μL_law 60 cb sb R X KK ρ9 m9 2837 [some (vR (-1)), some (vR 1), some (vR 84), some (vR 122), some (vI i), none, none] []) : gT l γ μL_law 60 (cb + 4) (sb + 24) R X KK ρ m 1440 [some (vR (-1)), some (vR 1), some (vR 84), some (vR 122), some (vI i), none, none] [] := by
  obtain ⟨hL, hR, Λ, hl, tl, s, n, α, κ, h, s2, n2, α2, κ2, t, tn, pl, f, w, v, p⟩ := hI
  have hW := p.1
  have hσ := p.2.1.1.1
  have hS := w.iS hL
  have hA2 : 0 ≤ m 44 2 ∧ m 44 2 ≤ 40 := by rw [w.2.2.2.1.1]; exact p.2.1.2.1
  have hE3 : 0 ≤ m 46 3 ∧ m 46 3 ≤ 8 := by rw [w.2.2.2.2.1.1]; exact p.2.1.2.2.2.1
  have hf : ∀ k, 0 ≤ k → k < 3 → m 61 k < 2000000000 := fun k k1 k2 => by rw [w.2.2.2.2.2.2.2.2 k k1 k2]; have := p.2.2.2.2.2 k k1 k2; omega
  have hTn : m 1 1 = tn := w.2.2.2.2.2.2.2.1.1
  have hf1 : 0 ≤ m 1 1 ∧ m 1 1 ≤ 700 := by rw [hTn]; exact p.2.2.2.2.1
  refine tz_aload1 (n := 1441) (g_at ck_L_law4 26 rfl) rfl (g_ne kd_1) ?_
  refine tz_sv (n := 1447) (g_at ck_L_law4 27 rfl) (g_at ck_L_law4 28 rfl) (g_at ck_L_law4 29 rfl) (g_at ck_L_law4 30 rfl) (g_at ck_L_law4 31 rfl) rfl ⟨by omega, by omega, by omega⟩ ?_
  refine tz_sv (n := 1453) (g_at ck_L_law4 32 rfl) (g_at ck_L_law4 33 rfl) (g_at ck_L_law4 34 rfl) (g_at ck_L_law4 35 rfl) (g_at ck_L_law4 36 rfl) rfl ⟨by omega, by omega, by omega⟩ ?_
  refine tz_sv (n := 1459) (g_at ck_L_law4 37 rfl) (g_at ck_L_law4 38 rfl) (g_at ck_L_law4 39 rfl) (g_at ck_L_law4 40 rfl) (g_at ck_L_law4 41 rfl) rfl ⟨by omega, by omega, by omega⟩ ?_
  refine tz_aload3 (n := 1460) (g_at ck_L_law4 42 rfl) rfl (g_ne kd_122) ?_
  refine tz_cshI5 (n := 1463) (μ' := μL_way) (cb' := cb) (sb' := sb) ml_L_202 mo_L_way ms_L_way np_L_way (g_at ck_L_law4 43 rfl) (wl_way (sp_way (sv_rg γ i 1) (sv_rg γ i 2) (sv_rg γ i 3) hL rfl hS hR hW w.2.1 w.2.2.1 hσ) (c2q c2C (c2q c2C c2W))) rfl rfl ⟨by decide, by decide⟩ (Nat.le_of_ble_eq_true rfl) (by omega) (by omega) (g_in (g_m5 (List.mem_of_getElem? (i := 217) rfl)) rfl) (fun x5 ρ5 m5 hq => ?_)
  obtain ⟨hL5, hR5, w5, v5, e5, h5⟩ := rd_C (A := (fun x => orN (if (sv γ i 3) = 0 then wyW Λ s 0 ((sv γ i 1) * 9 + (sv γ i 2)) else wyW Λ s 1 ((sv γ i 1) * 9 + (sv γ i 2))) = x)) w v hL hR hq (fun _ _ _ hz => hz)
  refine tz_istore5 (n := 1465) (g_at ck_L_law4 44 rfl) rfl (by decide) g_hpI ?_
  refine tz_aload2 (n := 1466) (g_at ck_L_law4 45 rfl) rfl (g_ne kd_84) ?_
  refine tz_sv (n := 1472) (g_at ck_L_law4 46 rfl) (g_at ck_L_law4 47 rfl) (g_at ck_L_law4 48 rfl) (g_at ck_L_law4 49 rfl) (g_at ck_L_law4 50 rfl) rfl ⟨by omega, by omega, by omega⟩ ?_
  refine tz_sv (n := 1478) (g_at ck_L_law4 51 rfl) (g_at ck_L_law4 52 rfl) (g_at ck_L_law4 53 rfl) (g_at ck_L_law4 54 rfl) (g_at ck_L_law4 55 rfl) rfl ⟨by omega, by omega, by omega⟩ ?_
  refine tz_sv (n := 1484) (g_at ck_L_law4 56 rfl) (g_at ck_L_law4 57 rfl) (g_at ck_L_law4 58 rfl) (g_at ck_L_law4 59 rfl) (g_at ck_L_law4 60 rfl) rfl ⟨by omega, by omega, by omega⟩ ?_
  refine tz_cvI3 (n := 1487) (μ' := μX11_way) (cb' := cb) (sb' := sb) ml_L_204 mo_X11_way mv_X11_way np_X11_way kd_84 (g_at ck_L_law4 61 rfl) (mp_way (sv_rg γ i 1) (sv_rg γ i 2) (sv_rg γ i 3) hL5 hR5 hW v5.1 v5.2.1 hσ v5.2.2.2.2.2.2.1.2) rfl rfl rfl ⟨by decide, by decide⟩ (Nat.le_of_ble_eq_true rfl) (by omega) (by omega) (fun x6 ρ6 m6 hq6 => ?_)
  obtain ⟨a1, a2, a3, a4⟩ := rd_2 (A := (fun x => orN (if (sv γ i 3) = 0 then wyW Λ s 0 ((sv γ i 1) * 9 + (sv γ i 2)) else wyW Λ s 1 ((sv γ i 1) * 9 + (sv γ i 2))) = x)) uE p w5 v5 hL5 h5 hq6
  refine tz_istore6 (n := 1489) (g_at ck_L_law4 62 rfl) rfl (by decide) g_hpI ?_
  exact lt_tail (g_at ck_L_law4 63 rfl) (g_at ck_L_law4 64 rfl) (g_at ck_L_law4 65 rfl) (g_at ck_L_law4 66 rfl) (g_at ck_L_law4 69 rfl) (g_at ck_L_law4 70 rfl) (g_at ck_L_law4 71 rfl) (g_at ck_L_law4 72 rfl) (g_at ck_L_law4 73 rfl) (g_at ck_L_law4 74 rfl) (g_at ck_L_law4 75 rfl) (g_at ck_L_law4 76 rfl) (g_at ck_L_law4 77 rfl) (g_at ck_L_law4 80 rfl) rfl a4.2.1 (a1.trans e5.symm) (fun h9 => by rw [a2]; exact a3 (by rw [← e5]; exact h9)) (kk _ _ a4)
theorem lb_best {l : Launch} {γ : Gh} {ρ m : Mm} {R : RR} {X : XX} {cb sb : Nat} {N i : Int} (hI : IW N ρ m) (hN : N ≤ 1000) (hi : 0 ≤ i ∧ i + 6 ≤ γ.2.2.2.2.1 ∧ γ.2.2.2.2.1 < 2147483648) (kk : ∀ ρ9 m9, IW (N + 1) ρ9 m9 → gT l γ μL_law 60 cb sb R X KK ρ9 m9 2837 [some (vR (-1)), some (vR 1), some (vR 84), some (vR 122), some (vI i), none, none] []) : gT l γ μL_law 60 (cb + 4) (sb + 24) R X KK ρ m 1520 [some (vR (-1)), some (vR 1), some (vR 84), some (vR 122), some (vI i), none, none] [] := by
  obtain ⟨hL, hR, Λ, hl, tl, s, n, α, κ, h, s2, n2, α2, κ2, t, tn, pl, f, w, v, p⟩ := hI
  have hW := p.1
  have hσ := p.2.1.1.1
  have hS := w.iS hL
  have hA2 : 0 ≤ m 44 2 ∧ m 44 2 ≤ 40 := by rw [w.2.2.2.1.1]; exact p.2.1.2.1
  have hE3 : 0 ≤ m 46 3 ∧ m 46 3 ≤ 8 := by rw [w.2.2.2.2.1.1]; exact p.2.1.2.2.2.1
  have hf : ∀ k, 0 ≤ k → k < 3 → m 61 k < 2000000000 := fun k k1 k2 => by rw [w.2.2.2.2.2.2.2.2 k k1 k2]; have := p.2.2.2.2.2 k k1 k2; omega
  have hTn : m 1 1 = tn := w.2.2.2.2.2.2.2.1.1
  have hf1 : 0 ≤ m 1 1 ∧ m 1 1 ≤ 700 := by rw [hTn]; exact p.2.2.2.2.1
  refine tz_aload1 (n := 1521) (g_at ck_L_law4 81 rfl) rfl (g_ne kd_1) ?_
  refine tz_sv (n := 1527) (g_at ck_L_law4 82 rfl) (g_at ck_L_law4 83 rfl) (g_at ck_L_law4 84 rfl) (g_at ck_L_law4 85 rfl) (g_at ck_L_law4 86 rfl) rfl ⟨by omega, by omega, by omega⟩ ?_
  refine tz_aload3 (n := 1528) (g_at ck_L_law4 87 rfl) rfl (g_ne kd_122) ?_
  refine tz_cshI3 (n := 1531) (μ' := μL_best) (cb' := cb) (sb' := sb) ml_L_205 mo_L_best ms_L_best np_L_best (g_at ck_L_law4 88 rfl) (wl_best (sp_best (sv_rg γ i 1) hL rfl hS hR hW w.2.1 w.2.2.1 hσ) c2P) rfl rfl ⟨by decide, by decide⟩ (Nat.le_of_ble_eq_true rfl) (by omega) (by omega) (g_in (g_m5 (List.mem_of_getElem? (i := 229) rfl)) rfl) (fun x5 ρ5 m5 hq => ?_)
  obtain ⟨hL5, hR5, w5, v5, e5, h5⟩ := rd_C (A := (fun x => (bsN Λ hl tl s (sv γ i 1) (Λ 0 0).toNat).2 = x)) w v hL hR hq (fun _ _ _ hz => hz)
  refine tz_istore5 (n := 1533) (g_at ck_L_law4 89 rfl) rfl (by decide) g_hpI ?_
  refine tz_aload2 (n := 1534) (g_at ck_L_law4 90 rfl) rfl (g_ne kd_84) ?_
  refine tz_sv (n := 1540) (g_at ck_L_law4 91 rfl) (g_at ck_L_law4 92 rfl) (g_at ck_L_law4 93 rfl) (g_at ck_L_law4 94 rfl) (g_at ck_L_law4 95 rfl) rfl ⟨by omega, by omega, by omega⟩ ?_
  refine tz_cvI1 (n := 1543) (μ' := μX11_best) (cb' := cb) (sb' := sb) ml_L_207 mo_X11_best mv_X11_best np_X11_best kd_84 (g_at ck_L_law4 96 rfl) (mp_best (sv_rg γ i 1) hL5 hR5 hW v5.1 v5.2.1 hσ v5.2.2.2.2.2.2.1.2) rfl rfl rfl ⟨by decide, by decide⟩ (Nat.le_of_ble_eq_true rfl) (by omega) (by omega) (fun x6 ρ6 m6 hq6 => ?_)
  obtain ⟨a1, a2, a3, a4⟩ := rd_2 (A := (fun x => (bsN Λ hl tl s (sv γ i 1) (Λ 0 0).toNat).2 = x)) uE p w5 v5 hL5 h5 hq6
  refine tz_istore6 (n := 1545) (g_at ck_L_law4 97 rfl) rfl (by decide) g_hpI ?_
  exact lt_tail (g_at ck_L_law4 98 rfl) (g_at ck_L_law4 99 rfl) (g_at ck_L_law4 100 rfl) (g_at ck_L_law4 101 rfl) (g_at ck_L_law4 104 rfl) (g_at ck_L_law4 105 rfl) (g_at ck_L_law4 106 rfl) (g_at ck_L_law4 107 rfl) (g_at ck_L_law4 108 rfl) (g_at ck_L_law4 109 rfl) (g_at ck_L_law4 110 rfl) (g_at ck_L_law4 111 rfl) (g_at ck_L_law4 112 rfl) (g_at ck_L_law4 115 rfl) rfl a4.2.1 (a1.trans e5.symm) (fun h9 => by rw [a2]; exact a3 (by rw [← e5]; exact h9)) (kk _ _ a4)
theorem lb_lodged {l : Launch} {γ : Gh} {ρ m : Mm} {R : RR} {X : XX} {cb sb : Nat} {N i : Int} (hI : IW N ρ m) (hN : N ≤ 1000) (hi : 0 ≤ i ∧ i + 6 ≤ γ.2.2.2.2.1 ∧ γ.2.2.2.2.1 < 2147483648) (kk : ∀ ρ9 m9, IW (N + 1) ρ9 m9 → gT l γ μL_law 60 cb sb R X KK ρ9 m9 2837 [some (vR (-1)), some (vR 1), some (vR 84), some (vR 122), some (vI i), none, none] []) : gT l γ μL_law 60 (cb + 4) (sb + 24) R X KK ρ m 1576 [some (vR (-1)), some (vR 1), some (vR 84), some (vR 122), some (vI i), none, none] [] := by
  obtain ⟨hL, hR, Λ, hl, tl, s, n, α, κ, h, s2, n2, α2, κ2, t, tn, pl, f, w, v, p⟩ := hI
  have hW := p.1
  have hσ := p.2.1.1.1
  have hS := w.iS hL
  have hA2 : 0 ≤ m 44 2 ∧ m 44 2 ≤ 40 := by rw [w.2.2.2.1.1]; exact p.2.1.2.1
  have hE3 : 0 ≤ m 46 3 ∧ m 46 3 ≤ 8 := by rw [w.2.2.2.2.1.1]; exact p.2.1.2.2.2.1
  have hf : ∀ k, 0 ≤ k → k < 3 → m 61 k < 2000000000 := fun k k1 k2 => by rw [w.2.2.2.2.2.2.2.2 k k1 k2]; have := p.2.2.2.2.2 k k1 k2; omega
  have hTn : m 1 1 = tn := w.2.2.2.2.2.2.2.1.1
  have hf1 : 0 ≤ m 1 1 ∧ m 1 1 ≤ 700 := by rw [hTn]; exact p.2.2.2.2.1
  refine tz_aload1 (n := 1577) (g_at ck_L_law4 116 rfl) rfl (g_ne kd_1) ?_
  refine tz_sv (n := 1583) (g_at ck_L_law4 117 rfl) (g_at ck_L_law4 118 rfl) (g_at ck_L_law4 119 rfl) (g_at ck_L_law4 120 rfl) (g_at ck_L_law4 121 rfl) rfl ⟨by omega, by omega, by omega⟩ ?_
  refine tz_aload3 (n := 1584) (g_at ck_L_law4 122 rfl) rfl (g_ne kd_122) ?_
  refine tz_cshI3 (n := 1587) (μ' := μL_lodged) (cb' := cb) (sb' := sb) ml_L_208 mo_L_lodged ms_L_lodged np_L_lodged (g_at ck_L_law4 123 rfl) (wl_lodged (sp_lodged (sv_rg γ i 1) hL rfl hS hR hW w.2.1 w.2.2.1 hσ) c2W) rfl rfl ⟨by decide, by decide⟩ (Nat.le_of_ble_eq_true rfl) (by omega) (by omega) (g_in (g_m6 (List.mem_of_getElem? (i := 4) rfl)) rfl) (fun x5 ρ5 m5 hq => ?_)
  obtain ⟨hL5, hR5, w5, v5, e5, h5⟩ := rd_C (A := (fun x => ∃ T : Int → Int, LodgeOK Λ s T ∧ (if (sv γ i 1) = 0 then (tbN Λ s T (Λ 0 1).toNat).2.1 else (tbN Λ s T (Λ 0 1).toNat).2.2) = x)) w v hL hR hq (fun _ _ _ hz => hz)
  refine tz_istore5 (n := 1589) (g_at ck_L_law4 124 rfl) rfl (by decide) g_hpI ?_
  refine tz_aload2 (n := 1590) (g_at ck_L_law4 125 rfl) rfl (g_ne kd_84) ?_
  refine tz_sv (n := 1596) (g_at ck_L_law4 126 rfl) (g_at ck_L_law4 127 rfl) (g_at ck_L_law4 128 rfl) (g_at ck_L_law4 129 rfl) (g_at ck_L_law4 130 rfl) rfl ⟨by omega, by omega, by omega⟩ ?_
  refine tz_cvI1 (n := 1599) (μ' := μX11_lodged) (cb' := cb) (sb' := sb) ml_L_210 mo_X11_lodged mv_X11_lodged np_X11_lodged kd_84 (g_at ck_L_law4 131 rfl) (mp_lodged (sv_rg γ i 1) hL5 hR5 hW v5.1 v5.2.1 hσ v5.2.2.2.2.2.2.1.2) rfl rfl rfl ⟨by decide, by decide⟩ (Nat.le_of_ble_eq_true rfl) (by omega) (by omega) (fun x6 ρ6 m6 hq6 => ?_)
  obtain ⟨a1, a2, a3, a4⟩ := rd_2 (A := (fun x => ∃ T : Int → Int, LodgeOK Λ s T ∧ (if (sv γ i 1) = 0 then (tbN Λ s T (Λ 0 1).toNat).2.1 else (tbN Λ s T (Λ 0 1).toNat).2.2) = x)) (uLodge hW) p w5 v5 hL5 h5 hq6
  refine tz_istore6 (n := 1601) (g_at ck_L_law4 132 rfl) rfl (by decide) g_hpI ?_
  exact lt_tail (g_at ck_L_law4 133 rfl) (g_at ck_L_law4 134 rfl) (g_at ck_L_law4 135 rfl) (g_at ck_L_law4 136 rfl) (g_at ck_L_law4 139 rfl) (g_at ck_L_law4 140 rfl) (g_at ck_L_law4 141 rfl) (g_at ck_L_law4 142 rfl) (g_at ck_L_law4 143 rfl) (g_at ck_L_law4 144 rfl) (g_at ck_L_law4 145 rfl) (g_at ck_L_law4 146 rfl) (g_at ck_L_law4 147 rfl) (g_at ck_L_law4 150 rfl) rfl a4.2.1 (a1.trans e5.symm) (fun h9 => by rw [a2]; exact a3 (by rw [← e5]; exact h9)) (kk _ _ a4)
theorem lb_see {l : Launch} {γ : Gh} {ρ m : Mm} {R : RR} {X : XX} {cb sb : Nat} {N i : Int} (hI : IW N ρ m) (hN : N ≤ 1000) (hi : 0 ≤ i ∧ i + 6 ≤ γ.2.2.2.2.1 ∧ γ.2.2.2.2.1 < 2147483648) (kk : ∀ ρ9 m9, IW (N + 1) ρ9 m9 → gT l γ μL_law 60 cb sb R X KK ρ9 m9 2837 [some (vR (-1)), some (vR 1), some (vR 84), some (vR 122), some (vI i), none, none] []) : gT l γ μL_law 60 (cb + 4) (sb + 24) R X KK ρ m 1632 [some (vR (-1)), some (vR 1), some (vR 84), some (vR 122), some (vI i), none, none] [] := by
  obtain ⟨hL, hR, Λ, hl, tl, s, n, α, κ, h, s2, n2, α2, κ2, t, tn, pl, f, w, v, p⟩ := hI
  have hW := p.1
  have hσ := p.2.1.1.1
  have hS := w.iS hL
  have hA2 : 0 ≤ m 44 2 ∧ m 44 2 ≤ 40 := by rw [w.2.2.2.1.1]; exact p.2.1.2.1
  have hE3 : 0 ≤ m 46 3 ∧ m 46 3 ≤ 8 := by rw [w.2.2.2.2.1.1]; exact p.2.1.2.2.2.1
  have hf : ∀ k, 0 ≤ k → k < 3 → m 61 k < 2000000000 := fun k k1 k2 => by rw [w.2.2.2.2.2.2.2.2 k k1 k2]; have := p.2.2.2.2.2 k k1 k2; omega
  have hTn : m 1 1 = tn := w.2.2.2.2.2.2.2.1.1
  have hf1 : 0 ≤ m 1 1 ∧ m 1 1 ≤ 700 := by rw [hTn]; exact p.2.2.2.2.1
  refine tz_aload1 (n := 1633) (g_at ck_L_law4 151 rfl) rfl (g_ne kd_1) ?_
  refine tz_sv (n := 1639) (g_at ck_L_law4 152 rfl) (g_at ck_L_law4 153 rfl) (g_at ck_L_law4 154 rfl) (g_at ck_L_law4 155 rfl) (g_at ck_L_law4 156 rfl) rfl ⟨by omega, by omega, by omega⟩ ?_
  refine tz_sv (n := 1645) (g_at ck_L_law4 157 rfl) (g_at ck_L_law4 158 rfl) (g_at ck_L_law4 159 rfl) (g_at ck_L_law4 160 rfl) (g_at ck_L_law4 161 rfl) rfl ⟨by omega, by omega, by omega⟩ ?_
  refine tz_sv (n := 1651) (g_at ck_L_law4 162 rfl) (g_at ck_L_law4 163 rfl) (g_at ck_L_law4 164 rfl) (g_at ck_L_law4 165 rfl) (g_at ck_L_law4 166 rfl) rfl ⟨by omega, by omega, by omega⟩ ?_
  refine tz_aload3 (n := 1652) (g_at ck_L_law4 167 rfl) rfl (g_ne kd_122) ?_
  refine tz_cshI5 (n := 1655) (μ' := μL_see) (cb' := cb) (sb' := sb) ml_L_211 mo_L_see ms_L_see np_L_see (g_at ck_L_law4 168 rfl) (wl_see (sp_see (sv_rg γ i 1) (sv_rg γ i 2) (sv_rg γ i 3) hL rfl hS hR hW w.2.1 w.2.2.1 hσ hf hE3) (c2q c2P c2C)) rfl rfl ⟨by decide, by decide⟩ (Nat.le_of_ble_eq_true rfl) (by omega) (by omega) (g_in (g_m6 (List.mem_of_getElem? (i := 11) rfl)) rfl) (fun x5 ρ5 m5 hq => ?_)
  obtain ⟨hL5, hR5, e5, v5, c1, c2, c3⟩ := se_C (p := (sv γ i 1)) (c := (sv γ i 2)) (y := (sv γ i 3)) w v hL hR p.2.1.2.2.2.1.1 hq (fun _ _ _ hz => hz)
  refine tz_istore5 (n := 1657) (g_at ck_L_law4 169 rfl) rfl (by decide) g_hpI ?_
  refine tz_aload2 (n := 1658) (g_at ck_L_law4 170 rfl) rfl (g_ne kd_84) ?_
  refine tz_sv (n := 1664) (g_at ck_L_law4 171 rfl) (g_at ck_L_law4 172 rfl) (g_at ck_L_law4 173 rfl) (g_at ck_L_law4 174 rfl) (g_at ck_L_law4 175 rfl) rfl ⟨by omega, by omega, by omega⟩ ?_
  refine tz_sv (n := 1670) (g_at ck_L_law4 176 rfl) (g_at ck_L_law4 177 rfl) (g_at ck_L_law4 178 rfl) (g_at ck_L_law4 179 rfl) (g_at ck_L_law4 180 rfl) rfl ⟨by omega, by omega, by omega⟩ ?_
  refine tz_sv (n := 1676) (g_at ck_L_law4 181 rfl) (g_at ck_L_law4 182 rfl) (g_at ck_L_law4 183 rfl) (g_at ck_L_law4 184 rfl) (g_at ck_L_law4 185 rfl) rfl ⟨by omega, by omega, by omega⟩ ?_
  have hf5 : ∀ k, 0 ≤ k → k < 3 → m5 92 k < 2000000000 := fun k k1 k2 => by rw [v5.2.2.2.2.2.2.2.1 k k1 k2]; have := p.2.2.2.2.2 k k1 k2; omega
  refine tz_cvI3 (n := 1679) (μ' := μX11_see) (cb' := cb) (sb' := sb) ml_L_213 mo_X11_see mv_X11_see np_X11_see kd_84 (g_at ck_L_law4 186 rfl) (mp_see (sv_rg γ i 1) (sv_rg γ i 2) (sv_rg γ i 3) hL5 hR5 hW v5.1 v5.2.1 hσ v5.2.2.2.2.2.2.1.2 v5.2.2.2.1 p.2.1.2.2.2 hf5 v5.2.2.1) rfl rfl rfl ⟨by decide, by decide⟩ (Nat.le_of_ble_eq_true rfl) (by omega) (by omega) (fun x6 ρ6 m6 hq6 => ?_)
  obtain ⟨a1, a2, a3, a4⟩ := se_M (p := (sv γ i 1)) (c := (sv γ i 2)) (y := (sv γ i 3)) p v5 hL5 c1 c2 c3 (fun hc => ⟨cdP_0 (sq_l hc), cdC_0 (sq_r hc)⟩) hq6
  refine tz_istore6 (n := 1681) (g_at ck_L_law4 187 rfl) rfl (by decide) g_hpI ?_
  exact lt_tail (g_at ck_L_law4 188 rfl) (g_at ck_L_law4 189 rfl) (g_at ck_L_law4 190 rfl) (g_at ck_L_law4 191 rfl) (g_at ck_L_law4 194 rfl) (g_at ck_L_law4 195 rfl) (g_at ck_L_law4 196 rfl) (g_at ck_L_law4 197 rfl) (g_at ck_L_law4 198 rfl) (g_at ck_L_law4 199 rfl) (g_at ck_L_law5 0 rfl) (g_at ck_L_law5 1 rfl) (g_at ck_L_law5 2 rfl) (g_at ck_L_law5 5 rfl) rfl a4.2.1 (a1.trans e5.symm) (fun h9 => by rw [a2]; exact a3 (by rw [← e5]; exact h9)) (kk _ _ a4)
