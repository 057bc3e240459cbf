/-! The law, call by call. -/
theorem lt_shut {l : Launch} {γ : Gh} {cb sb : Nat} {R : RR} {X : XX} {ρ m : Mm} {q : Nat} {off i k b : Int} (d0 : decode μL_law.2.1 q = .ok (.aload_n 2, 1)) (d1 : decode μL_law.2.1 (q + 1) = .ok (.invokevirtual 137, 3)) (d4 : decode μL_law.2.1 (q + 4) = .ok (.iload 5, 2)) (d6 : decode μL_law.2.1 (q + 6) = .ok (.if_icmp .eq 5, 3)) (d11 : decode μL_law.2.1 (q + 11) = .ok (.iload 5, 2)) (d13 : decode μL_law.2.1 (q + 13) = .ok (.ifCond .ne 22, 3)) (d16 : decode μL_law.2.1 (q + 16) = .ok (.aload_n 3, 1)) (d17 : decode μL_law.2.1 (q + 17) = .ok (.iconst 0, 1)) (d18 : decode μL_law.2.1 (q + 18) = .ok (.laload, 1)) (d19 : decode μL_law.2.1 (q + 19) = .ok (.iload 6, 2)) (d21 : decode μL_law.2.1 (q + 21) = .ok (.ifCond .eq 7, 3)) (d24 : decode μL_law.2.1 (q + 24) = .ok (.lconst 1, 1)) (d25 : decode μL_law.2.1 (q + 25) = .ok (.goto 4, 3)) (d28 : decode μL_law.2.1 (q + 28) = .ok (.lconst 0, 1)) (d29 : decode μL_law.2.1 (q + 29) = .ok (.lcmp, 1)) (d30 : decode μL_law.2.1 (q + 30) = .ok (.ifCond .eq 5, 3)) (d35 : decode μL_law.2.1 (q + 35) = .ok (.goto off, 3)) (ho : ((q + 35 : Nat) : Int) + off = ((2837 : Nat) : Int)) (hR : MR m) (h1 : m 84 0 = k) (h2 : k = 0 → (b = 0 ∨ b = 1) ∧ m 122 0 = w32 b) (kk : gT l γ μL_law 60 cb sb R X KK ρ m 2837 [some (vR (-1)), some (vR 1), some (vR 84), some (vR 122), some (vI i), none, none] []) : gT l γ μL_law 60 cb sb R X KK ρ m q [some (vR (-1)), some (vR 1), some (vR 84), some (vR 122), some (vI i), some (vI k), some (vI b)] [] := by
  have hg : gT l γ μL_law 60 cb sb R X KK ρ m (q + 35) [some (vR (-1)), some (vR 1), some (vR 84), some (vR 122), some (vI i), some (vI k), some (vI b)] [] := by
    refine tz_goto (tgt := 2837) d35 ho ?_
    refine tz_drop5 ?_
    refine tz_drop6 ?_
    exact kk
  refine tz_aload2 (n := q + 1) d0 rfl (g_ne kd_84) ?_
  refine tz_cvI0 (n := q + 4) (μ' := μX11_thrown) (cb' := cb) (sb' := sb) ml_L_137 mo_X11_thrown mv_X11_thrown np_X11_thrown kd_84 d1 (mp_thrown hR) rfl rfl (by omega) ⟨by decide, by decide⟩ (Nat.le_of_ble_eq_true rfl) (by omega) (by omega) (fun x1 ρ9 m9 hq => ?_)
  obtain ⟨rfl, hR1, hx, rfl⟩ := hq
  refine tz_iload5 (n := q + 6) d4 (by omega) ?_
  refine tz_eqT (tgt := q + 11) (hx.symm.trans h1) d6 (by omega) ?_
  refine tz_iload5 (n := q + 13) d11 (by omega) ?_
  refine tz_if_ne (n := q + 16) (tgt := q + 35) d13 (by omega) (by omega) (by rw [← h1]; exact hR 84 0) (fun _ => hg) (fun h9 => ?_)
  obtain ⟨hb, h3⟩ := h2 h9
  have hc : ∀ y : Int, y = b → gT l γ μL_law 60 cb sb R X KK ρ m (q + 29) [some (vR (-1)), some (vR 1), some (vR 84), some (vR 122), some (vI i), some (vI k), some (vI b)] [vL y, vL (m 122 0)] := fun y hy => by
    refine tz_lcmp (n := q + 30) d29 (by omega) ?_
    refine tz_if_eq (n := q + 33) (tgt := q + 35) d30 (by omega) (by omega) (lCmp_rg _ _) (fun _ => hg) (fun h8 => absurd ?_ h8)
    rw [h3, hy, w32_id (by omega)]
    exact lCmp_self _
  refine tz_aload3 (n := q + 17) d16 (by omega) (g_ne kd_122) ?_
  refine tz_iconst (n := q + 18) d17 (by omega) ?_
  refine tz_lald (n := q + 19) kd_122 (by decide) d18 (by omega) ?_
  refine tz_iload6 (n := q + 21) d19 (by omega) ?_
  refine tz_if_eq (n := q + 24) (tgt := q + 28) d21 (by omega) (by omega) (by omega) (fun hb0 => ?_) (fun hb0 => ?_)
  · refine tz_lconst (n := q + 29) d28 (by omega) ?_
    exact hc _ (by show (0 : Int) = b; omega)
  · refine tz_lconst (n := q + 25) d24 (by omega) ?_
    refine tz_goto (tgt := q + 29) d25 (by omega) ?_
    exact hc _ (by show (1 : Int) = b; omega)
theorem uPer {Λ : Mm} {s : Int → Int} (hW : WL Λ) {p w e : Int} : ∀ x y, ((0 ≤ p ∧ p < Λ 0 1) ∧ (w ≠ 3 → e = x) ∧ (w = 3 → ∃ T : Int → Int, LodgeOK Λ s T ∧ bdP Λ s T p = x)) → ((0 ≤ p ∧ p < Λ 0 1) ∧ (w ≠ 3 → e = y) ∧ (w = 3 → ∃ T : Int → Int, LodgeOK Λ s T ∧ bdP Λ s T p = y)) → x = y := fun x y hx hy => by
  by_cases h : w = 3
  · exact uBed hW hx.1 x y (hx.2.2 h) (hy.2.2 h)
  · rw [← hx.2.1 h, ← hy.2.1 h]
theorem lb_feed {l : Launch} {γ : Gh} {ρ m : Mm} {R : RR} {X : XX} {cb sb : Nat} {N i : Int} (hI : IW N ρ m) (hN : N ≤ 1000) (hi : 0 ≤ i ∧ i + 6 ≤ γ.2.2.2.2.1 ∧ γ.2.2.2.2.1 < 2147483648) (kk : ∀ ρ9 m9, IW (N + 1) ρ9 m9 → gT l γ μL_law 60 cb sb R X KK ρ9 m9 2837 [some (vR (-1)), some (vR 1), some (vR 84), some (vR 122), some (vI i), none, none] []) : gT l γ μL_law 60 (cb + 4) (sb + 24) R X KK ρ m 236 [some (vR (-1)), some (vR 1), some (vR 84), some (vR 122), some (vI i), none, none] [] := by
  obtain ⟨hL, hR, Λ, hl, tl, s, n, α, κ, h, s2, n2, α2, κ2, t, tn, pl, f, w, v, p⟩ := hI
  have hW := p.1
  have hσ := p.2.1.1.1
  have hS := w.iS hL
  have hA2 : 0 ≤ m 44 2 ∧ m 44 2 ≤ 40 := by rw [w.2.2.2.1.1]; exact p.2.1.2.1
  have hE3 : 0 ≤ m 46 3 ∧ m 46 3 ≤ 8 := by rw [w.2.2.2.2.1.1]; exact p.2.1.2.2.2.1
  have hf : ∀ k, 0 ≤ k → k < 3 → m 61 k < 2000000000 := fun k k1 k2 => by rw [w.2.2.2.2.2.2.2.2 k k1 k2]; have := p.2.2.2.2.2 k k1 k2; omega
  have hTn : m 1 1 = tn := w.2.2.2.2.2.2.2.1.1
  have hf1 : 0 ≤ m 1 1 ∧ m 1 1 ≤ 700 := by rw [hTn]; exact p.2.2.2.2.1
  refine tz_aload1 (n := 237) (g_at ck_L_law0 25 rfl) rfl (g_ne kd_1) ?_
  refine tz_sv (n := 243) (g_at ck_L_law0 26 rfl) (g_at ck_L_law0 27 rfl) (g_at ck_L_law0 28 rfl) (g_at ck_L_law0 29 rfl) (g_at ck_L_law0 30 rfl) rfl ⟨by omega, by omega, by omega⟩ ?_
  refine tz_sv (n := 249) (g_at ck_L_law0 31 rfl) (g_at ck_L_law0 32 rfl) (g_at ck_L_law0 33 rfl) (g_at ck_L_law0 34 rfl) (g_at ck_L_law0 35 rfl) rfl ⟨by omega, by omega, by omega⟩ ?_
  refine tz_sv (n := 255) (g_at ck_L_law0 36 rfl) (g_at ck_L_law0 37 rfl) (g_at ck_L_law0 38 rfl) (g_at ck_L_law0 39 rfl) (g_at ck_L_law0 40 rfl) rfl ⟨by omega, by omega, by omega⟩ ?_
  refine tz_sv (n := 261) (g_at ck_L_law0 41 rfl) (g_at ck_L_law0 42 rfl) (g_at ck_L_law0 43 rfl) (g_at ck_L_law0 44 rfl) (g_at ck_L_law0 45 rfl) rfl ⟨by omega, by omega, by omega⟩ ?_
  refine tz_sv (n := 267) (g_at ck_L_law0 46 rfl) (g_at ck_L_law0 47 rfl) (g_at ck_L_law0 48 rfl) (g_at ck_L_law0 49 rfl) (g_at ck_L_law0 50 rfl) rfl ⟨by omega, by omega, by omega⟩ ?_
  refine tz_cvI5 (n := 270) (μ' := μX10_feed) (cb' := cb) (sb' := sb) ml_L_126 mo_X10_feed mv_X10_feed np_X10_feed kd_1 (g_at ck_L_law0 51 rfl) (sp_feed hL hR hf1) rfl rfl rfl ⟨by decide, by decide⟩ (Nat.le_of_ble_eq_true rfl) (by omega) (by omega) (fun x5 ρ5 m5 hq => ?_)
  obtain ⟨hL5, hR5, v5, c1, c2⟩ := fd_C w v hL p.2.2.2.1 hq
  refine tz_aload2 (n := 271) (g_at ck_L_law0 52 rfl) rfl (g_ne kd_84) ?_
  refine tz_sv (n := 277) (g_at ck_L_law0 53 rfl) (g_at ck_L_law0 54 rfl) (g_at ck_L_law0 55 rfl) (g_at ck_L_law0 56 rfl) (g_at ck_L_law0 57 rfl) rfl ⟨by omega, by omega, by omega⟩ ?_
  refine tz_sv (n := 283) (g_at ck_L_law0 58 rfl) (g_at ck_L_law0 59 rfl) (g_at ck_L_law0 60 rfl) (g_at ck_L_law0 61 rfl) (g_at ck_L_law0 62 rfl) rfl ⟨by omega, by omega, by omega⟩ ?_
  refine tz_sv (n := 289) (g_at ck_L_law0 63 rfl) (g_at ck_L_law0 64 rfl) (g_at ck_L_law0 65 rfl) (g_at ck_L_law0 66 rfl) (g_at ck_L_law0 67 rfl) rfl ⟨by omega, by omega, by omega⟩ ?_
  refine tz_sv (n := 295) (g_at ck_L_law0 68 rfl) (g_at ck_L_law0 69 rfl) (g_at ck_L_law0 70 rfl) (g_at ck_L_law0 71 rfl) (g_at ck_L_law0 72 rfl) rfl ⟨by omega, by omega, by omega⟩ ?_
  refine tz_sv (n := 301) (g_at ck_L_law0 73 rfl) (g_at ck_L_law0 74 rfl) (g_at ck_L_law0 75 rfl) (g_at ck_L_law0 76 rfl) (g_at ck_L_law0 77 rfl) rfl ⟨by omega, by omega, by omega⟩ ?_
  refine tz_cvI5 (n := 304) (μ' := μX11_feed) (cb' := cb) (sb' := sb) ml_L_130 mo_X11_feed mv_X11_feed np_X11_feed kd_84 (g_at ck_L_law0 78 rfl) (mp_feed hL5 hR5 v5.2.2.2.2.2.1 p.2.2.2.2.1) rfl rfl rfl ⟨by decide, by decide⟩ (Nat.le_of_ble_eq_true rfl) (by omega) (by omega) (fun x6 ρ6 m6 hq6 => ?_)
  obtain ⟨e, hI⟩ := fd_M p v5 hL5 c1 c2 hq6
  exact tz_eqT (tgt := 2837) e (g_at ck_L_law0 79 rfl) rfl (kk _ _ hI)
theorem lb_shire {l : Launch} {γ : Gh} {ρ m : Mm} {R : RR} {X : XX} {cb sb : Nat} {N i : Int} (hI : IW N ρ m) (hN : N ≤ 1000) (hi : 0 ≤ i ∧ i + 6 ≤ γ.2.2.2.2.1 ∧ γ.2.2.2.2.1 < 2147483648) (kk : ∀ ρ9 m9, IW (N + 1) ρ9 m9 → gT l γ μL_law 60 cb sb R X KK ρ9 m9 2837 [some (vR (-1)), some (vR 1), some (vR 84), some (vR 122), some (vI i), none, none] []) : gT l γ μL_law 60 (cb + 4) (sb + 24) R X KK ρ m 309 [some (vR (-1)), some (vR 1), some (vR 84), some (vR 122), some (vI i), none, none] [] := by
  obtain ⟨hL, hR, Λ, hl, tl, s, n, α, κ, h, s2, n2, α2, κ2, t, tn, pl, f, w, v, p⟩ := hI
  have hW := p.1
  have hσ := p.2.1.1.1
  have hS := w.iS hL
  have hA2 : 0 ≤ m 44 2 ∧ m 44 2 ≤ 40 := by rw [w.2.2.2.1.1]; exact p.2.1.2.1
  have hE3 : 0 ≤ m 46 3 ∧ m 46 3 ≤ 8 := by rw [w.2.2.2.2.1.1]; exact p.2.1.2.2.2.1
  have hf : ∀ k, 0 ≤ k → k < 3 → m 61 k < 2000000000 := fun k k1 k2 => by rw [w.2.2.2.2.2.2.2.2 k k1 k2]; have := p.2.2.2.2.2 k k1 k2; omega
  have hTn : m 1 1 = tn := w.2.2.2.2.2.2.2.1.1
  have hf1 : 0 ≤ m 1 1 ∧ m 1 1 ≤ 700 := by rw [hTn]; exact p.2.2.2.2.1
  obtain ⟨zF, hzF⟩ : ∃ zF, lN9 t (sv γ i 1) (ρ 1 4) (z0f (qL (ρ 1 3) hl tl) (ρ 1 4) (ρ 37 2) (m 37 5)) 700 = zF := ⟨_, rfl⟩
  have hw0 := w.1.1
  have hE := sp_shire (l := l) (γ := γ) (sv_rg γ i 1) (t := t) (Q := qL (ρ 1 3) hl tl) hL rfl rfl w.ld (by omega) hR p.2.2.2.1 hf1 (by rw [hTn]; exact w.2.2.2.2.2.2.1) w.1.2 w.q4 (hf 0 (by decide) (by decide))
  rw [hzF] at hE
  refine tz_aload1 (n := 310) (g_at ck_L_law0 82 rfl) rfl (g_ne kd_1) ?_
  refine tz_sv (n := 316) (g_at ck_L_law0 83 rfl) (g_at ck_L_law0 84 rfl) (g_at ck_L_law0 85 rfl) (g_at ck_L_law0 86 rfl) (g_at ck_L_law0 87 rfl) rfl ⟨by omega, by omega, by omega⟩ ?_
  refine tz_aload3 (n := 317) (g_at ck_L_law0 88 rfl) rfl (g_ne kd_122) ?_
  refine tz_cshI3 (n := 320) (μ' := μL_shire) (cb' := cb) (sb' := sb) ml_L_131 mo_L_shire ms_L_shire np_L_shire (g_at ck_L_law0 89 rfl) (wl_shire2 hE c1S) rfl rfl ⟨by decide, by decide⟩ (Nat.le_of_ble_eq_true rfl) (by omega) (by omega) (g_in (g_m3 (List.mem_of_getElem? (i := 131) rfl)) rfl) (fun x5 ρ5 m5 hq => ?_)
  obtain ⟨hL5, hR5, e5, v5, c1, c2⟩ := sh_C w v hL hR hzF hq (fun _ _ _ hz => hz)
  refine tz_istore5 (n := 322) (g_at ck_L_law0 90 rfl) rfl (by decide) g_hpI ?_
  refine tz_aload2 (n := 323) (g_at ck_L_law0 91 rfl) rfl (g_ne kd_84) ?_
  refine tz_sv (n := 329) (g_at ck_L_law0 92 rfl) (g_at ck_L_law0 93 rfl) (g_at ck_L_law0 94 rfl) (g_at ck_L_law0 95 rfl) (g_at ck_L_law0 96 rfl) rfl ⟨by omega, by omega, by omega⟩ ?_
  have hf5 : ∀ k, 0 ≤ k → k < 3 → m5 92 k < 2000000000 := fun k k1 k2 => by rw [v5.2.2.2.2.2.2.2.1 k k1 k2]; have := p.2.2.2.2.2 k k1 k2; omega
  refine tz_cvI1 (n := 332) (μ' := μX11_shire) (cb' := cb) (sb' := sb) ml_L_136 mo_X11_shire mv_X11_shire np_X11_shire kd_84 (g_at ck_L_law0 97 rfl) (mp_shire (sv_rg γ i 1) (sp := ρ 1 4) hzF hL5 hR5 p.2.2.2.1 p.2.2.2.2.1 v5.2.2.2.2.2.1 (hf5 0 (by decide) (by decide)) v5.2.2.2.2.2.2.2.2 rfl rfl rfl (by show upQ (upQ (qL (ρ 1 3) hl tl) (ρ 1 4 + 6) []) (ρ 1 4 + 9) [] (ρ 1 4 + 6) = []; unfold upQ; rw [if_neg (by omega), if_pos rfl]) (if_pos rfl)) rfl rfl rfl ⟨by decide, by decide⟩ (Nat.le_of_ble_eq_true rfl) (by omega) (by omega) (fun x6 ρ6 m6 hq6 => ?_)
  obtain ⟨a1, a2, a3, a4⟩ := sh_M (sp := ρ 1 4) p v5 hL5 c1 c2 hq6
  refine tz_istore6 (n := 334) (g_at ck_L_law0 98 rfl) rfl (by decide) g_hpI ?_
  exact lt_tail (g_at ck_L_law0 99 rfl) (g_at ck_L_law1 0 rfl) (g_at ck_L_law1 1 rfl) (g_at ck_L_law1 2 rfl) (g_at ck_L_law1 5 rfl) (g_at ck_L_law1 6 rfl) (g_at ck_L_law1 7 rfl) (g_at ck_L_law1 8 rfl) (g_at ck_L_law1 9 rfl) (g_at ck_L_law1 10 rfl) (g_at ck_L_law1 11 rfl) (g_at ck_L_law1 12 rfl) (g_at ck_L_law1 13 rfl) (g_at ck_L_law1 16 rfl) rfl a4.2.1 (a1.trans e5.symm) (fun h9 => by rw [a2]; exact a3 (by rw [← e5]; exact h9)) (kk _ _ a4)
theorem lb_fault {l : Launch} {γ : Gh} {ρ m : Mm} {R : RR} {X : XX} {cb sb : Nat} {N i : Int} (hI : IW N ρ m) (hN : N ≤ 1000) (hi : 0 ≤ i ∧ i + 6 ≤ γ.2.2.2.2.1 ∧ γ.2.2.2.2.1 < 2147483648) (kk : ∀ ρ9 m9, IW (N + 1) ρ9 m9 → gT l γ μL_law 60 cb sb R X KK ρ9 m9 2837 [some (vR (-1)), some (vR 1), some (vR 84), some (vR 122), some (vI i), none, none] []) : gT l γ μL_law 60 (cb + 4) (sb + 24) R X KK ρ m 365 [some (vR (-1)), some (vR 1), some (vR 84), some (vR 122), some (vI i), none, none] [] := by
  obtain ⟨hL, hR, Λ, hl, tl, s, n, α, κ, h, s2, n2, α2, κ2, t, tn, pl, f, w, v, p⟩ := hI
  have hW := p.1
  have hσ := p.2.1.1.1
  have hS := w.iS hL
  have hA2 : 0 ≤ m 44 2 ∧ m 44 2 ≤ 40 := by rw [w.2.2.2.1.1]; exact p.2.1.2.1
  have hE3 : 0 ≤ m 46 3 ∧ m 46 3 ≤ 8 := by rw [w.2.2.2.2.1.1]; exact p.2.1.2.2.2.1
  have hf : ∀ k, 0 ≤ k → k < 3 → m 61 k < 2000000000 := fun k k1 k2 => by rw [w.2.2.2.2.2.2.2.2 k k1 k2]; have := p.2.2.2.2.2 k k1 k2; omega
  have hTn : m 1 1 = tn := w.2.2.2.2.2.2.2.1.1
  have hf1 : 0 ≤ m 1 1 ∧ m 1 1 ≤ 700 := by rw [hTn]; exact p.2.2.2.2.1
  refine tz_aload1 (n := 366) (g_at ck_L_law1 17 rfl) rfl (g_ne kd_1) ?_
  refine tz_cvI0 (n := 369) (μ' := μX10_fault) (cb' := cb) (sb' := sb) ml_L_141 mo_X10_fault mv_X10_fault np_X10_fault kd_1 (g_at ck_L_law1 18 rfl) (sp_fault hR) rfl rfl rfl ⟨by decide, by decide⟩ (Nat.le_of_ble_eq_true rfl) (by omega) (by omega) (fun x5 ρ5 m5 hq => ?_)
  obtain ⟨rfl, hR5, hx, rfl⟩ := hq
  have hL5 := hL
  have v5 := v
  refine tz_aload2 (n := 370) (g_at ck_L_law1 19 rfl) rfl (g_ne kd_84) ?_
  refine tz_cvI0 (n := 373) (μ' := μX11_fault) (cb' := cb) (sb' := sb) ml_L_144 mo_X11_fault mv_X11_fault np_X11_fault kd_84 (g_at ck_L_law1 20 rfl) (mp_fault hL5 hR5) rfl rfl rfl ⟨by decide, by decide⟩ (Nat.le_of_ble_eq_true rfl) (by omega) (by omega) (fun x6 ρ6 m6 hq6 => ?_)
  obtain ⟨e, hI⟩ := fa_2 p w v hL hx hq6
  exact tz_eqT (tgt := 2837) e (g_at ck_L_law1 21 rfl) rfl (kk _ _ hI)
theorem lb_count {l : Launch} {γ : Gh} {ρ m : Mm} {R : RR} {X : XX} {cb sb : Nat} {N i : Int} (hI : IW N ρ m) (hN : N ≤ 1000) (hi : 0 ≤ i ∧ i + 6 ≤ γ.2.2.2.2.1 ∧ γ.2.2.2.2.1 < 2147483648) (kk : ∀ ρ9 m9, IW (N + 1) ρ9 m9 → gT l γ μL_law 60 cb sb R X KK ρ9 m9 2837 [some (vR (-1)), some (vR 1), some (vR 84), some (vR 122), some (vI i), none, none] []) : gT l γ μL_law 60 (cb + 4) (sb + 24) R X KK ρ m 378 [some (vR (-1)), some (vR 1), some (vR 84), some (vR 122), some (vI i), none, none] [] := by
  obtain ⟨hL, hR, Λ, hl, tl, s, n, α, κ, h, s2, n2, α2, κ2, t, tn, pl, f, w, v, p⟩ := hI
  have hW := p.1
  have hσ := p.2.1.1.1
  have hS := w.iS hL
  have hA2 : 0 ≤ m 44 2 ∧ m 44 2 ≤ 40 := by rw [w.2.2.2.1.1]; exact p.2.1.2.1
  have hE3 : 0 ≤ m 46 3 ∧ m 46 3 ≤ 8 := by rw [w.2.2.2.2.1.1]; exact p.2.1.2.2.2.1
  have hf : ∀ k, 0 ≤ k → k < 3 → m 61 k < 2000000000 := fun k k1 k2 => by rw [w.2.2.2.2.2.2.2.2 k k1 k2]; have := p.2.2.2.2.2 k k1 k2; omega
  have hTn : m 1 1 = tn := w.2.2.2.2.2.2.2.1.1
  have hf1 : 0 ≤ m 1 1 ∧ m 1 1 ≤ 700 := by rw [hTn]; exact p.2.2.2.2.1
  refine tz_aload1 (n := 379) (g_at ck_L_law1 24 rfl) rfl (g_ne kd_1) ?_
  refine tz_sv (n := 385) (g_at ck_L_law1 25 rfl) (g_at ck_L_law1 26 rfl) (g_at ck_L_law1 27 rfl) (g_at ck_L_law1 28 rfl) (g_at ck_L_law1 29 rfl) rfl ⟨by omega, by omega, by omega⟩ ?_
  refine tz_aload3 (n := 386) (g_at ck_L_law1 30 rfl) rfl (g_ne kd_122) ?_
  refine tz_cshI3 (n := 389) (μ' := μL_count) (cb' := cb) (sb' := sb) ml_L_145 mo_L_count ms_L_count np_L_count (g_at ck_L_law1 31 rfl) (wl_count (sp_count (sv_rg γ i 1) hL rfl hS hR hW w.2.1 w.2.2.1 hσ) c2W) rfl rfl ⟨by decide, by decide⟩ (Nat.le_of_ble_eq_true rfl) (by omega) (by omega) (g_in (g_m4 (List.mem_of_getElem? (i := 220) rfl)) rfl) (fun x5 ρ5 m5 hq => ?_)
  obtain ⟨hL5, hR5, w5, v5, e5, h5⟩ := rd_C (A := (fun x => (if (sv γ i 1) = 0 then Λ 0 0 else if (sv γ i 1) = 1 then Λ 0 1 else if (sv γ i 1) = 2 then s 0 else if (sv γ i 1) = 3 then rdsN Λ (Λ 0 0).toNat else if (sv γ i 1) = 4 then shtN s (Λ 0 0).toNat else if (sv γ i 1) = 5 then homB Λ (sig0 s) else if (sv γ i 1) = 6 then pcN Λ s (Λ 0 0).toNat else if (sv γ i 1) = 7 then (wtN Λ s (2 ^ (Λ 0 0).toNat)).1 else if (sv γ i 1) = 8 then purS (sig0 s) (Λ 0 1).toNat else if (sv γ i 1) = 9 then n else if (sv γ i 1) = 10 then κ 0 0 else if (sv γ i 1) = 11 then tn else f ((sv γ i 1) - 12)) = x)) w v hL hR hq (fun x ρ9 m9 hz => ⟨hz.1, hz.2.1, hz.2.2.1, hz.2.2.2.1, (cnt_l w.2.2.2.1.1.symm w.2.2.2.2.1.1.symm hTn.symm (fun hk => by have hc := cdW_0 hz.2.2.2.1; exact (w.2.2.2.2.2.2.2.2 _ (by omega) (by omega)).symm)).trans hz.2.2.2.2⟩)
  refine tz_istore5 (n := 391) (g_at ck_L_law1 32 rfl) rfl (by decide) g_hpI ?_
  refine tz_aload2 (n := 392) (g_at ck_L_law1 33 rfl) rfl (g_ne kd_84) ?_
  refine tz_sv (n := 398) (g_at ck_L_law1 34 rfl) (g_at ck_L_law1 35 rfl) (g_at ck_L_law1 36 rfl) (g_at ck_L_law1 37 rfl) (g_at ck_L_law1 38 rfl) rfl ⟨by omega, by omega, by omega⟩ ?_
  refine tz_cvI1 (n := 401) (μ' := μX11_count) (cb' := cb) (sb' := sb) ml_L_147 mo_X11_count mv_X11_count np_X11_count kd_84 (g_at ck_L_law1 39 rfl) (mp_count (sv_rg γ i 1) hL5 hR5 hW v5.1 v5.2.1 hσ v5.2.2.2.2.2.2.1.2 p.2.1.1.2) rfl rfl rfl ⟨by decide, by decide⟩ (Nat.le_of_ble_eq_true rfl) (by omega) (by omega) (fun x6 ρ6 m6 hq6 => ?_)
  obtain ⟨a1, a2, a3, a4⟩ := rd_2 (y := 0) (A := (fun x => (if (sv γ i 1) = 0 then Λ 0 0 else if (sv γ i 1) = 1 then Λ 0 1 else if (sv γ i 1) = 2 then s 0 else if (sv γ i 1) = 3 then rdsN Λ (Λ 0 0).toNat else if (sv γ i 1) = 4 then shtN s (Λ 0 0).toNat else if (sv γ i 1) = 5 then homB Λ (sig0 s) else if (sv γ i 1) = 6 then pcN Λ s (Λ 0 0).toNat else if (sv γ i 1) = 7 then (wtN Λ s (2 ^ (Λ 0 0).toNat)).1 else if (sv γ i 1) = 8 then purS (sig0 s) (Λ 0 1).toNat else if (sv γ i 1) = 9 then n else if (sv γ i 1) = 10 then κ 0 0 else if (sv γ i 1) = 11 then tn else f ((sv γ i 1) - 12)) = x)) uE p w5 v5 hL5 h5 ⟨hq6.1, hq6.2.1, hq6.2.2.1, hq6.2.2.2.1, fun hc => (cnt_l v5.2.2.1.1.symm v5.2.2.2.1.1.symm v5.2.2.2.2.2.1.1.symm (fun hk => by have hc9 := cdW_0 hc; exact (v5.2.2.2.2.2.2.2.1 _ (by omega) (by omega)).symm)).trans (hq6.2.2.2.2 hc)⟩
  refine tz_istore6 (n := 403) (g_at ck_L_law1 40 rfl) rfl (by decide) g_hpI ?_
  exact lt_tail (g_at ck_L_law1 41 rfl) (g_at ck_L_law1 42 rfl) (g_at ck_L_law1 43 rfl) (g_at ck_L_law1 44 rfl) (g_at ck_L_law1 47 rfl) (g_at ck_L_law1 48 rfl) (g_at ck_L_law1 49 rfl) (g_at ck_L_law1 50 rfl) (g_at ck_L_law1 51 rfl) (g_at ck_L_law1 52 rfl) (g_at ck_L_law1 53 rfl) (g_at ck_L_law1 54 rfl) (g_at ck_L_law1 55 rfl) (g_at ck_L_law1 58 rfl) rfl a4.2.1 (a1.trans e5.symm) (fun h9 => by rw [a2]; exact a3 (by rw [← e5]; exact h9)) (kk _ _ a4)
theorem lb_crossing {l : Launch} {γ : Gh} {ρ m : Mm} {R : RR} {X : XX} {cb sb : Nat} {N i : Int} (hI : IW N ρ m) (hN : N ≤ 1000) (hi : 0 ≤ i ∧ i + 6 ≤ γ.2.2.2.2.1 ∧ γ.2.2.2.2.1 < 2147483648) (kk : ∀ ρ9 m9, IW (N + 1) ρ9 m9 → gT l γ μL_law 60 cb sb R X KK ρ9 m9 2837 [some (vR (-1)), some (vR 1), some (vR 84), some (vR 122), some (vI i), none, none] []) : gT l γ μL_law 60 (cb + 4) (sb + 24) R X KK ρ m 434 [some (vR (-1)), some (vR 1), some (vR 84), some (vR 122), some (vI i), none, none] [] := by
  obtain ⟨hL, hR, Λ, hl, tl, s, n, α, κ, h, s2, n2, α2, κ2, t, tn, pl, f, w, v, p⟩ := hI
  have hW := p.1
  have hσ := p.2.1.1.1
  have hS := w.iS hL
  have hA2 : 0 ≤ m 44 2 ∧ m 44 2 ≤ 40 := by rw [w.2.2.2.1.1]; exact p.2.1.2.1
  have hE3 : 0 ≤ m 46 3 ∧ m 46 3 ≤ 8 := by rw [w.2.2.2.2.1.1]; exact p.2.1.2.2.2.1
  have hf : ∀ k, 0 ≤ k → k < 3 → m 61 k < 2000000000 := fun k k1 k2 => by rw [w.2.2.2.2.2.2.2.2 k k1 k2]; have := p.2.2.2.2.2 k k1 k2; omega
  have hTn : m 1 1 = tn := w.2.2.2.2.2.2.2.1.1
  have hf1 : 0 ≤ m 1 1 ∧ m 1 1 ≤ 700 := by rw [hTn]; exact p.2.2.2.2.1
  refine tz_aload1 (n := 435) (g_at ck_L_law1 59 rfl) rfl (g_ne kd_1) ?_
  refine tz_sv (n := 441) (g_at ck_L_law1 60 rfl) (g_at ck_L_law1 61 rfl) (g_at ck_L_law1 62 rfl) (g_at ck_L_law1 63 rfl) (g_at ck_L_law1 64 rfl) rfl ⟨by omega, by omega, by omega⟩ ?_
  refine tz_sv (n := 447) (g_at ck_L_law1 65 rfl) (g_at ck_L_law1 66 rfl) (g_at ck_L_law1 67 rfl) (g_at ck_L_law1 68 rfl) (g_at ck_L_law1 69 rfl) rfl ⟨by omega, by omega, by omega⟩ ?_
  refine tz_aload3 (n := 448) (g_at ck_L_law1 70 rfl) rfl (g_ne kd_122) ?_
  refine tz_cshI4 (n := 451) (μ' := μL_crossing) (cb' := cb) (sb' := sb) ml_L_148 mo_L_crossing ms_L_crossing np_L_crossing (g_at ck_L_law1 71 rfl) (wl_crossing (sp_crossing (sv_rg γ i 1) (sv_rg γ i 2) hL rfl hS hR hW w.2.1 w.2.2.1 hσ) (c2q c2C c2W)) rfl rfl ⟨by decide, by decide⟩ (Nat.le_of_ble_eq_true rfl) (by omega) (by omega) (g_in (g_m5 (List.mem_of_getElem? (i := 34) rfl)) rfl) (fun x5 ρ5 m5 hq => ?_)
  obtain ⟨hL5, hR5, w5, v5, e5, h5⟩ := rd_C (A := (fun x => (if (sv γ i 2) = 0 then Λ 1 (sv γ i 1) else if (sv γ i 2) = 1 then Λ 2 (sv γ i 1) else if (sv γ i 2) = 2 then Λ 3 (sv γ i 1) else if (sv γ i 2) = 3 then s (17 + (sv γ i 1)) else if (sv γ i 2) = 4 then stdB Λ (sig0 s) (sv γ i 1) else if (sv γ i 2) = 5 then ptP Λ s (sv γ i 1) (Λ 0 0).toNat else rcP Λ s (sv γ i 1)) = x)) w v hL hR hq (fun _ _ _ hz => hz)
  refine tz_istore5 (n := 453) (g_at ck_L_law1 72 rfl) rfl (by decide) g_hpI ?_
  refine tz_aload2 (n := 454) (g_at ck_L_law1 73 rfl) rfl (g_ne kd_84) ?_
  refine tz_sv (n := 460) (g_at ck_L_law1 74 rfl) (g_at ck_L_law1 75 rfl) (g_at ck_L_law1 76 rfl) (g_at ck_L_law1 77 rfl) (g_at ck_L_law1 78 rfl) rfl ⟨by omega, by omega, by omega⟩ ?_
  refine tz_sv (n := 466) (g_at ck_L_law1 79 rfl) (g_at ck_L_law1 80 rfl) (g_at ck_L_law1 81 rfl) (g_at ck_L_law1 82 rfl) (g_at ck_L_law1 83 rfl) rfl ⟨by omega, by omega, by omega⟩ ?_
  refine tz_cvI2 (n := 469) (μ' := μX11_crossing) (cb' := cb) (sb' := sb) ml_L_151 mo_X11_crossing mv_X11_crossing np_X11_crossing kd_84 (g_at ck_L_law1 84 rfl) (mp_crossing (sv_rg γ i 1) (sv_rg γ i 2) hL5 hR5 hW v5.1 v5.2.1 hσ v5.2.2.2.2.2.2.1.2) rfl rfl rfl ⟨by decide, by decide⟩ (Nat.le_of_ble_eq_true rfl) (by omega) (by omega) (fun x6 ρ6 m6 hq6 => ?_)
  obtain ⟨a1, a2, a3, a4⟩ := rd_2 (y := 0) (A := (fun x => (if (sv γ i 2) = 0 then Λ 1 (sv γ i 1) else if (sv γ i 2) = 1 then Λ 2 (sv γ i 1) else if (sv γ i 2) = 2 then Λ 3 (sv γ i 1) else if (sv γ i 2) = 3 then s (17 + (sv γ i 1)) else if (sv γ i 2) = 4 then stdB Λ (sig0 s) (sv γ i 1) else if (sv γ i 2) = 5 then ptP Λ s (sv γ i 1) (Λ 0 0).toNat else rcP Λ s (sv γ i 1)) = x)) uE p w5 v5 hL5 h5 hq6
  refine tz_istore6 (n := 471) (g_at ck_L_law1 85 rfl) rfl (by decide) g_hpI ?_
  exact lt_tail (g_at ck_L_law1 86 rfl) (g_at ck_L_law1 87 rfl) (g_at ck_L_law1 88 rfl) (g_at ck_L_law1 89 rfl) (g_at ck_L_law1 92 rfl) (g_at ck_L_law1 93 rfl) (g_at ck_L_law1 94 rfl) (g_at ck_L_law1 95 rfl) (g_at ck_L_law2 0 rfl) (g_at ck_L_law2 1 rfl) (g_at ck_L_law2 2 rfl) (g_at ck_L_law2 3 rfl) (g_at ck_L_law2 4 rfl) (g_at ck_L_law2 7 rfl) rfl a4.2.1 (a1.trans e5.symm) (fun h9 => by rw [a2]; exact a3 (by rw [← e5]; exact h9)) (kk _ _ a4)
theorem lb_road {l : Launch} {γ : Gh} {ρ m : Mm} {R : RR} {X : XX} {cb sb : Nat} {N i : Int} (hI : IW N ρ m) (hN : N ≤ 1000) (hi : 0 ≤ i ∧ i + 6 ≤ γ.2.2.2.2.1 ∧ γ.2.2.2.2.1 < 2147483648) (kk : ∀ ρ9 m9, IW (N + 1) ρ9 m9 → gT l γ μL_law 60 cb sb R X KK ρ9 m9 2837 [some (vR (-1)), some (vR 1), some (vR 84), some (vR 122), some (vI i), none, none] []) : gT l γ μL_law 60 (cb + 4) (sb + 24) R X KK ρ m 502 [some (vR (-1)), some (vR 1), some (vR 84), some (vR 122), some (vI i), none, none] [] := by
  obtain ⟨hL, hR, Λ, hl, tl, s, n, α, κ, h, s2, n2, α2, κ2, t, tn, pl, f, w, v, p⟩ := hI
  have hW := p.1
  have hσ := p.2.1.1.1
  have hS := w.iS hL
  have hA2 : 0 ≤ m 44 2 ∧ m 44 2 ≤ 40 := by rw [w.2.2.2.1.1]; exact p.2.1.2.1
  have hE3 : 0 ≤ m 46 3 ∧ m 46 3 ≤ 8 := by rw [w.2.2.2.2.1.1]; exact p.2.1.2.2.2.1
  have hf : ∀ k, 0 ≤ k → k < 3 → m 61 k < 2000000000 := fun k k1 k2 => by rw [w.2.2.2.2.2.2.2.2 k k1 k2]; have := p.2.2.2.2.2 k k1 k2; omega
  have hTn : m 1 1 = tn := w.2.2.2.2.2.2.2.1.1
  have hf1 : 0 ≤ m 1 1 ∧ m 1 1 ≤ 700 := by rw [hTn]; exact p.2.2.2.2.1
  refine tz_aload1 (n := 503) (g_at ck_L_law2 8 rfl) rfl (g_ne kd_1) ?_
  refine tz_sv (n := 509) (g_at ck_L_law2 9 rfl) (g_at ck_L_law2 10 rfl) (g_at ck_L_law2 11 rfl) (g_at ck_L_law2 12 rfl) (g_at ck_L_law2 13 rfl) rfl ⟨by omega, by omega, by omega⟩ ?_
  refine tz_sv (n := 515) (g_at ck_L_law2 14 rfl) (g_at ck_L_law2 15 rfl) (g_at ck_L_law2 16 rfl) (g_at ck_L_law2 17 rfl) (g_at ck_L_law2 18 rfl) rfl ⟨by omega, by omega, by omega⟩ ?_
  refine tz_sv (n := 521) (g_at ck_L_law2 19 rfl) (g_at ck_L_law2 20 rfl) (g_at ck_L_law2 21 rfl) (g_at ck_L_law2 22 rfl) (g_at ck_L_law2 23 rfl) rfl ⟨by omega, by omega, by omega⟩ ?_
  refine tz_aload3 (n := 522) (g_at ck_L_law2 24 rfl) rfl (g_ne kd_122) ?_
  refine tz_cshI5 (n := 525) (μ' := μL_road) (cb' := cb) (sb' := sb) ml_L_152 mo_L_road ms_L_road np_L_road (g_at ck_L_law2 25 rfl) (wl_road (sp_road (sv_rg γ i 1) (sv_rg γ i 2) (sv_rg γ i 3) hL rfl hS hR hW w.2.1 w.2.2.1 hσ) (c2q c2R c2W)) rfl rfl ⟨by decide, by decide⟩ (Nat.le_of_ble_eq_true rfl) (by omega) (by omega) (g_in (g_m5 (List.mem_of_getElem? (i := 47) rfl)) rfl) (fun x5 ρ5 m5 hq => ?_)
  obtain ⟨hL5, hR5, w5, v5, e5, h5⟩ := rd_C (A := (fun x => (if (sv γ i 3) = 0 then Λ 4 ((sv γ i 1) * 5 + (sv γ i 2)) else shutB (s (26 + (sv γ i 1))) (sv γ i 2)) = x)) w v hL hR hq (fun _ _ _ hz => hz)
  refine tz_istore5 (n := 527) (g_at ck_L_law2 26 rfl) rfl (by decide) g_hpI ?_
  refine tz_aload2 (n := 528) (g_at ck_L_law2 27 rfl) rfl (g_ne kd_84) ?_
  refine tz_sv (n := 534) (g_at ck_L_law2 28 rfl) (g_at ck_L_law2 29 rfl) (g_at ck_L_law2 30 rfl) (g_at ck_L_law2 31 rfl) (g_at ck_L_law2 32 rfl) rfl ⟨by omega, by omega, by omega⟩ ?_
  refine tz_sv (n := 540) (g_at ck_L_law2 33 rfl) (g_at ck_L_law2 34 rfl) (g_at ck_L_law2 35 rfl) (g_at ck_L_law2 36 rfl) (g_at ck_L_law2 37 rfl) rfl ⟨by omega, by omega, by omega⟩ ?_
  refine tz_sv (n := 546) (g_at ck_L_law2 38 rfl) (g_at ck_L_law2 39 rfl) (g_at ck_L_law2 40 rfl) (g_at ck_L_law2 41 rfl) (g_at ck_L_law2 42 rfl) rfl ⟨by omega, by omega, by omega⟩ ?_
  refine tz_cvI3 (n := 549) (μ' := μX11_road) (cb' := cb) (sb' := sb) ml_L_155 mo_X11_road mv_X11_road np_X11_road kd_84 (g_at ck_L_law2 43 rfl) (mp_road (sv_rg γ i 1) (sv_rg γ i 2) (sv_rg γ i 3) hL5 hR5 hW v5.1 v5.2.1 hσ v5.2.2.2.2.2.2.1.2) rfl rfl rfl ⟨by decide, by decide⟩ (Nat.le_of_ble_eq_true rfl) (by omega) (by omega) (fun x6 ρ6 m6 hq6 => ?_)
  obtain ⟨a1, a2, a3, a4⟩ := rd_2 (y := 0) (A := (fun x => (if (sv γ i 3) = 0 then Λ 4 ((sv γ i 1) * 5 + (sv γ i 2)) else shutB (s (26 + (sv γ i 1))) (sv γ i 2)) = x)) uE p w5 v5 hL5 h5 hq6
  refine tz_istore6 (n := 551) (g_at ck_L_law2 44 rfl) rfl (by decide) g_hpI ?_
  exact lt_tail (g_at ck_L_law2 45 rfl) (g_at ck_L_law2 46 rfl) (g_at ck_L_law2 47 rfl) (g_at ck_L_law2 48 rfl) (g_at ck_L_law2 51 rfl) (g_at ck_L_law2 52 rfl) (g_at ck_L_law2 53 rfl) (g_at ck_L_law2 54 rfl) (g_at ck_L_law2 55 rfl) (g_at ck_L_law2 56 rfl) (g_at ck_L_law2 57 rfl) (g_at ck_L_law2 58 rfl) (g_at ck_L_law2 59 rfl) (g_at ck_L_law2 62 rfl) rfl a4.2.1 (a1.trans e5.symm) (fun h9 => by rw [a2]; exact a3 (by rw [← e5]; exact h9)) (kk _ _ a4)
theorem lb_person {l : Launch} {γ : Gh} {ρ m : Mm} {R : RR} {X : XX} {cb sb : Nat} {N i : Int} (hI : IW N ρ m) (hN : N ≤ 1000) (hi : 0 ≤ i ∧ i + 6 ≤ γ.2.2.2.2.1 ∧ γ.2.2.2.2.1 < 2147483648) (kk : ∀ ρ9 m9, IW (N + 1) ρ9 m9 → gT l γ μL_law 60 cb sb R X KK ρ9 m9 2837 [some (vR (-1)), some (vR 1), some (vR 84), some (vR 122), some (vI i), none, none] []) : gT l γ μL_law 60 (cb + 4) (sb + 24) R X KK ρ m 582 [some (vR (-1)), some (vR 1), some (vR 84), some (vR 122), some (vI i), none, none] [] := by
  obtain ⟨hL, hR, Λ, hl, tl, s, n, α, κ, h, s2, n2, α2, κ2, t, tn, pl, f, w, v, p⟩ := hI
  have hW := p.1
  have hσ := p.2.1.1.1
  have hS := w.iS hL
  have hA2 : 0 ≤ m 44 2 ∧ m 44 2 ≤ 40 := by rw [w.2.2.2.1.1]; exact p.2.1.2.1
  have hE3 : 0 ≤ m 46 3 ∧ m 46 3 ≤ 8 := by rw [w.2.2.2.2.1.1]; exact p.2.1.2.2.2.1
  have hf : ∀ k, 0 ≤ k → k < 3 → m 61 k < 2000000000 := fun k k1 k2 => by rw [w.2.2.2.2.2.2.2.2 k k1 k2]; have := p.2.2.2.2.2 k k1 k2; omega
  have hTn : m 1 1 = tn := w.2.2.2.2.2.2.2.1.1
  have hf1 : 0 ≤ m 1 1 ∧ m 1 1 ≤ 700 := by rw [hTn]; exact p.2.2.2.2.1
  refine tz_aload1 (n := 583) (g_at ck_L_law2 63 rfl) rfl (g_ne kd_1) ?_
  refine tz_sv (n := 589) (g_at ck_L_law2 64 rfl) (g_at ck_L_law2 65 rfl) (g_at ck_L_law2 66 rfl) (g_at ck_L_law2 67 rfl) (g_at ck_L_law2 68 rfl) rfl ⟨by omega, by omega, by omega⟩ ?_
  refine tz_sv (n := 595) (g_at ck_L_law2 69 rfl) (g_at ck_L_law2 70 rfl) (g_at ck_L_law2 71 rfl) (g_at ck_L_law2 72 rfl) (g_at ck_L_law3 0 rfl) rfl ⟨by omega, by omega, by omega⟩ ?_
  refine tz_aload3 (n := 596) (g_at ck_L_law3 1 rfl) rfl (g_ne kd_122) ?_
  refine tz_cshI4 (n := 599) (μ' := μL_person) (cb' := cb) (sb' := sb) ml_L_156 mo_L_person ms_L_person np_L_person (g_at ck_L_law3 2 rfl) (wl_person (sp_person (sv_rg γ i 1) (sv_rg γ i 2) hL rfl hS hR hW w.2.1 w.2.2.1 hσ) (c2q c2P c2W)) rfl rfl ⟨by decide, by decide⟩ (Nat.le_of_ble_eq_true rfl) (by omega) (by omega) (g_in (g_m5 (List.mem_of_getElem? (i := 61) rfl)) rfl) (fun x5 ρ5 m5 hq => ?_)
  obtain ⟨hL5, hR5, w5, v5, e5, h5⟩ := rd_C (A := (fun x => (0 ≤ (sv γ i 1) ∧ (sv γ i 1) < Λ 0 1) ∧ ((sv γ i 2) ≠ 3 → (if (sv γ i 2) = 0 then s (1 + (sv γ i 1)) else if (sv γ i 2) = 1 then Λ 5 (sv γ i 1) else if (sv γ i 2) = 2 then s (9 + (sv γ i 1)) else bcJ (stdB Λ (sig0 s) (s (1 + (sv γ i 1)))) - 1) = x) ∧ ((sv γ i 2) = 3 → ∃ T : Int → Int, LodgeOK Λ s T ∧ bdP Λ s T (sv γ i 1) = x))) w v hL hR hq (fun x ρ9 m9 hz => ⟨hz.1, hz.2.1, hz.2.2.1, hz.2.2.2.1, cdP_0 (sq_l hz.2.2.2.1), hz.2.2.2.2⟩)
  refine tz_istore5 (n := 601) (g_at ck_L_law3 3 rfl) rfl (by decide) g_hpI ?_
  refine tz_aload2 (n := 602) (g_at ck_L_law3 4 rfl) rfl (g_ne kd_84) ?_
  refine tz_sv (n := 608) (g_at ck_L_law3 5 rfl) (g_at ck_L_law3 6 rfl) (g_at ck_L_law3 7 rfl) (g_at ck_L_law3 8 rfl) (g_at ck_L_law3 9 rfl) rfl ⟨by omega, by omega, by omega⟩ ?_
  refine tz_sv (n := 614) (g_at ck_L_law3 10 rfl) (g_at ck_L_law3 11 rfl) (g_at ck_L_law3 12 rfl) (g_at ck_L_law3 13 rfl) (g_at ck_L_law3 14 rfl) rfl ⟨by omega, by omega, by omega⟩ ?_
  refine tz_cvI2 (n := 617) (μ' := μX11_person) (cb' := cb) (sb' := sb) ml_L_158 mo_X11_person mv_X11_person np_X11_person kd_84 (g_at ck_L_law3 15 rfl) (mp_person (sv_rg γ i 1) (sv_rg γ i 2) hL5 hR5 hW v5.1 v5.2.1 hσ v5.2.2.2.2.2.2.1.2) rfl rfl rfl ⟨by decide, by decide⟩ (Nat.le_of_ble_eq_true rfl) (by omega) (by omega) (fun x6 ρ6 m6 hq6 => ?_)
  obtain ⟨a1, a2, a3, a4⟩ := rd_2 (y := 0) (A := (fun x => (0 ≤ (sv γ i 1) ∧ (sv γ i 1) < Λ 0 1) ∧ ((sv γ i 2) ≠ 3 → (if (sv γ i 2) = 0 then s (1 + (sv γ i 1)) else if (sv γ i 2) = 1 then Λ 5 (sv γ i 1) else if (sv γ i 2) = 2 then s (9 + (sv γ i 1)) else bcJ (stdB Λ (sig0 s) (s (1 + (sv γ i 1)))) - 1) = x) ∧ ((sv γ i 2) = 3 → ∃ T : Int → Int, LodgeOK Λ s T ∧ bdP Λ s T (sv γ i 1) = x))) (uPer hW) p w5 v5 hL5 h5 ⟨hq6.1, hq6.2.1, hq6.2.2.1, hq6.2.2.2.1, fun hc => ⟨cdP_0 (sq_l hc), hq6.2.2.2.2 hc⟩⟩
  refine tz_istore6 (n := 619) (g_at ck_L_law3 16 rfl) rfl (by decide) g_hpI ?_
  exact lt_tail (g_at ck_L_law3 17 rfl) (g_at ck_L_law3 18 rfl) (g_at ck_L_law3 19 rfl) (g_at ck_L_law3 20 rfl) (g_at ck_L_law3 23 rfl) (g_at ck_L_law3 24 rfl) (g_at ck_L_law3 25 rfl) (g_at ck_L_law3 26 rfl) (g_at ck_L_law3 27 rfl) (g_at ck_L_law3 28 rfl) (g_at ck_L_law3 29 rfl) (g_at ck_L_law3 30 rfl) (g_at ck_L_law3 31 rfl) (g_at ck_L_law3 34 rfl) rfl a4.2.1 (a1.trans e5.symm) (fun h9 => by rw [a2]; exact a3 (by rw [← e5]; exact h9)) (kk _ _ a4)
theorem lb_days {l : Launch} {γ : Gh} {ρ m : Mm} {R : RR} {X : XX} {cb sb : Nat} {N i : Int} (hI : IW N ρ m) (hN : N ≤ 1000) (hi : 0 ≤ i ∧ i + 6 ≤ γ.2.2.2.2.1 ∧ γ.2.2.2.2.1 < 2147483648) (kk : ∀ ρ9 m9, IW (N + 1) ρ9 m9 → gT l γ μL_law 60 cb sb R X KK ρ9 m9 2837 [some (vR (-1)), some (vR 1), some (vR 84), some (vR 122), some (vI i), none, none] []) : gT l γ μL_law 60 (cb + 4) (sb + 24) R X KK ρ m 650 [some (vR (-1)), some (vR 1), some (vR 84), some (vR 122), some (vI i), none, none] [] := by
  obtain ⟨hL, hR, Λ, hl, tl, s, n, α, κ, h, s2, n2, α2, κ2, t, tn, pl, f, w, v, p⟩ := hI
  have hW := p.1
  have hσ := p.2.1.1.1
  have hS := w.iS hL
  have hA2 : 0 ≤ m 44 2 ∧ m 44 2 ≤ 40 := by rw [w.2.2.2.1.1]; exact p.2.1.2.1
  have hE3 : 0 ≤ m 46 3 ∧ m 46 3 ≤ 8 := by rw [w.2.2.2.2.1.1]; exact p.2.1.2.2.2.1
  have hf : ∀ k, 0 ≤ k → k < 3 → m 61 k < 2000000000 := fun k k1 k2 => by rw [w.2.2.2.2.2.2.2.2 k k1 k2]; have := p.2.2.2.2.2 k k1 k2; omega
  have hTn : m 1 1 = tn := w.2.2.2.2.2.2.2.1.1
  have hf1 : 0 ≤ m 1 1 ∧ m 1 1 ≤ 700 := by rw [hTn]; exact p.2.2.2.2.1
  refine tz_aload1 (n := 651) (g_at ck_L_law3 35 rfl) rfl (g_ne kd_1) ?_
  refine tz_sv (n := 657) (g_at ck_L_law3 36 rfl) (g_at ck_L_law3 37 rfl) (g_at ck_L_law3 38 rfl) (g_at ck_L_law3 39 rfl) (g_at ck_L_law3 40 rfl) rfl ⟨by omega, by omega, by omega⟩ ?_
  refine tz_cvI1 (n := 660) (μ' := μX10_days) (cb' := cb) (sb' := sb) ml_L_159 mo_X10_days mv_X10_days np_X10_days kd_1 (g_at ck_L_law3 41 rfl) (sp_days (sv_rg γ i 1) hL rfl hS hR hW w.2.1 w.2.2.1 hσ w.2.2.2.1.2.1 hA2 hf (w.keep p.2.1.2.1).2.2.1 (w.keep p.2.1.2.1).2.1) rfl rfl rfl ⟨by decide, by decide⟩ (Nat.le_of_ble_eq_true rfl) (by omega) (by omega) (fun x5 ρ5 m5 hq => ?_)
  obtain ⟨hL5, hR5, v5, c1, c2⟩ := da_C w v hL p.2.1.2.1 hq
  have hf5 : ∀ k, 0 ≤ k → k < 3 → m5 92 k < 2000000000 := fun k k1 k2 => by rw [v5.2.2.2.2.2.2.2.1 k k1 k2]; have := p.2.2.2.2.2 k k1 k2; omega
  refine tz_aload2 (n := 661) (g_at ck_L_law3 42 rfl) rfl (g_ne kd_84) ?_
  refine tz_sv (n := 667) (g_at ck_L_law3 43 rfl) (g_at ck_L_law3 44 rfl) (g_at ck_L_law3 45 rfl) (g_at ck_L_law3 46 rfl) (g_at ck_L_law3 47 rfl) rfl ⟨by omega, by omega, by omega⟩ ?_
  refine tz_cvI1 (n := 670) (μ' := μX11_days) (cb' := cb) (sb' := sb) ml_L_162 mo_X11_days mv_X11_days np_X11_days kd_84 (g_at ck_L_law3 48 rfl) (mp_days (sv_rg γ i 1) hL5 hR5 hW v5.1 v5.2.1 hσ v5.2.2.2.2.2.2.1.2 v5.2.2.1 p.2.1.2.1 hf5) rfl rfl rfl ⟨by decide, by decide⟩ (Nat.le_of_ble_eq_true rfl) (by omega) (by omega) (fun x6 ρ6 m6 hq6 => ?_)
  obtain ⟨e, hI⟩ := da_M p v5 hL5 c1 c2 (fun hp => p.2.1.1.days hW hp) hq6
  exact tz_eqT (tgt := 2837) e (g_at ck_L_law3 49 rfl) rfl (kk _ _ hI)
theorem lb_turn {l : Launch} {γ : Gh} {ρ m : Mm} {R : RR} {X : XX} {cb sb : Nat} {N i : Int} (hI : IW N ρ m) (hN : N ≤ 1000) (hi : 0 ≤ i ∧ i + 6 ≤ γ.2.2.2.2.1 ∧ γ.2.2.2.2.1 < 2147483648) (kk : ∀ ρ9 m9, IW (N + 1) ρ9 m9 → gT l γ μL_law 60 cb sb R X KK ρ9 m9 2837 [some (vR (-1)), some (vR 1), some (vR 84), some (vR 122), some (vI i), none, none] []) : gT l γ μL_law 60 (cb + 4) (sb + 24) R X KK ρ m 675 [some (vR (-1)), some (vR 1), some (vR 84), some (vR 122), some (vI i), none, none] [] := by
  obtain ⟨hL, hR, Λ, hl, tl, s, n, α, κ, h, s2, n2, α2, κ2, t, tn, pl, f, w, v, p⟩ := hI
  have hW := p.1
  have hσ := p.2.1.1.1
  have hS := w.iS hL
  have hA2 : 0 ≤ m 44 2 ∧ m 44 2 ≤ 40 := by rw [w.2.2.2.1.1]; exact p.2.1.2.1
  have hE3 : 0 ≤ m 46 3 ∧ m 46 3 ≤ 8 := by rw [w.2.2.2.2.1.1]; exact p.2.1.2.2.2.1
  have hf : ∀ k, 0 ≤ k → k < 3 → m 61 k < 2000000000 := fun k k1 k2 => by rw [w.2.2.2.2.2.2.2.2 k k1 k2]; have := p.2.2.2.2.2 k k1 k2; omega
  have hTn : m 1 1 = tn := w.2.2.2.2.2.2.2.1.1
  have hf1 : 0 ≤ m 1 1 ∧ m 1 1 ≤ 700 := by rw [hTn]; exact p.2.2.2.2.1
  refine tz_aload1 (n := 676) (g_at ck_L_law3 52 rfl) rfl (g_ne kd_1) ?_
  refine tz_sv (n := 682) (g_at ck_L_law3 53 rfl) (g_at ck_L_law3 54 rfl) (g_at ck_L_law3 55 rfl) (g_at ck_L_law3 56 rfl) (g_at ck_L_law3 57 rfl) rfl ⟨by omega, by omega, by omega⟩ ?_
  refine tz_sv (n := 688) (g_at ck_L_law3 58 rfl) (g_at ck_L_law3 59 rfl) (g_at ck_L_law3 60 rfl) (g_at ck_L_law3 61 rfl) (g_at ck_L_law4 0 rfl) rfl ⟨by omega, by omega, by omega⟩ ?_
  refine tz_aload3 (n := 689) (g_at ck_L_law4 1 rfl) rfl (g_ne kd_122) ?_
  refine tz_cshI4 (n := 692) (μ' := μL_turn) (cb' := cb) (sb' := sb) ml_L_163 mo_L_turn ms_L_turn np_L_turn (g_at ck_L_law4 2 rfl) (wl_turn (sp_turn (sv_rg γ i 1) (sv_rg γ i 2) hL rfl hS hR hW w.2.1 w.2.2.1 hσ w.2.2.2.1.2.1 hA2 hf) c2R) rfl rfl ⟨by decide, by decide⟩ (Nat.le_of_ble_eq_true rfl) (by omega) (by omega) (g_in (g_m5 (List.mem_of_getElem? (i := 110) rfl)) rfl) (fun x5 ρ5 m5 hq => ?_)
  have hn := p.2.1.2.1
  have hw0 := hW.1
  have hw1 := hW.2.1
  obtain ⟨hL5, hR5, e5, v5, c1, c2, c3⟩ := ac_C (P := s (17 + (sv γ i 1)) = (sv γ i 2)) (e0 := (-1)) (e := s (17 + (sv γ i 1))) (kk := 1) (Mk := wr (actKeep m 44 39) 42 (sv γ i 1) (sv γ i 2)) (s9 := up s (17 + (sv γ i 1)) (sv γ i 2)) w v hL hR (by decide) hq (fun x ρ9 m9 hz => ⟨hz.1, hz.2.1, hz.2.2.1, hz.2.2.2.1, fun hp => ⟨(hz.2.2.2.2 hp).1.symm, (hz.2.2.2.2 hp).2⟩⟩) (fun hc _ => by
    have hb := cdR_0 hc
    exact (w.keep hn).mom (fun a ha => wr_ne (by simp at ha; omega)) (show MomC (wr (actKeep m 44 39) (39 + 3) (sv γ i 1) (sv γ i 2)) 39 _ from (w.keep hn).2.2.1.w3 ⟨hb.1, by omega⟩)) (fun a ha => by rw [wr_ne (by omega), keep_fr a (by simp; omega)])
  refine tz_istore5 (n := 694) (g_at ck_L_law4 3 rfl) rfl (by decide) g_hpI ?_
  refine tz_aload2 (n := 695) (g_at ck_L_law4 4 rfl) rfl (g_ne kd_84) ?_
  refine tz_sv (n := 701) (g_at ck_L_law4 5 rfl) (g_at ck_L_law4 6 rfl) (g_at ck_L_law4 7 rfl) (g_at ck_L_law4 8 rfl) (g_at ck_L_law4 9 rfl) rfl ⟨by omega, by omega, by omega⟩ ?_
  refine tz_sv (n := 707) (g_at ck_L_law4 10 rfl) (g_at ck_L_law4 11 rfl) (g_at ck_L_law4 12 rfl) (g_at ck_L_law4 13 rfl) (g_at ck_L_law4 14 rfl) rfl ⟨by omega, by omega, by omega⟩ ?_
  have hf5 : ∀ k, 0 ≤ k → k < 3 → m5 92 k < 2000000000 := fun k k1 k2 => by rw [v5.2.2.2.2.2.2.2.1 k k1 k2]; have := p.2.2.2.2.2 k k1 k2; omega
  refine tz_cvI2 (n := 710) (μ' := μX11_turn) (cb' := cb) (sb' := sb) ml_L_165 mo_X11_turn mv_X11_turn np_X11_turn kd_84 (g_at ck_L_law4 15 rfl) (mp_turn (sv_rg γ i 1) (sv_rg γ i 2) hL5 hR5 hW v5.1 v5.2.1 hσ v5.2.2.2.2.2.2.1.2 v5.2.2.1 p.2.1.2.1 hf5) rfl rfl rfl ⟨by decide, by decide⟩ (Nat.le_of_ble_eq_true rfl) (by omega) (by omega) (fun x6 ρ6 m6 hq6 => ?_)
  obtain ⟨a1, a2, a3, a4⟩ := ac_M (P := s (17 + (sv γ i 1)) = (sv γ i 2)) (e0 := (-1)) (e := s (17 + (sv γ i 1))) (kk := 1) (s9 := up s (17 + (sv γ i 1)) (sv γ i 2)) p v5 hL5 (by decide) c1 c2 c3 (fun hc hnp => p.2.1.1.arm hW ⟨(cdR_0 hc).1, (cdR_0 hc).2.1⟩ (cdR_0 hc).2.2) (Or.inr (Or.inl rfl)) ⟨hq6.1, hq6.2.1, hq6.2.2.1, hq6.2.2.2.1, fun hc => ⟨(hq6.2.2.2.2 hc).1, fun hp => ⟨((hq6.2.2.2.2 hc).2 hp).1.symm, ((hq6.2.2.2.2 hc).2 hp).2⟩⟩⟩
  refine tz_istore6 (n := 712) (g_at ck_L_law4 16 rfl) rfl (by decide) g_hpI ?_
  exact lt_tail (g_at ck_L_law4 17 rfl) (g_at ck_L_law4 18 rfl) (g_at ck_L_law4 19 rfl) (g_at ck_L_law4 20 rfl) (g_at ck_L_law4 23 rfl) (g_at ck_L_law4 24 rfl) (g_at ck_L_law4 25 rfl) (g_at ck_L_law4 26 rfl) (g_at ck_L_law4 27 rfl) (g_at ck_L_law4 28 rfl) (g_at ck_L_law4 29 rfl) (g_at ck_L_law4 30 rfl) (g_at ck_L_law4 31 rfl) (g_at ck_L_law4 34 rfl) rfl a4.2.1 (a1.trans e5.symm) (fun h9 => by rw [a2]; exact a3 (by rw [← e5]; exact h9)) (kk _ _ a4)
theorem lb_shut {l : Launch} {γ : Gh} {ρ m : Mm} {R : RR} {X : XX} {cb sb : Nat} {N i : Int} (hI : IW N ρ m) (hN : N ≤ 1000) (hi : 0 ≤ i ∧ i + 6 ≤ γ.2.2.2.2.1 ∧ γ.2.2.2.2.1 < 2147483648) (kk : ∀ ρ9 m9, IW (N + 1) ρ9 m9 → gT l γ μL_law 60 cb sb R X KK ρ9 m9 2837 [some (vR (-1)), some (vR 1), some (vR 84), some (vR 122), some (vI i), none, none] []) : gT l γ μL_law 60 (cb + 4) (sb + 24) R X KK ρ m 743 [some (vR (-1)), some (vR 1), some (vR 84), some (vR 122), some (vI i), none, none] [] := by
  obtain ⟨hL, hR, Λ, hl, tl, s, n, α, κ, h, s2, n2, α2, κ2, t, tn, pl, f, w, v, p⟩ := hI
  have hW := p.1
  have hσ := p.2.1.1.1
  have hS := w.iS hL
  have hA2 : 0 ≤ m 44 2 ∧ m 44 2 ≤ 40 := by rw [w.2.2.2.1.1]; exact p.2.1.2.1
  have hE3 : 0 ≤ m 46 3 ∧ m 46 3 ≤ 8 := by rw [w.2.2.2.2.1.1]; exact p.2.1.2.2.2.1
  have hf : ∀ k, 0 ≤ k → k < 3 → m 61 k < 2000000000 := fun k k1 k2 => by rw [w.2.2.2.2.2.2.2.2 k k1 k2]; have := p.2.2.2.2.2 k k1 k2; omega
  have hTn : m 1 1 = tn := w.2.2.2.2.2.2.2.1.1
  have hf1 : 0 ≤ m 1 1 ∧ m 1 1 ≤ 700 := by rw [hTn]; exact p.2.2.2.2.1
  refine tz_aload1 (n := 744) (g_at ck_L_law4 35 rfl) rfl (g_ne kd_1) ?_
  refine tz_sv (n := 750) (g_at ck_L_law4 36 rfl) (g_at ck_L_law4 37 rfl) (g_at ck_L_law4 38 rfl) (g_at ck_L_law4 39 rfl) (g_at ck_L_law4 40 rfl) rfl ⟨by omega, by omega, by omega⟩ ?_
  refine tz_sv (n := 756) (g_at ck_L_law4 41 rfl) (g_at ck_L_law4 42 rfl) (g_at ck_L_law4 43 rfl) (g_at ck_L_law4 44 rfl) (g_at ck_L_law4 45 rfl) rfl ⟨by omega, by omega, by omega⟩ ?_
  refine tz_sv (n := 762) (g_at ck_L_law4 46 rfl) (g_at ck_L_law4 47 rfl) (g_at ck_L_law4 48 rfl) (g_at ck_L_law4 49 rfl) (g_at ck_L_law4 50 rfl) rfl ⟨by omega, by omega, by omega⟩ ?_
  refine tz_if_eq (n := 765) (tgt := 769) (g_at ck_L_law4 51 rfl) rfl rfl (sv_rg γ i 3) (fun h3 => ?_) (fun h3 => ?_)
  · skip
    refine tz_iconst (n := 770) (g_at ck_L_law5 0 rfl) rfl ?_
    have hb : (0 : Int) = 0 ∨ (0 : Int) = 1 := by decide
    refine tz_aload3 (n := 771) (g_at ck_L_law5 1 rfl) rfl (g_ne kd_122) ?_
    refine tz_cshI5 (n := 774) (μ' := μL_shut) (cb' := cb) (sb' := sb) ml_L_166 mo_L_shut ms_L_shut np_L_shut (g_at ck_L_law5 2 rfl) (wl_shut (sp_shut (sv_rg γ i 1) (sv_rg γ i 2) hb hL rfl hS hR hW w.2.1 w.2.2.1 hσ w.2.2.2.1.2.1 hA2 hf) c2R (fun x ρ9 m9 hz => by
      by_cases hp : shutB (s (26 + (sv γ i 1))) (sv γ i 2) = 0
      · exact Or.inl (hz.2.2.2.1 hp).1
      · exact Or.inr (hz.2.2.2.2 hp).1)) rfl rfl ⟨by decide, by decide⟩ (Nat.le_of_ble_eq_true rfl) (by omega) (by omega) (g_in (g_m5 (List.mem_of_getElem? (i := 117) rfl)) rfl) (fun x5 ρ5 m5 hq => ?_)
    have hn := p.2.1.2.1
    have hw0 := hW.1
    obtain ⟨hL5, hR5, e5, v5, c1, c2, c3⟩ := ac_C (P := shutB (s (26 + (sv γ i 1))) (sv γ i 2) = 0) (e0 := 0) (e := 1) (kk := 1) (Mk := wr (actKeep m 44 39) 43 (sv γ i 1) (bXor (s (26 + (sv γ i 1))) (bShl 1 (sv γ i 2)))) (s9 := up s (26 + (sv γ i 1)) (bXor (s (26 + (sv γ i 1))) (bShl 1 (sv γ i 2)))) w v hL hR (by decide) hq (fun _ _ _ hz => hz) (fun hc _ => by
      have hb := cdR_0 hc
      exact (w.keep hn).mom (fun a ha => wr_ne (by simp at ha; omega)) (show MomC (wr (actKeep m 44 39) (39 + 4) (sv γ i 1) (bXor (s (26 + (sv γ i 1))) (bShl 1 (sv γ i 2)))) 39 _ from (w.keep hn).2.2.1.w4 ⟨hb.1, by omega⟩)) (fun a ha => by rw [wr_ne (by omega), keep_fr a (by simp; omega)])
    refine tz_istore5 (n := 776) (g_at ck_L_law5 3 rfl) rfl (by decide) g_hpI ?_
    refine tz_aload2 (n := 777) (g_at ck_L_law5 4 rfl) rfl (g_ne kd_84) ?_
    refine tz_sv (n := 783) (g_at ck_L_law5 5 rfl) (g_at ck_L_law5 6 rfl) (g_at ck_L_law5 7 rfl) (g_at ck_L_law5 8 rfl) (g_at ck_L_law5 9 rfl) rfl ⟨by omega, by omega, by omega⟩ ?_
    refine tz_sv (n := 789) (g_at ck_L_law5 10 rfl) (g_at ck_L_law5 11 rfl) (g_at ck_L_law5 12 rfl) (g_at ck_L_law5 13 rfl) (g_at ck_L_law5 14 rfl) rfl ⟨by omega, by omega, by omega⟩ ?_
    refine tz_sv (n := 795) (g_at ck_L_law5 15 rfl) (g_at ck_L_law5 16 rfl) (g_at ck_L_law5 17 rfl) (g_at ck_L_law5 18 rfl) (g_at ck_L_law5 19 rfl) rfl ⟨by omega, by omega, by omega⟩ ?_
    refine tz_if_eq (n := 798) (tgt := 802) (g_at ck_L_law5 20 rfl) rfl rfl (sv_rg γ i 3) (fun _ => ?_) (fun h4 => absurd h3 h4)
    refine tz_iconst (n := 803) (g_at ck_L_law5 23 rfl) rfl ?_
    have hf5 : ∀ k, 0 ≤ k → k < 3 → m5 92 k < 2000000000 := fun k k1 k2 => by rw [v5.2.2.2.2.2.2.2.1 k k1 k2]; have := p.2.2.2.2.2 k k1 k2; omega
    refine tz_cvI3 (n := 806) (μ' := μX11_shut) (cb' := cb) (sb' := sb) ml_L_169 mo_X11_shut mv_X11_shut np_X11_shut kd_84 (g_at ck_L_law5 24 rfl) (mp_shut (sv_rg γ i 1) (sv_rg γ i 2) hb hL5 hR5 hW v5.1 v5.2.1 hσ v5.2.2.2.2.2.2.1.2 v5.2.2.1 p.2.1.2.1 hf5) rfl rfl rfl ⟨by decide, by decide⟩ (Nat.le_of_ble_eq_true rfl) (by omega) (by omega) (fun x6 ρ6 m6 hq6 => ?_)
    obtain ⟨a1, a2, a3, a4⟩ := ac_M (P := shutB (s (26 + (sv γ i 1))) (sv γ i 2) = 0) (e0 := 0) (e := 1) (kk := 1) (s9 := up s (26 + (sv γ i 1)) (bXor (s (26 + (sv γ i 1))) (bShl 1 (sv γ i 2)))) p v5 hL5 (by decide) c1 c2 c3 (fun hc hnp => p.2.1.1.sht hW ⟨(cdR_0 hc).1, (cdR_0 hc).2.1⟩ (cdR_0 hc).2.2) (Or.inr (Or.inl rfl)) hq6
    have h01 : cdR Λ (sv γ i 1) (sv γ i 2) = 0 → x6 = 0 ∨ x6 = 1 := fun hc => by
      by_cases hp : shutB (s (26 + (sv γ i 1))) (sv γ i 2) = 0
      · exact Or.inl ((hq6.2.2.2.2 hc).1 hp).1
      · exact Or.inr ((hq6.2.2.2.2 hc).2 hp).1
    refine tz_istore6 (n := 808) (g_at ck_L_law5 25 rfl) rfl (by decide) g_hpI ?_
    exact lt_shut (g_at ck_L_law5 26 rfl) (g_at ck_L_law5 27 rfl) (g_at ck_L_law5 28 rfl) (g_at ck_L_law5 29 rfl) (g_at ck_L_law5 32 rfl) (g_at ck_L_law5 33 rfl) (g_at ck_L_law5 34 rfl) (g_at ck_L_law5 35 rfl) (g_at ck_L_law5 36 rfl) (g_at ck_L_law5 37 rfl) (g_at ck_L_law5 38 rfl) (g_at ck_L_law5 39 rfl) (g_at ck_L_law5 40 rfl) (g_at ck_L_law5 41 rfl) (g_at ck_L_law5 42 rfl) (g_at ck_L_law5 43 rfl) (g_at ck_L_law5 46 rfl) rfl a4.2.1 (a1.trans e5.symm) (fun h9 => ⟨h01 (by rw [← e5]; exact h9), by rw [a2]; exact a3 (by rw [← e5]; exact h9)⟩) (kk _ _ a4)
  · skip
    refine tz_iconst (n := 766) (g_at ck_L_law4 52 rfl) rfl ?_
    refine tz_goto (tgt := 770) (g_at ck_L_law4 53 rfl) rfl ?_
    have hb : (1 : Int) = 0 ∨ (1 : Int) = 1 := by decide
    refine tz_aload3 (n := 771) (g_at ck_L_law5 1 rfl) rfl (g_ne kd_122) ?_
    refine tz_cshI5 (n := 774) (μ' := μL_shut) (cb' := cb) (sb' := sb) ml_L_166 mo_L_shut ms_L_shut np_L_shut (g_at ck_L_law5 2 rfl) (wl_shut (sp_shut (sv_rg γ i 1) (sv_rg γ i 2) hb hL rfl hS hR hW w.2.1 w.2.2.1 hσ w.2.2.2.1.2.1 hA2 hf) c2R (fun x ρ9 m9 hz => by
      by_cases hp : shutB (s (26 + (sv γ i 1))) (sv γ i 2) = 1
      · exact Or.inl (hz.2.2.2.1 hp).1
      · exact Or.inr (hz.2.2.2.2 hp).1)) rfl rfl ⟨by decide, by decide⟩ (Nat.le_of_ble_eq_true rfl) (by omega) (by omega) (g_in (g_m5 (List.mem_of_getElem? (i := 117) rfl)) rfl) (fun x5 ρ5 m5 hq => ?_)
    have hn := p.2.1.2.1
    have hw0 := hW.1
    obtain ⟨hL5, hR5, e5, v5, c1, c2, c3⟩ := ac_C (P := shutB (s (26 + (sv γ i 1))) (sv γ i 2) = 1) (e0 := 0) (e := 1) (kk := 1) (Mk := wr (actKeep m 44 39) 43 (sv γ i 1) (bXor (s (26 + (sv γ i 1))) (bShl 1 (sv γ i 2)))) (s9 := up s (26 + (sv γ i 1)) (bXor (s (26 + (sv γ i 1))) (bShl 1 (sv γ i 2)))) w v hL hR (by decide) hq (fun _ _ _ hz => hz) (fun hc _ => by
      have hb := cdR_0 hc
      exact (w.keep hn).mom (fun a ha => wr_ne (by simp at ha; omega)) (show MomC (wr (actKeep m 44 39) (39 + 4) (sv γ i 1) (bXor (s (26 + (sv γ i 1))) (bShl 1 (sv γ i 2)))) 39 _ from (w.keep hn).2.2.1.w4 ⟨hb.1, by omega⟩)) (fun a ha => by rw [wr_ne (by omega), keep_fr a (by simp; omega)])
    refine tz_istore5 (n := 776) (g_at ck_L_law5 3 rfl) rfl (by decide) g_hpI ?_
    refine tz_aload2 (n := 777) (g_at ck_L_law5 4 rfl) rfl (g_ne kd_84) ?_
    refine tz_sv (n := 783) (g_at ck_L_law5 5 rfl) (g_at ck_L_law5 6 rfl) (g_at ck_L_law5 7 rfl) (g_at ck_L_law5 8 rfl) (g_at ck_L_law5 9 rfl) rfl ⟨by omega, by omega, by omega⟩ ?_
    refine tz_sv (n := 789) (g_at ck_L_law5 10 rfl) (g_at ck_L_law5 11 rfl) (g_at ck_L_law5 12 rfl) (g_at ck_L_law5 13 rfl) (g_at ck_L_law5 14 rfl) rfl ⟨by omega, by omega, by omega⟩ ?_
    refine tz_sv (n := 795) (g_at ck_L_law5 15 rfl) (g_at ck_L_law5 16 rfl) (g_at ck_L_law5 17 rfl) (g_at ck_L_law5 18 rfl) (g_at ck_L_law5 19 rfl) rfl ⟨by omega, by omega, by omega⟩ ?_
    refine tz_if_eq (n := 798) (tgt := 802) (g_at ck_L_law5 20 rfl) rfl rfl (sv_rg γ i 3) (fun h4 => absurd h4 h3) (fun _ => ?_)
    refine tz_iconst (n := 799) (g_at ck_L_law5 21 rfl) rfl ?_
    refine tz_goto (tgt := 803) (g_at ck_L_law5 22 rfl) rfl ?_
    have hf5 : ∀ k, 0 ≤ k → k < 3 → m5 92 k < 2000000000 := fun k k1 k2 => by rw [v5.2.2.2.2.2.2.2.1 k k1 k2]; have := p.2.2.2.2.2 k k1 k2; omega
    refine tz_cvI3 (n := 806) (μ' := μX11_shut) (cb' := cb) (sb' := sb) ml_L_169 mo_X11_shut mv_X11_shut np_X11_shut kd_84 (g_at ck_L_law5 24 rfl) (mp_shut (sv_rg γ i 1) (sv_rg γ i 2) hb hL5 hR5 hW v5.1 v5.2.1 hσ v5.2.2.2.2.2.2.1.2 v5.2.2.1 p.2.1.2.1 hf5) rfl rfl rfl ⟨by decide, by decide⟩ (Nat.le_of_ble_eq_true rfl) (by omega) (by omega) (fun x6 ρ6 m6 hq6 => ?_)
    obtain ⟨a1, a2, a3, a4⟩ := ac_M (P := shutB (s (26 + (sv γ i 1))) (sv γ i 2) = 1) (e0 := 0) (e := 1) (kk := 1) (s9 := up s (26 + (sv γ i 1)) (bXor (s (26 + (sv γ i 1))) (bShl 1 (sv γ i 2)))) p v5 hL5 (by decide) c1 c2 c3 (fun hc hnp => p.2.1.1.sht hW ⟨(cdR_0 hc).1, (cdR_0 hc).2.1⟩ (cdR_0 hc).2.2) (Or.inr (Or.inl rfl)) hq6
    have h01 : cdR Λ (sv γ i 1) (sv γ i 2) = 0 → x6 = 0 ∨ x6 = 1 := fun hc => by
      by_cases hp : shutB (s (26 + (sv γ i 1))) (sv γ i 2) = 1
      · exact Or.inl ((hq6.2.2.2.2 hc).1 hp).1
      · exact Or.inr ((hq6.2.2.2.2 hc).2 hp).1
    refine tz_istore6 (n := 808) (g_at ck_L_law5 25 rfl) rfl (by decide) g_hpI ?_
    exact lt_shut (g_at ck_L_law5 26 rfl) (g_at ck_L_law5 27 rfl) (g_at ck_L_law5 28 rfl) (g_at ck_L_law5 29 rfl) (g_at ck_L_law5 32 rfl) (g_at ck_L_law5 33 rfl) (g_at ck_L_law5 34 rfl) (g_at ck_L_law5 35 rfl) (g_at ck_L_law5 36 rfl) (g_at ck_L_law5 37 rfl) (g_at ck_L_law5 38 rfl) (g_at ck_L_law5 39 rfl) (g_at ck_L_law5 40 rfl) (g_at ck_L_law5 41 rfl) (g_at ck_L_law5 42 rfl) (g_at ck_L_law5 43 rfl) (g_at ck_L_law5 46 rfl) rfl a4.2.1 (a1.trans e5.symm) (fun h9 => ⟨h01 (by rw [← e5]; exact h9), by rw [a2]; exact a3 (by rw [← e5]; exact h9)⟩) (kk _ _ a4)
theorem lb_fill {l : Launch} {γ : Gh} {ρ m : Mm} {R : RR} {X : XX} {cb sb : Nat} {N i : Int} (hI : IW N ρ m) (hN : N ≤ 1000) (hi : 0 ≤ i ∧ i + 6 ≤ γ.2.2.2.2.1 ∧ γ.2.2.2.2.1 < 2147483648) (kk : ∀ ρ9 m9, IW (N + 1) ρ9 m9 → gT l γ μL_law 60 cb sb R X KK ρ9 m9 2837 [some (vR (-1)), some (vR 1), some (vR 84), some (vR 122), some (vI i), none, none] []) : gT l γ μL_law 60 (cb + 4) (sb + 24) R X KK ρ m 846 [some (vR (-1)), some (vR 1), some (vR 84), some (vR 122), some (vI i), none, none] [] := by
  obtain ⟨hL, hR, Λ, hl, tl, s, n, α, κ, h, s2, n2, α2, κ2, t, tn, pl, f, w, v, p⟩ := hI
  have hW := p.1
  have hσ := p.2.1.1.1
  have hS := w.iS hL
  have hA2 : 0 ≤ m 44 2 ∧ m 44 2 ≤ 40 := by rw [w.2.2.2.1.1]; exact p.2.1.2.1
  have hE3 : 0 ≤ m 46 3 ∧ m 46 3 ≤ 8 := by rw [w.2.2.2.2.1.1]; exact p.2.1.2.2.2.1
  have hf : ∀ k, 0 ≤ k → k < 3 → m 61 k < 2000000000 := fun k k1 k2 => by rw [w.2.2.2.2.2.2.2.2 k k1 k2]; have := p.2.2.2.2.2 k k1 k2; omega
  have hTn : m 1 1 = tn := w.2.2.2.2.2.2.2.1.1
  have hf1 : 0 ≤ m 1 1 ∧ m 1 1 ≤ 700 := by rw [hTn]; exact p.2.2.2.2.1
  refine tz_aload1 (n := 847) (g_at ck_L_law5 47 rfl) rfl (g_ne kd_1) ?_
  refine tz_sv (n := 853) (g_at ck_L_law5 48 rfl) (g_at ck_L_law6 0 rfl) (g_at ck_L_law6 1 rfl) (g_at ck_L_law6 2 rfl) (g_at ck_L_law6 3 rfl) rfl ⟨by omega, by omega, by omega⟩ ?_
  refine tz_sv (n := 859) (g_at ck_L_law6 4 rfl) (g_at ck_L_law6 5 rfl) (g_at ck_L_law6 6 rfl) (g_at ck_L_law6 7 rfl) (g_at ck_L_law6 8 rfl) rfl ⟨by omega, by omega, by omega⟩ ?_
  refine tz_aload3 (n := 860) (g_at ck_L_law6 9 rfl) rfl (g_ne kd_122) ?_
  refine tz_cshI4 (n := 863) (μ' := μL_fill) (cb' := cb) (sb' := sb) ml_L_170 mo_L_fill ms_L_fill np_L_fill (g_at ck_L_law6 10 rfl) (wl_fill (sp_fill2 (sv_rg γ i 1) (sv_rg γ i 2) hL rfl hS hR hW w.2.1 w.2.2.1 hσ w.2.2.2.1.2.1 hA2 hf) c2P) rfl rfl ⟨by decide, by decide⟩ (Nat.le_of_ble_eq_true rfl) (by omega) (by omega) (g_in (g_m5 (List.mem_of_getElem? (i := 124) rfl)) rfl) (fun x5 ρ5 m5 hq => ?_)
  have hn := p.2.1.2.1
  have hw0 := hW.1
  have hw1 := hW.2.1
  obtain ⟨hL5, hR5, e5, v5, c1, c2, c3⟩ := ac_C (P := ((sv γ i 2) < 0 ∨ 99 < (sv γ i 2) ∨ (sv γ i 2) = s (9 + (sv γ i 1)))) (e0 := (-1)) (e := s (9 + (sv γ i 1))) (kk := 1) (Mk := wr (actKeep m 44 39) 41 (sv γ i 1) (sv γ i 2)) (s9 := up s (9 + (sv γ i 1)) (sv γ i 2)) w v hL hR (by decide) hq (fun x ρ9 m9 hz => ⟨hz.1, hz.2.1, hz.2.2.1, hz.2.2.2.1, fun hp => ⟨(hz.2.2.2.2 hp).1.symm, (hz.2.2.2.2 hp).2⟩⟩) (fun hc _ => by
    have hb := cdP_0 hc
    exact (w.keep hn).mom (fun a ha => wr_ne (by simp at ha; omega)) (show MomC (wr (actKeep m 44 39) (39 + 2) (sv γ i 1) (sv γ i 2)) 39 _ from (w.keep hn).2.2.1.w2 ⟨hb.1, by omega⟩)) (fun a ha => by rw [wr_ne (by omega), keep_fr a (by simp; omega)])
  refine tz_istore5 (n := 865) (g_at ck_L_law6 11 rfl) rfl (by decide) g_hpI ?_
  refine tz_aload2 (n := 866) (g_at ck_L_law6 12 rfl) rfl (g_ne kd_84) ?_
  refine tz_sv (n := 872) (g_at ck_L_law6 13 rfl) (g_at ck_L_law6 14 rfl) (g_at ck_L_law6 15 rfl) (g_at ck_L_law6 16 rfl) (g_at ck_L_law6 17 rfl) rfl ⟨by omega, by omega, by omega⟩ ?_
  refine tz_sv (n := 878) (g_at ck_L_law6 18 rfl) (g_at ck_L_law6 19 rfl) (g_at ck_L_law6 20 rfl) (g_at ck_L_law6 21 rfl) (g_at ck_L_law6 22 rfl) rfl ⟨by omega, by omega, by omega⟩ ?_
  have hf5 : ∀ k, 0 ≤ k → k < 3 → m5 92 k < 2000000000 := fun k k1 k2 => by rw [v5.2.2.2.2.2.2.2.1 k k1 k2]; have := p.2.2.2.2.2 k k1 k2; omega
  refine tz_cvI2 (n := 881) (μ' := μX11_fill) (cb' := cb) (sb' := sb) ml_L_172 mo_X11_fill mv_X11_fill np_X11_fill kd_84 (g_at ck_L_law6 23 rfl) (mp_fill (sv_rg γ i 1) (sv_rg γ i 2) hL5 hR5 hW v5.1 v5.2.1 hσ v5.2.2.2.2.2.2.1.2 v5.2.2.1 p.2.1.2.1 hf5) rfl rfl rfl ⟨by decide, by decide⟩ (Nat.le_of_ble_eq_true rfl) (by omega) (by omega) (fun x6 ρ6 m6 hq6 => ?_)
  obtain ⟨a1, a2, a3, a4⟩ := ac_M (P := ((sv γ i 2) < 0 ∨ 99 < (sv γ i 2) ∨ (sv γ i 2) = s (9 + (sv γ i 1)))) (e0 := (-1)) (e := s (9 + (sv γ i 1))) (kk := 1) (s9 := up s (9 + (sv γ i 1)) (sv γ i 2)) p v5 hL5 (by decide) c1 c2 c3 (fun hc hnp => p.2.1.1.pur hW (cdP_0 hc) (by omega)) (Or.inr (Or.inl rfl)) ⟨hq6.1, hq6.2.1, hq6.2.2.1, hq6.2.2.2.1, fun hc => ⟨(hq6.2.2.2.2 hc).1, fun hp => ⟨((hq6.2.2.2.2 hc).2 hp).1.symm, ((hq6.2.2.2.2 hc).2 hp).2⟩⟩⟩
  refine tz_istore6 (n := 883) (g_at ck_L_law6 24 rfl) rfl (by decide) g_hpI ?_
  exact lt_tail (g_at ck_L_law6 25 rfl) (g_at ck_L_law6 26 rfl) (g_at ck_L_law6 27 rfl) (g_at ck_L_law6 28 rfl) (g_at ck_L_law6 31 rfl) (g_at ck_L_law6 32 rfl) (g_at ck_L_law6 33 rfl) (g_at ck_L_law6 34 rfl) (g_at ck_L_law6 35 rfl) (g_at ck_L_law6 36 rfl) (g_at ck_L_law6 37 rfl) (g_at ck_L_law6 38 rfl) (g_at ck_L_law6 39 rfl) (g_at ck_L_law6 42 rfl) rfl a4.2.1 (a1.trans e5.symm) (fun h9 => by rw [a2]; exact a3 (by rw [← e5]; exact h9)) (kk _ _ a4)
theorem lb_set {l : Launch} {γ : Gh} {ρ m : Mm} {R : RR} {X : XX} {cb sb : Nat} {N i : Int} (hI : IW N ρ m) (hN : N ≤ 1000) (hi : 0 ≤ i ∧ i + 6 ≤ γ.2.2.2.2.1 ∧ γ.2.2.2.2.1 < 2147483648) (kk : ∀ ρ9 m9, IW (N + 1) ρ9 m9 → gT l γ μL_law 60 cb sb R X KK ρ9 m9 2837 [some (vR (-1)), some (vR 1), some (vR 84), some (vR 122), some (vI i), none, none] []) : gT l γ μL_law 60 (cb + 4) (sb + 24) R X KK ρ m 914 [some (vR (-1)), some (vR 1), some (vR 84), some (vR 122), some (vI i), none, none] [] := by
  obtain ⟨hL, hR, Λ, hl, tl, s, n, α, κ, h, s2, n2, α2, κ2, t, tn, pl, f, w, v, p⟩ := hI
  have hW := p.1
  have hσ := p.2.1.1.1
  have hS := w.iS hL
  have hA2 : 0 ≤ m 44 2 ∧ m 44 2 ≤ 40 := by rw [w.2.2.2.1.1]; exact p.2.1.2.1
  have hE3 : 0 ≤ m 46 3 ∧ m 46 3 ≤ 8 := by rw [w.2.2.2.2.1.1]; exact p.2.1.2.2.2.1
  have hf : ∀ k, 0 ≤ k → k < 3 → m 61 k < 2000000000 := fun k k1 k2 => by rw [w.2.2.2.2.2.2.2.2 k k1 k2]; have := p.2.2.2.2.2 k k1 k2; omega
  have hTn : m 1 1 = tn := w.2.2.2.2.2.2.2.1.1
  have hf1 : 0 ≤ m 1 1 ∧ m 1 1 ≤ 700 := by rw [hTn]; exact p.2.2.2.2.1
  refine tz_aload1 (n := 915) (g_at ck_L_law6 43 rfl) rfl (g_ne kd_1) ?_
  refine tz_sv (n := 921) (g_at ck_L_law6 44 rfl) (g_at ck_L_law7 0 rfl) (g_at ck_L_law7 1 rfl) (g_at ck_L_law7 2 rfl) (g_at ck_L_law7 3 rfl) rfl ⟨by omega, by omega, by omega⟩ ?_
  refine tz_sv (n := 927) (g_at ck_L_law7 4 rfl) (g_at ck_L_law7 5 rfl) (g_at ck_L_law7 6 rfl) (g_at ck_L_law7 7 rfl) (g_at ck_L_law7 8 rfl) rfl ⟨by omega, by omega, by omega⟩ ?_
  refine tz_aload3 (n := 928) (g_at ck_L_law7 9 rfl) rfl (g_ne kd_122) ?_
  refine tz_cshI4 (n := 931) (μ' := μL_set) (cb' := cb) (sb' := sb) ml_L_173 mo_L_set ms_L_set np_L_set (g_at ck_L_law7 10 rfl) (wl_set (sp_set (sv_rg γ i 1) (sv_rg γ i 2) hL rfl hS hR hW w.2.1 w.2.2.1 hσ w.2.2.2.1.2.1 hA2 hf) (c2q c2P c2C)) rfl rfl ⟨by decide, by decide⟩ (Nat.le_of_ble_eq_true rfl) (by omega) (by omega) (g_in (g_m5 (List.mem_of_getElem? (i := 131) rfl)) rfl) (fun x5 ρ5 m5 hq => ?_)
  have hn := p.2.1.2.1
  have hw0 := hW.1
  have hw1 := hW.2.1
  obtain ⟨hL5, hR5, e5, v5, c1, c2, c3⟩ := ac_C (P := s (1 + (sv γ i 1)) = (sv γ i 2)) (e0 := (-1)) (e := s (1 + (sv γ i 1))) (kk := 1) (Mk := wr (actKeep m 44 39) 40 (sv γ i 1) (sv γ i 2)) (s9 := up s (1 + (sv γ i 1)) (sv γ i 2)) w v hL hR (by decide) hq (fun x ρ9 m9 hz => ⟨hz.1, hz.2.1, hz.2.2.1, hz.2.2.2.1, fun hp => ⟨(hz.2.2.2.2 hp).1.symm, (hz.2.2.2.2 hp).2⟩⟩) (fun hc _ => by
    have hb := cdP_0 (sq_l hc)
    exact (w.keep hn).mom (fun a ha => wr_ne (by simp at ha; omega)) (show MomC (wr (actKeep m 44 39) (39 + 1) (sv γ i 1) (sv γ i 2)) 39 _ from (w.keep hn).2.2.1.w1 ⟨hb.1, by omega⟩)) (fun a ha => by rw [wr_ne (by omega), keep_fr a (by simp; omega)])
  refine tz_istore5 (n := 933) (g_at ck_L_law7 11 rfl) rfl (by decide) g_hpI ?_
  refine tz_aload2 (n := 934) (g_at ck_L_law7 12 rfl) rfl (g_ne kd_84) ?_
  refine tz_sv (n := 940) (g_at ck_L_law7 13 rfl) (g_at ck_L_law7 14 rfl) (g_at ck_L_law7 15 rfl) (g_at ck_L_law7 16 rfl) (g_at ck_L_law7 17 rfl) rfl ⟨by omega, by omega, by omega⟩ ?_
  refine tz_sv (n := 946) (g_at ck_L_law7 18 rfl) (g_at ck_L_law7 19 rfl) (g_at ck_L_law7 20 rfl) (g_at ck_L_law7 21 rfl) (g_at ck_L_law7 22 rfl) rfl ⟨by omega, by omega, by omega⟩ ?_
  have hf5 : ∀ k, 0 ≤ k → k < 3 → m5 92 k < 2000000000 := fun k k1 k2 => by rw [v5.2.2.2.2.2.2.2.1 k k1 k2]; have := p.2.2.2.2.2 k k1 k2; omega
  refine tz_cvI2 (n := 949) (μ' := μX11_set) (cb' := cb) (sb' := sb) ml_L_175 mo_X11_set mv_X11_set np_X11_set kd_84 (g_at ck_L_law7 23 rfl) (mp_set (sv_rg γ i 1) (sv_rg γ i 2) hL5 hR5 hW v5.1 v5.2.1 hσ v5.2.2.2.2.2.2.1.2 v5.2.2.1 p.2.1.2.1 hf5) rfl rfl rfl ⟨by decide, by decide⟩ (Nat.le_of_ble_eq_true rfl) (by omega) (by omega) (fun x6 ρ6 m6 hq6 => ?_)
  obtain ⟨a1, a2, a3, a4⟩ := ac_M (P := s (1 + (sv γ i 1)) = (sv γ i 2)) (e0 := (-1)) (e := s (1 + (sv γ i 1))) (kk := 1) (s9 := up s (1 + (sv γ i 1)) (sv γ i 2)) p v5 hL5 (by decide) c1 c2 c3 (fun hc hnp => p.2.1.1.whr hW (cdP_0 (sq_l hc)) (cdC_0 (sq_r hc))) (Or.inr (Or.inl rfl)) ⟨hq6.1, hq6.2.1, hq6.2.2.1, hq6.2.2.2.1, fun hc => ⟨(hq6.2.2.2.2 hc).1, fun hp => ⟨((hq6.2.2.2.2 hc).2 hp).1.symm, ((hq6.2.2.2.2 hc).2 hp).2⟩⟩⟩
  refine tz_istore6 (n := 951) (g_at ck_L_law7 24 rfl) rfl (by decide) g_hpI ?_
  exact lt_tail (g_at ck_L_law7 25 rfl) (g_at ck_L_law7 26 rfl) (g_at ck_L_law7 27 rfl) (g_at ck_L_law7 28 rfl) (g_at ck_L_law7 31 rfl) (g_at ck_L_law7 32 rfl) (g_at ck_L_law7 33 rfl) (g_at ck_L_law7 34 rfl) (g_at ck_L_law7 35 rfl) (g_at ck_L_law7 36 rfl) (g_at ck_L_law7 37 rfl) (g_at ck_L_law7 38 rfl) (g_at ck_L_law7 39 rfl) (g_at ck_L_law8 0 rfl) rfl a4.2.1 (a1.trans e5.symm) (fun h9 => by rw [a2]; exact a3 (by rw [← e5]; exact h9)) (kk _ _ a4)
