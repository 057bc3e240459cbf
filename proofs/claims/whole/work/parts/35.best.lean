/-! best. -/
theorem isFst_ex (P : Nat → Prop) : ∀ n : Nat, ∃ x, isFst P n x
  | 0 => ⟨0, Int.le_refl 0, Int.le_refl 0, fun j hj => absurd hj (by omega), fun h => absurd h (by show ¬ ((0 : Int) < ((0 : Nat) : Int)); decide)⟩
  | n + 1 => by
    obtain ⟨x, h1, h2, h3, h4⟩ := isFst_ex P n
    by_cases k : x < (n : Int)
    · exact ⟨x, h1, by omega, h3, fun _ => h4 k⟩
    · have e : x = (n : Int) := by omega
      subst e
      by_cases kb : P n
      · exact ⟨(n : Int), by omega, by omega, h3, fun _ => kb⟩
      · refine ⟨(n : Int) + 1, by omega, by omega, fun j hj => ?_, fun h => absurd h (by omega)⟩
        by_cases ej : j = n
        · rw [ej]; exact kb
        · exact h3 j (by omega)
noncomputable def homF (Λ : Mm) (hl tl : List Int) (σ : Mm) (p : Int) : Int := Classical.choose (isFst_ex (homeAt Λ hl tl σ p) 61)
theorem homF_is (Λ : Mm) (hl tl : List Int) (σ : Mm) (p : Int) : isFst (homeAt Λ hl tl σ p) 61 (homF Λ hl tl σ p) := Classical.choose_spec (isFst_ex (homeAt Λ hl tl σ p) 61)
/-- looked for within n days only -/
theorem isFst_cut {P : Nat → Prop} {n N : Nat} {x y : Int} (h : isFst P N y) (k : isFst P n x) (hn : n ≤ N) : (x < n → x = y ∧ y < n) ∧ (¬ x < n → ¬ y < n) := by
  obtain ⟨a1, a2, a3, a4⟩ := h
  obtain ⟨b1, b2, b3, b4⟩ := k
  refine ⟨fun hx => ?_, fun hx hy => ?_⟩
  · have hb := b4 hx
    by_cases c : x < y
    · exact absurd hb (a3 x.toNat (by omega))
    · by_cases d : y < x
      · exact absurd (a4 (by omega)) (b3 y.toNat (by omega))
      · omega
  · exact absurd (a4 (by omega)) (b3 y.toNat (by omega))
noncomputable def bsF (Λ : Mm) (hl tl : List Int) (s : Int → Int) (p c r : Int) : Int := homF Λ hl tl (wr (sig0 s) 0 (17 + c) r) p
noncomputable def bsS (Λ : Mm) (hl tl : List Int) (s : Int → Int) (p c r : Int) (q : Int × Int) : Int × Int := if s (17 + c) = r then q else if bsF Λ hl tl s p c r < q.1 then (bsF Λ hl tl s p c r, 10 * c + r) else q
noncomputable def bsR (Λ : Mm) (hl tl : List Int) (s : Int → Int) (p c : Int) (q : Int × Int) (n : Nat) : Int × Int := fd (fun r u => bsS Λ hl tl s p c (r : Int) u) q n
noncomputable def bsN (Λ : Mm) (hl tl : List Int) (s : Int → Int) (p : Int) (n : Nat) : Int × Int := fd (fun c u => bsR Λ hl tl s p (c : Int) u (Λ 3 (c : Int)).toNat) (homF Λ hl tl (sig0 s) p, -1) n
section
variable {Λ : Mm} {hl tl : List Int} {s : Int → Int} {p c r x : Int} {q : Int × Int}
theorem bsS_rg (h : 0 ≤ q.1 ∧ q.1 ≤ 61) : 0 ≤ (bsS Λ hl tl s p c r q).1 ∧ (bsS Λ hl tl s p c r q).1 ≤ 61 := by
  have k := homF_is Λ hl tl (wr (sig0 s) 0 (17 + c) r) p
  unfold bsS
  split
  · exact h
  · split
    · exact ⟨k.1, k.2.1⟩
    · exact h
theorem bsR_rg (h : 0 ≤ q.1 ∧ q.1 ≤ 61) : ∀ n, 0 ≤ (bsR Λ hl tl s p c q n).1 ∧ (bsR Λ hl tl s p c q n).1 ≤ 61
  | 0 => h
  | n + 1 => bsS_rg (bsR_rg h n)
theorem bsN_rg : ∀ n, 0 ≤ (bsN Λ hl tl s p n).1 ∧ (bsN Λ hl tl s p n).1 ≤ 61
  | 0 => ⟨(homF_is Λ hl tl (sig0 s) p).1, (homF_is Λ hl tl (sig0 s) p).2.1⟩
  | n + 1 => bsR_rg (bsN_rg n) _
theorem bs_rg (h : 0 ≤ q.1 ∧ q.1 ≤ 61) (hA : s (17 + c) = r → x = q.1 - 1 + 1) (hB : s (17 + c) ≠ r → isFst (homeAt Λ hl tl (wr (sig0 s) 0 (17 + c) r) p) (q.1 - 1 + 1).toNat x) : 0 ≤ x ∧ x ≤ 61 := by
  by_cases e : s (17 + c) = r
  · have := hA e
    omega
  · have := hB e
    have h1 := this.1
    have h2 := this.2.1
    omega
theorem bsS_ge (h : 0 ≤ q.1 ∧ q.1 ≤ 61) (hB : s (17 + c) ≠ r → isFst (homeAt Λ hl tl (wr (sig0 s) 0 (17 + c) r) p) (q.1 - 1 + 1).toNat x) (hx : x ≥ q.1) : bsS Λ hl tl s p c r q = q := by
  unfold bsS
  by_cases e : s (17 + c) = r
  · rw [if_pos e]
  · rw [if_neg e]
    have k := isFst_cut (homF_is Λ hl tl (wr (sig0 s) 0 (17 + c) r) p) (hB e) (by omega)
    have := k.2 (by omega)
    rw [if_neg (show ¬ bsF Λ hl tl s p c r < q.1 by unfold bsF; omega)]
theorem bsS_lt (h : 0 ≤ q.1 ∧ q.1 ≤ 61) (hA : s (17 + c) = r → x = q.1 - 1 + 1) (hB : s (17 + c) ≠ r → isFst (homeAt Λ hl tl (wr (sig0 s) 0 (17 + c) r) p) (q.1 - 1 + 1).toNat x) (hx : ¬ x ≥ q.1) : bsS Λ hl tl s p c r q = (x, 10 * c + r) := by
  unfold bsS
  by_cases e : s (17 + c) = r
  · have := hA e
    omega
  · rw [if_neg e]
    have k := isFst_cut (homF_is Λ hl tl (wr (sig0 s) 0 (17 + c) r) p) (hB e) (by omega)
    have k1 := k.1 (by omega)
    have k2 : bsF Λ hl tl s p c r = x := k1.1.symm
    rw [k2, if_pos (by omega)]
end
theorem sp_best {l : Launch} {γ : Gh} {ρ m : Mm} {p : Int} (hp : -2147483648 ≤ p ∧ p < 2147483648) {ld : Int} {Λ : Mm} {hl tl : List Int} (hL : LY ρ) (hLn : ρ 1 3 = ld) (hS : isS ρ ld) (hR : MR m) (hW : WL Λ) (hG : LandC m ld Λ hl tl) {s : Int → Int} (hN : MomC m 39 s) (hσ : WS Λ 0 (sig0 s)) : gE l γ μX10_best 7 1 6 (rI KK fun x ρ9 m9 => qR ρ ρ9 ∧ MR m9 ∧ qM ld m m9 ∧ cdP Λ p = 0 ∧ (bsN Λ hl tl s p (Λ 0 0).toNat).2 = x) (xC ρ m (cdP Λ p)) KK ρ m [vR 1, vI p] := by
  refine gE.ofw cl_X10.2 ?_ rfl rfl (Nat.le_of_ble_eq_true rfl)
  show gT l γ μX10_best 7 1 6 _ _ KK ρ m 0 [some (vR 1), some (vI p), none, none, none, none, none] []
  have hn1 := hW.1
  have hn8 := hW.2.1
  have hld := hG.ld9
  refine tz_aload0 (n := 1) (g_at ck_X10_best 0 rfl) rfl (g_ne kd_1) ?_
  refine tz_iload1 (n := 2) (g_at ck_X10_best 1 rfl) rfl ?_
  refine tz_cvxV1 (n := 5) (μ' := μX10_needPerson) (cb' := 0) (sb' := 0) ml_X10_221 mo_X10_needPerson mv_X10_needPerson np_X10_needPerson kd_1 (g_at ck_X10_best 2 rfl) (sp_needP ⟨hp.1, hp.2⟩ hL hLn hS hR hW hG) rfl rfl rfl ⟨by decide, by decide⟩ (Nat.le_of_ble_eq_true rfl) (by decide) (by decide) (g_in (g_m5 (List.mem_of_getElem? (i := 68) rfl)) rfl) (fun E9 ρ9 m9 h9 => g_gX_out rfl h9.1 h9.2.1 h9.2.2) (fun ρ9 m2 hq => ?_)
  obtain ⟨rfl, hR1, rfl, hz2⟩ := hq
  have hp2 := cdP_0 hz2
  refine tz_aload0 (n := 6) (g_at ck_X10_best 3 rfl) rfl (g_ne kd_1) ?_
  refine tz_cvR0 (n := 9) (μ' := μX10_setOut) (cb' := 0) (sb' := 0) ml_X10_251 mo_X10_setOut mv_X10_setOut np_X10_setOut kd_1 (g_at ck_X10_best 4 rfl) (sp_setOut hL hLn hS hR1 hW hG hN) rfl rfl rfl ⟨by decide, by decide⟩ (Nat.le_of_ble_eq_true rfl) (by decide) (by decide) (fun x6 ρ9 m6 hq => ?_)
  obtain ⟨rfl, rfl, hR2, hT6, hF6⟩ := hq
  have hQ6 := qM_trL (hF6.sub (trL_be (ld := ld)))
  have hG6 := hG.fr (hF6.sub trL_be)
  have hL := LY_wr (r := 62) (k := 0) (x := ld) hL (by decide)
  have hLt : wr ρ 62 0 ld 62 0 = ld := wr_same
  have hLn : wr ρ 62 0 ld 1 3 = ld := (by rw [wr_ne (by decide)]; exact hLn)
  have hS : isS (wr ρ 62 0 ld) ld := isS_of hL hld
  refine tz_iload1 (n := 10) (g_at ck_X10_best 5 rfl) rfl ?_
  refine tz_bipush (n := 12) (g_at ck_X10_best 6 rfl) rfl rfl ?_
  refine tz_cvI2 (n := 15) (μ' := μX8_daysToHome) (cb' := 0) (sb' := 0) ml_X10_324 mo_X8_daysToHome mv_X8_daysToHome np_X8_daysToHome kd_62 (g_at ck_X10_best 7 rfl) (sp_toHome hL hLt hS hR2 hW hG6 hT6 hσ (by decide) (by omega) (by decide)) rfl rfl rfl ⟨by decide, by decide⟩ (Nat.le_of_ble_eq_true rfl) (by decide) (by decide) (fun x12 ρ9 m12 hq => ?_)
  obtain ⟨rfl, hR3, hX12, hF12⟩ := hq
  have e0 : x12 = homF Λ hl tl (sig0 s) p := isFst_eq hX12 (homF_is Λ hl tl (sig0 s) p)
  subst e0
  refine tz_istore2 (n := 16) (g_at ck_X10_best 8 rfl) rfl (by decide) g_hpI ?_
  refine tz_iconst (n := 17) (g_at ck_X10_best 9 rfl) rfl ?_
  refine tz_istore3 (n := 18) (g_at ck_X10_best 10 rfl) rfl (by decide) g_hpI ?_
  refine tz_iconst (n := 19) (g_at ck_X10_best 11 rfl) rfl ?_
  refine tz_istore4 (n := 21) (g_at ck_X10_best 12 rfl) rfl (by decide) g_hpI ?_
  refine g_for (fun i : Nat => ∀ m1 : Mm, (MR m1 ∧ Fr (trL ld) m m1) → gT l γ μX10_best 7 0 0 _ _ KK (wr ρ 62 0 ld) m1 21 [some (vR 1), some (vI p), some (vI (bsN Λ hl tl s p i).1), some (vI (bsN Λ hl tl s p i).2), some (vI (i : Int)), none, none] []) (Λ 0 0).toNat ?_ (fun i hi ihi => ?_) 0 (Nat.zero_le _) _ ⟨hR3, (hF6.sub trL_be).tr hF12⟩
  · intro m1 hinv
    obtain ⟨hR1, hF1⟩ := hinv
    have hG1 := hG.fr hF1
    refine tz_iload4 (n := 23) (g_at ck_X10_best 13 rfl) rfl ?_
    refine tz_aload0 (n := 24) (g_at ck_X10_best 14 rfl) rfl (g_ne kd_1) ?_
    refine tz_getOv (n := 27) (a := ld) fk_X10_20 kd_1 hLn (g_at ck_X10_best 15 rfl) rfl ?_
    refine tz_getIw (n := 30) (kz := 0) fk_X10_139 hS.k0 (g_at ck_X10_best 16 rfl) rfl rfl ?_
    rw [hG1.n0]
    refine tz_icmp_ge (n := 33) (tgt := 95) (g_at ck_X10_best 17 rfl) rfl rfl ⟨by omega, by omega, by omega, by omega⟩ (fun h30 => ?_) (fun h30 => absurd h30 (by omega))
    refine tz_iload3 (n := 96) (g_at ck_X10_best 51 rfl) rfl ?_
    exact tz_iret (g_at ck_X10_best 52 rfl) rfl (rI_mk ⟨qR_62, hR1, qM_trL hF1, hz2, rfl⟩)
  · intro m1 hinv
    obtain ⟨hR1, hF1⟩ := hinv
    have hG1 := hG.fr hF1
    have hc3 := hW.2.2.1 (i : Int) (by omega) (by omega)
    have hqi := bsN_rg (Λ := Λ) (hl := hl) (tl := tl) (s := s) (p := p) i
    refine tz_iload4 (n := 23) (g_at ck_X10_best 13 rfl) rfl ?_
    refine tz_aload0 (n := 24) (g_at ck_X10_best 14 rfl) rfl (g_ne kd_1) ?_
    refine tz_getOv (n := 27) (a := ld) fk_X10_20 kd_1 hLn (g_at ck_X10_best 15 rfl) rfl ?_
    refine tz_getIw (n := 30) (kz := 0) fk_X10_139 hS.k0 (g_at ck_X10_best 16 rfl) rfl rfl ?_
    rw [hG1.n0]
    refine tz_icmp_ge (n := 33) (tgt := 95) (g_at ck_X10_best 17 rfl) rfl rfl ⟨by omega, by omega, by omega, by omega⟩ (fun h30 => absurd h30 (by omega)) (fun h30 => ?_)
    refine tz_iconst (n := 34) (g_at ck_X10_best 18 rfl) rfl ?_
    refine tz_istore5 (n := 36) (g_at ck_X10_best 19 rfl) rfl (by decide) g_hpI ?_
    refine g_for (fun j : Nat => ∀ m2 : Mm, (MR m2 ∧ Fr (trL ld) m m2) → gT l γ μX10_best 7 0 0 _ _ KK (wr ρ 62 0 ld) m2 36 [some (vR 1), some (vI p), some (vI (bsR Λ hl tl s p (i : Int) (bsN Λ hl tl s p i) j).1), some (vI (bsR Λ hl tl s p (i : Int) (bsN Λ hl tl s p i) j).2), some (vI (i : Int)), some (vI (j : Int)), none] []) (Λ 3 (i : Int)).toNat ?_ (fun j hj ihj => ?_) 0 (Nat.zero_le _) _ ⟨hR1, hF1⟩
    · intro m2 hinv
      obtain ⟨hR2, hF2⟩ := hinv
      have hG2 := hG.fr hF2
      refine tz_iload5 (n := 38) (g_at ck_X10_best 20 rfl) rfl ?_
      refine tz_aload0 (n := 39) (g_at ck_X10_best 21 rfl) rfl (g_ne kd_1) ?_
      refine tz_getOv (n := 42) (a := ld) fk_X10_20 kd_1 hLn (g_at ck_X10_best 22 rfl) rfl ?_
      refine tz_getAv (n := 45) (a := (ld + 3)) fk_X10_194 hS.k0 hS.r0_4 (g_at ck_X10_best 23 rfl) rfl ?_
      refine tz_iload4 (n := 47) (g_at ck_X10_best 24 rfl) rfl ?_
      refine tz_iald (n := 48) hS.k3 (by omega) (g_at ck_X10_best 25 rfl) rfl ?_
      rw [hG2.roads (i : Int) (by omega)]
      refine tz_icmp_ge (n := 51) (tgt := 89) (g_at ck_X10_best 26 rfl) rfl rfl ⟨by omega, by omega, by omega, by omega⟩ (fun h48 => ?_) (fun h48 => absurd h48 (by omega))
      refine tz_iinc4 (n := 92) (g_at ck_X10_best 49 rfl) rfl (by decide) g_hpI ?_
      refine tz_goto (tgt := 21) (g_at ck_X10_best 50 rfl) rfl ?_
      refine tz_drop5 ?_
      exact ihi _ ⟨hR2, hF2⟩
    · intro m2 hinv
      obtain ⟨hR2, hF2⟩ := hinv
      have hG2 := hG.fr hF2
      have hqj := bsR_rg (Λ := Λ) (hl := hl) (tl := tl) (s := s) (p := p) (c := (i : Int)) hqi j
      refine tz_iload5 (n := 38) (g_at ck_X10_best 20 rfl) rfl ?_
      refine tz_aload0 (n := 39) (g_at ck_X10_best 21 rfl) rfl (g_ne kd_1) ?_
      refine tz_getOv (n := 42) (a := ld) fk_X10_20 kd_1 hLn (g_at ck_X10_best 22 rfl) rfl ?_
      refine tz_getAv (n := 45) (a := (ld + 3)) fk_X10_194 hS.k0 hS.r0_4 (g_at ck_X10_best 23 rfl) rfl ?_
      refine tz_iload4 (n := 47) (g_at ck_X10_best 24 rfl) rfl ?_
      refine tz_iald (n := 48) hS.k3 (by omega) (g_at ck_X10_best 25 rfl) rfl ?_
      rw [hG2.roads (i : Int) (by omega)]
      refine tz_icmp_ge (n := 51) (tgt := 89) (g_at ck_X10_best 26 rfl) rfl rfl ⟨by omega, by omega, by omega, by omega⟩ (fun h48 => absurd h48 (by omega)) (fun h48 => ?_)
      refine tz_aload0 (n := 52) (g_at ck_X10_best 27 rfl) rfl (g_ne kd_1) ?_
      refine tz_iload1 (n := 53) (g_at ck_X10_best 28 rfl) rfl ?_
      refine tz_iload4 (n := 55) (g_at ck_X10_best 29 rfl) rfl ?_
      refine tz_iload5 (n := 57) (g_at ck_X10_best 30 rfl) rfl ?_
      refine tz_iload2 (n := 58) (g_at ck_X10_best 31 rfl) rfl ?_
      refine tz_iconst (n := 59) (g_at ck_X10_best 32 rfl) rfl ?_
      refine tz_isub (n := 60) (g_at ck_X10_best 33 rfl) rfl ?_
      refine tz_cvI4 (n := 63) (μ' := μX10_daysByTurn) (cb' := 0) (sb' := 0) ml_X10_327 mo_X10_daysByTurn mv_X10_daysByTurn np_X10_daysByTurn kd_1 (g_at ck_X10_best 34 rfl) (sp_byTurn hL hLn hS hR2 hW (hG.fr hF2) (hN.fr hld hF2) hσ hLt (by omega) (by omega) (by omega) (by omega)) rfl rfl rfl ⟨by decide, by decide⟩ (Nat.le_of_ble_eq_true rfl) (by decide) (by decide) (fun x60 ρ9 m60 hq => ?_)
      obtain ⟨rfl, hR4, hF60, hA60, hB60⟩ := hq
      have hx60 := bs_rg hqj hA60 hB60
      refine tz_istore6 (n := 65) (g_at ck_X10_best 35 rfl) rfl (by decide) g_hpI ?_
      refine tz_iload6 (n := 67) (g_at ck_X10_best 36 rfl) rfl ?_
      refine tz_iload2 (n := 68) (g_at ck_X10_best 37 rfl) rfl ?_
      refine tz_icmp_ge (n := 71) (tgt := 83) (g_at ck_X10_best 38 rfl) rfl rfl ⟨by omega, by omega, by omega, by omega⟩ (fun h68 => ?_) (fun h68 => ?_)
      · skip
        refine tz_iinc5 (n := 86) (g_at ck_X10_best 47 rfl) rfl (by decide) g_hpI ?_
        refine tz_goto (tgt := 36) (g_at ck_X10_best 48 rfl) rfl ?_
        refine tz_drop6 ?_
        have e9 : bsR Λ hl tl s p (i : Int) (bsN Λ hl tl s p i) (j + 1) = (bsR Λ hl tl s p (i : Int) (bsN Λ hl tl s p i) j) := bsS_ge hqj hB60 h68
        exact gT_eq (ihj _ ⟨hR4, hF2.tr hF60⟩) rfl (by rw [e9]; rfl)
      · skip
        refine tz_iload6 (n := 73) (g_at ck_X10_best 39 rfl) rfl ?_
        refine tz_istore2 (n := 74) (g_at ck_X10_best 40 rfl) rfl (by decide) g_hpI ?_
        refine tz_bipush (n := 76) (g_at ck_X10_best 41 rfl) rfl rfl ?_
        refine tz_iload4 (n := 78) (g_at ck_X10_best 42 rfl) rfl ?_
        refine tz_imul (n := 79) (g_at ck_X10_best 43 rfl) rfl ?_
        refine tz_iload5 (n := 81) (g_at ck_X10_best 44 rfl) rfl ?_
        refine tz_iadd (n := 82) (g_at ck_X10_best 45 rfl) rfl ?_
        refine tz_istore3 (n := 83) (g_at ck_X10_best 46 rfl) rfl (by decide) g_hpI ?_
        refine tz_iinc5 (n := 86) (g_at ck_X10_best 47 rfl) rfl (by decide) g_hpI ?_
        refine tz_goto (tgt := 36) (g_at ck_X10_best 48 rfl) rfl ?_
        refine tz_drop6 ?_
        have e9 : bsR Λ hl tl s p (i : Int) (bsN Λ hl tl s p i) (j + 1) = (x60, 10 * (i : Int) + (j : Int)) := bsS_lt hqj hA60 hB60 h68
        exact gT_eq (ihj _ ⟨hR4, hF2.tr hF60⟩) rfl (by rw [e9]; rfl)
