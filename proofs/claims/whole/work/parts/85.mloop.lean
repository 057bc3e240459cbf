/-! The reference: the shortest way round. -/
theorem lp_1 {Λ : Mm} {s : Int → Int} {c : Int} : ∀ n : Nat, lpN Λ s c n ≤ 10000 ∧ (∀ z : Nat, z < n → bAnd (bShr (wyW Λ s 2 c) (z : Int)) 1 = 1 → lpN Λ s c n ≤ 1 + wyW Λ s 0 ((z : Int) * 9 + c)) ∧ (lpN Λ s c n = 10000 ∨ ∃ z : Nat, z < n ∧ bAnd (bShr (wyW Λ s 2 c) (z : Int)) 1 = 1 ∧ lpN Λ s c n = 1 + wyW Λ s 0 ((z : Int) * 9 + c))
  | 0 => ⟨Int.le_refl _, fun z h => absurd h (Nat.not_lt_zero z), Or.inl rfl⟩
  | n + 1 => by
    obtain ⟨h1, h2, h3⟩ := lp_1 (Λ := Λ) (s := s) (c := c) n
    have e : lpN Λ s c (n + 1) = if bAnd (bShr (wyW Λ s 2 c) (n : Int)) 1 = 1 then mn2 (lpN Λ s c n) (1 + wyW Λ s 0 ((n : Int) * 9 + c)) else lpN Λ s c n := rfl
    rw [e]
    by_cases hb : bAnd (bShr (wyW Λ s 2 c) (n : Int)) 1 = 1
    · rw [if_pos hb]
      unfold mn2
      by_cases hl : 1 + wyW Λ s 0 ((n : Int) * 9 + c) < lpN Λ s c n
      · rw [if_pos hl]
        refine ⟨by omega, fun z hz hbz => ?_, Or.inr ⟨n, by omega, hb, rfl⟩⟩
        by_cases ez : z = n
        · rw [ez]; exact Int.le_refl _
        · have := h2 z (by omega) hbz
          omega
      · rw [if_neg hl]
        refine ⟨h1, fun z hz hbz => ?_, h3.imp_right fun ⟨z, g1, g2, g3⟩ => ⟨z, by omega, g2, g3⟩⟩
        by_cases ez : z = n
        · rw [ez]; omega
        · exact h2 z (by omega) hbz
    · rw [if_neg hb]
      refine ⟨h1, fun z hz hbz => ?_, h3.imp_right fun ⟨z, g1, g2, g3⟩ => ⟨z, by omega, g2, g3⟩⟩
      by_cases ez : z = n
      · rw [ez] at hbz; exact absurd hbz hb
      · exact h2 z (by omega) hbz
/-- the reference's least so far -/
def LV (Λ : Mm) (s : Int → Int) (c : Int) (n : Nat) (v : Int) : Prop := (0 ≤ v ∧ v ≤ 9999) ∧ (∀ r : Nat, r < n → shutB (s (26 + c)) (r : Int) = 0 → v ≤ 1 + tr9 (wyW Λ s 0 (Λ 4 (c * 5 + (r : Int)) * 9 + c))) ∧ (v = 9999 ∨ ∃ r : Nat, r < n ∧ shutB (s (26 + c)) (r : Int) = 0 ∧ v = 1 + tr9 (wyW Λ s 0 (Λ 4 (c * 5 + (r : Int)) * 9 + c)))
theorem LV.no {Λ : Mm} {s : Int → Int} {c v : Int} {n : Nat} (h : LV Λ s c n v) (hs : ¬ shutB (s (26 + c)) (n : Int) = 0) : LV Λ s c (n + 1) v := ⟨h.1, fun r hr hsr => by
  by_cases e : r = n
  · rw [e] at hsr; exact absurd hsr hs
  · exact h.2.1 r (by omega) hsr, h.2.2.imp_right fun ⟨r, g1, g2, g3⟩ => ⟨r, by omega, g2, g3⟩⟩
theorem LV.yes {Λ : Mm} {s : Int → Int} {c v : Int} {n : Nat} (h : LV Λ s c n v) (hs : shutB (s (26 + c)) (n : Int) = 0) (ht : 0 ≤ tr9 (wyW Λ s 0 (Λ 4 (c * 5 + (n : Int)) * 9 + c))) : LV Λ s c (n + 1) (lesF v (1 + tr9 (wyW Λ s 0 (Λ 4 (c * 5 + (n : Int)) * 9 + c)))) := by
  have hh := h.1
  unfold lesF
  by_cases hl : v < 1 + tr9 (wyW Λ s 0 (Λ 4 (c * 5 + (n : Int)) * 9 + c))
  · rw [if_pos hl]
    refine ⟨h.1, fun r hr hsr => ?_, h.2.2.imp_right fun ⟨r, g1, g2, g3⟩ => ⟨r, by omega, g2, g3⟩⟩
    by_cases e : r = n
    · rw [e]; omega
    · exact h.2.1 r (by omega) hsr
  · rw [if_neg hl]
    refine ⟨by omega, fun r hr hsr => ?_, Or.inr ⟨n, by omega, hs, rfl⟩⟩
    by_cases e : r = n
    · rw [e]; exact Int.le_refl _
    · have := h.2.1 r (by omega) hsr
      omega
theorem LV.fin {Λ : Mm} {s : Int → Int} {c v : Int} (hW : WL Λ) (hc : 0 ≤ c ∧ c < Λ 0 0) (h : LV Λ s c (Λ 3 c).toNat v) : orN (lpN Λ s c (Λ 0 0).toNat) = if v < 9999 then v else -1 := by
  have h0 := hW.1
  have hcw := hW.2.2.1 c hc.1 hc.2
  obtain ⟨l1, l2, l3⟩ := lp_1 (Λ := Λ) (s := s) (c := c) (Λ 0 0).toNat
  obtain ⟨v1, v2, v3⟩ := h
  have bd := fun j => ((wyW_i (s := s) hW).1 j).1
  have nb := fun (z : Nat) (hz : z < 9) => (next_bit (s := s) (z := (z : Int)) hW hc (by omega)).1
  have open_z : ∀ r : Nat, r < (Λ 3 c).toNat → shutB (s (26 + c)) (r : Int) = 0 → ∃ z : Nat, z < (Λ 0 0).toNat ∧ Λ 4 (c * 5 + (r : Int)) = (z : Int) ∧ bAnd (bShr (wyW Λ s 2 c) (z : Int)) 1 = 1 := fun r hr hs => by
    have he := hW.2.2.2.1 c (r : Int) hc.1 hc.2 (by omega) (by omega)
    have ez : ((Λ 4 (c * 5 + (r : Int))).toNat : Int) = Λ 4 (c * 5 + (r : Int)) := by omega
    exact ⟨(Λ 4 (c * 5 + (r : Int))).toNat, by omega, ez.symm, (nb _ (by omega)).mpr ⟨r, hr, hs, ez.symm⟩⟩
  unfold orN
  by_cases hL : lpN Λ s c (Λ 0 0).toNat < 10000
  · rw [if_pos hL]
    rcases l3 with l3 | ⟨z, z1, z2, z3⟩
    · omega
    · obtain ⟨r, r1, r2, r3⟩ := (nb z (by omega)).mp z2
      have hv := v2 r r1 r2
      have hb := bd ((z : Int) * 9 + c)
      rw [r3, tr_id hb (by omega)] at hv
      have hb' := hb
      unfold Bd at hb'
      rcases v3 with v3 | ⟨q, q1, q2, q3⟩
      · omega
      · obtain ⟨y, y1, y2, y3⟩ := open_z q q1 q2
        have hy := l2 y y1 y3
        rw [y2] at q3
        have hby := bd ((y : Int) * 9 + c)
        have ht : tr9 (wyW Λ s 0 ((y : Int) * 9 + c)) = wyW Λ s 0 ((y : Int) * 9 + c) := tr_id hby ((tr_lt hby).mp (by omega))
        rw [ht] at q3
        rw [if_pos (by omega)]
        omega
  · rw [if_neg hL]
    rcases v3 with v3 | ⟨q, q1, q2, q3⟩
    · rw [if_neg (by omega)]
    · obtain ⟨y, y1, y2, y3⟩ := open_z q q1 q2
      have hy := l2 y y1 y3
      rw [y2] at q3
      have hby := bd ((y : Int) * 9 + c)
      have hby' := hby
      unfold Bd at hby'
      have ht : tr9 (wyW Λ s 0 ((y : Int) * 9 + c)) = 9999 := if_pos (by omega)
      rw [ht] at q3
      omega
def lvN (Λ : Mm) (s : Int → Int) (c : Int) (n : Nat) : Int := fd (fun r v => if shutB (s (26 + c)) (r : Int) = 0 then lesF v (1 + tr9 (wyW Λ s 0 (Λ 4 (c * 5 + (r : Int)) * 9 + c))) else v) 9999 n
theorem lvN_i {Λ : Mm} {s : Int → Int} {c : Int} (hW : WL Λ) : ∀ n : Nat, LV Λ s c n (lvN Λ s c n)
  | 0 => ⟨⟨by show (0 : Int) ≤ 9999; decide, Int.le_refl _⟩, fun r h => absurd h (Nat.not_lt_zero r), Or.inl rfl⟩
  | n + 1 => by
    have ih := lvN_i (s := s) (c := c) hW n
    have e : lvN Λ s c (n + 1) = if shutB (s (26 + c)) (n : Int) = 0 then lesF (lvN Λ s c n) (1 + tr9 (wyW Λ s 0 (Λ 4 (c * 5 + (n : Int)) * 9 + c))) else lvN Λ s c n := rfl
    rw [e]
    split
    · exact ih.yes (by assumption) (tr_rg ((wyW_i (s := s) hW).1 _).1 (Int.le_refl _)).1
    · exact ih.no (by assumption)
theorem mp_loop {l : Launch} {γ : Gh} {ρ m : Mm} {c : Int} {s : Int → Int} {Λ : Mm} {hl tl : List Int} (hL : LY ρ) (hR : MR m) (hW : WL Λ) (hM : MLand m Λ hl tl) (hs : MRow m s) (hσ : WS Λ 0 (sig0 s)) (hz : m 84 51 = 0) (hc : 0 ≤ c ∧ c < Λ 0 0) : gE l γ μX11_loop 2 0 0 (rI KK fun x ρ9 m9 => ρ = ρ9 ∧ MR m9 ∧ Fr [110, 111] m m9 ∧ orN (lpN Λ s c (Λ 0 0).toNat) = x) xN KK ρ m [vR 84, vI c] := by
  refine gE.ofw cl_X11.2 ?_ rfl rfl (Nat.le_of_ble_eq_true rfl)
  show gT l γ μX11_loop 2 0 0 _ _ KK ρ m 0 [some (vR 84), some (vI c), none, none] []
  have hn1 := hW.1
  have hN := hM.1
  have hcw := hW.2.2.1 c hc.1 hc.2
  have hsc := sig0_WS_c hσ hc
  refine tz_aload0 (n := 1) (g_at ck_X11_loop 0 rfl) rfl (g_ne kd_84) ?_
  refine tz_cvV0 (n := 4) (μ' := μX11_laysWays) (cb' := 0) (sb' := 0) ml_X11_365 mo_X11_laysWays mv_X11_laysWays np_X11_laysWays kd_84 (g_at ck_X11_loop 1 rfl) (mp_laysWays hL hR hW hM hs hσ hz) rfl rfl rfl ⟨by decide, by decide⟩ (Nat.le_of_ble_eq_true rfl) (by decide) (by decide) (fun ρ9 m1 hq => ?_)
  obtain ⟨rfl, hR1, hF1, hr1, hw1⟩ := hq
  have hM9 := hM.fr hF1 (by decide)
  have r87 := (hM9.2.2.1 c hc.1 hc.2).2.2
  have hs9 : MRow m1 s := (mK.l hF1 (by decide)).row hs
  refine tz_sipush (n := 7) (g_at ck_X11_loop 2 rfl) rfl rfl ?_
  refine tz_istore2 (n := 8) (g_at ck_X11_loop 3 rfl) rfl (by decide) g_hpI ?_
  refine tz_iconst (n := 9) (g_at ck_X11_loop 4 rfl) rfl ?_
  refine tz_istore3 (n := 10) (g_at ck_X11_loop 5 rfl) rfl (by decide) g_hpI ?_
  refine g_for (fun i : Nat => gT l γ μX11_loop 2 0 0 _ _ KK ρ m1 10 [some (vR 84), some (vI c), some (vI (lvN Λ s c i)), some (vI (i : Int))] []) (Λ 3 c).toNat ?_ (fun i hi ihi => ?_) 0 (Nat.zero_le _)
  · skip
    have hlv := lvN_i (s := s) (c := c) hW (Λ 3 c).toNat
    have hlr := hlv.1
    have hfin := hlv.fin hW hc
    refine tz_iload3 (n := 11) (g_at ck_X11_loop 6 rfl) rfl ?_
    refine tz_aload0 (n := 12) (g_at ck_X11_loop 7 rfl) rfl (g_ne kd_84) ?_
    refine tz_getAv (n := 15) (a := 87) fk_X11_23 kd_84 (ly_84_7 hL) (g_at ck_X11_loop 8 rfl) rfl ?_
    refine tz_iload1 (n := 16) (g_at ck_X11_loop 9 rfl) rfl ?_
    refine tz_iald (n := 17) kd_87 (by omega) (g_at ck_X11_loop 10 rfl) rfl ?_
    rw [r87]
    refine tz_icmp_ge (n := 20) (tgt := 63) (g_at ck_X11_loop 11 rfl) rfl rfl (by omega) (fun h17 => ?_) (fun h17 => absurd h17 (by omega))
    refine tz_iload2 (n := 64) (g_at ck_X11_loop 40 rfl) rfl ?_
    refine tz_sipush (n := 67) (g_at ck_X11_loop 41 rfl) rfl rfl ?_
    refine tz_icmp_lt (n := 70) (tgt := 74) (g_at ck_X11_loop 42 rfl) rfl rfl (by omega) (fun h67 => ?_) (fun h67 => ?_)
    · skip
      refine tz_iload2 (n := 75) (g_at ck_X11_loop 45 rfl) rfl ?_
      exact tz_iret (g_at ck_X11_loop 46 rfl) rfl (rI_mk ⟨rfl, hR1, hF1, by rw [hfin, if_pos h67]⟩)
    · skip
      refine tz_iconst (n := 71) (g_at ck_X11_loop 43 rfl) rfl ?_
      refine tz_goto (tgt := 75) (g_at ck_X11_loop 44 rfl) rfl ?_
      exact tz_iret (g_at ck_X11_loop 46 rfl) rfl (rI_mk ⟨rfl, hR1, hF1, by rw [hfin, if_neg h67]⟩)
  · skip
    have hlr := (lvN_i (s := s) (c := c) hW i).1
    have r88 := hM9.2.2.2.1 c (i : Int) hc.1 hc.2 (by omega) (by omega)
    have het := hW.2.2.2.1 c (i : Int) hc.1 hc.2 (by omega) (by omega)
    have rf9 := (hr1 (Λ 4 (c * 5 + (i : Int))) c het.1 het.2 hc.1 hc.2).1
    have gt9 := tr_rg (hw1 ((Λ 4 (c * 5 + (i : Int))) * 9 + c)).1 (Int.le_refl _)
    refine tz_iload3 (n := 11) (g_at ck_X11_loop 6 rfl) rfl ?_
    refine tz_aload0 (n := 12) (g_at ck_X11_loop 7 rfl) rfl (g_ne kd_84) ?_
    refine tz_getAv (n := 15) (a := 87) fk_X11_23 kd_84 (ly_84_7 hL) (g_at ck_X11_loop 8 rfl) rfl ?_
    refine tz_iload1 (n := 16) (g_at ck_X11_loop 9 rfl) rfl ?_
    refine tz_iald (n := 17) kd_87 (by omega) (g_at ck_X11_loop 10 rfl) rfl ?_
    rw [r87]
    refine tz_icmp_ge (n := 20) (tgt := 63) (g_at ck_X11_loop 11 rfl) rfl rfl (by omega) (fun h17 => absurd h17 (by omega)) (fun h17 => ?_)
    refine tz_aload0 (n := 21) (g_at ck_X11_loop 12 rfl) rfl (g_ne kd_84) ?_
    refine tz_iconst (n := 22) (g_at ck_X11_loop 13 rfl) rfl ?_
    refine tz_iload1 (n := 23) (g_at ck_X11_loop 14 rfl) rfl ?_
    refine tz_iload3 (n := 24) (g_at ck_X11_loop 15 rfl) rfl ?_
    refine tz_cvI3 (n := 27) (μ' := μX11_isShut) (cb' := 0) (sb' := 0) ml_X11_338 mo_X11_isShut mv_X11_isShut np_X11_isShut kd_84 (g_at ck_X11_loop 16 rfl) (mp_isShut hL hR1 (Or.inl rfl) (by omega)) rfl rfl rfl ⟨by decide, by decide⟩ (Nat.le_of_ble_eq_true rfl) (by decide) (by decide) (fun x24 ρ9 m24 hq => ?_)
    obtain ⟨rfl, hR2, rfl, rfl⟩ := hq
    rw [show (0 : Int) + 26 + c = 26 + c by omega, hs9 (26 + c) (by omega) (by omega)]
    have h01 := shutB_01 (s (26 + c)) (i : Int)
    refine tz_if_ne (n := 30) (tgt := 57) (g_at ck_X11_loop 17 rfl) rfl rfl (by omega) (fun h27 => ?_) (fun h27 => ?_)
    · skip
      refine tz_iinc3 (n := 60) (g_at ck_X11_loop 38 rfl) rfl (by decide) g_hpI ?_
      refine tz_goto (tgt := 10) (g_at ck_X11_loop 39 rfl) rfl ?_
      have e9 : lvN Λ s c (i + 1) = (lvN Λ s c i) := if_neg h27
      rw [e9] at ihi
      exact ihi
    · skip
      refine tz_iload2 (n := 31) (g_at ck_X11_loop 18 rfl) rfl ?_
      refine tz_iconst (n := 32) (g_at ck_X11_loop 19 rfl) rfl ?_
      refine tz_aload0 (n := 33) (g_at ck_X11_loop 20 rfl) rfl (g_ne kd_84) ?_
      refine tz_getAv (n := 36) (a := 110) fk_X11_96 kd_84 (ly_84_52 hL) (g_at ck_X11_loop 21 rfl) rfl ?_
      refine tz_bipush (n := 38) (g_at ck_X11_loop 22 rfl) rfl rfl ?_
      refine tz_aload0 (n := 39) (g_at ck_X11_loop 23 rfl) rfl (g_ne kd_84) ?_
      refine tz_getAv (n := 42) (a := 88) fk_X11_26 kd_84 (ly_84_8 hL) (g_at ck_X11_loop 24 rfl) rfl ?_
      refine tz_iconst (n := 43) (g_at ck_X11_loop 25 rfl) rfl ?_
      refine tz_iload1 (n := 44) (g_at ck_X11_loop 26 rfl) rfl ?_
      refine tz_imul (n := 45) (g_at ck_X11_loop 27 rfl) rfl ?_
      refine tz_iload3 (n := 46) (g_at ck_X11_loop 28 rfl) rfl ?_
      refine tz_iadd (n := 47) (g_at ck_X11_loop 29 rfl) rfl ?_
      refine tz_iald (n := 48) kd_88 (by omega) (g_at ck_X11_loop 30 rfl) rfl ?_
      rw [r88]
      refine tz_imul (n := 49) (g_at ck_X11_loop 31 rfl) rfl ?_
      refine tz_iload1 (n := 50) (g_at ck_X11_loop 32 rfl) rfl ?_
      refine tz_iadd (n := 51) (g_at ck_X11_loop 33 rfl) rfl ?_
      refine tz_iald (n := 52) kd_110 (by omega) (g_at ck_X11_loop 34 rfl) rfl ?_
      rw [rf9]
      refine tz_iadd (n := 53) (g_at ck_X11_loop 35 rfl) rfl ?_
      refine tz_csI2 (n := 56) (μ' := μX11_lesser) (cb' := 0) (sb' := 0) ml_X11_362 mo_X11_lesser ms_X11_lesser np_X11_lesser (g_at ck_X11_loop 36 rfl) (mp_lesser hR2 (by omega) (by omega)) rfl rfl ⟨by decide, by decide⟩ (Nat.le_of_ble_eq_true rfl) (by decide) (by decide) (fun x53 ρ9 m53 hq => ?_)
      obtain ⟨rfl, hR3, rfl, rfl⟩ := hq
      refine tz_istore2 (n := 57) (g_at ck_X11_loop 37 rfl) rfl (by decide) g_hpI ?_
      refine tz_iinc3 (n := 60) (g_at ck_X11_loop 38 rfl) rfl (by decide) g_hpI ?_
      refine tz_goto (tgt := 10) (g_at ck_X11_loop 39 rfl) rfl ?_
      have e9 : lvN Λ s c (i + 1) = lesF (lvN Λ s c i) (1 + (tr9 (wyW Λ s 0 ((Λ 4 (c * 5 + (i : Int))) * 9 + c)))) := if_pos h27
      rw [e9] at ihi
      exact ihi
