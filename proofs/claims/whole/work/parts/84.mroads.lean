/-! The reference: roads out and in. -/
theorem jnZ_o {b a k : Int} {w : Mm} (h0 : k ≠ 0) (h1 : k ≠ 1) : ∀ n, jnZ b a w n k = w k
  | 0 => rfl
  | n + 1 => by
    have ih := jnZ_o (b := b) (a := a) (w := w) h0 h1 n
    have e : jnZ b a w (n + 1) = jnS b a (n : Int) (jnZ b a w n) := rfl
    rw [e]
    unfold jnS
    rw [wr_ne h1, wr_ne h0]
    exact ih
theorem jnA_o {N : Nat} {b k : Int} {w : Mm} (h0 : k ≠ 0) (h1 : k ≠ 1) : ∀ n, jnA N b w n k = w k
  | 0 => rfl
  | n + 1 => (jnZ_o h0 h1 N).trans (jnA_o h0 h1 n)
theorem jnN_o {N : Nat} {k : Int} {w : Mm} (h0 : k ≠ 0) (h1 : k ≠ 1) : ∀ n, jnN N w n k = w k
  | 0 => rfl
  | n + 1 => (jnA_o h0 h1 N).trans (jnN_o h0 h1 n)
theorem wyW_o {Λ : Mm} {s : Int → Int} {k : Int} (h0 : k ≠ 0) (h1 : k ≠ 1) : wyW Λ s k = lrN Λ s (Λ 0 0).toNat k := jnN_o h0 h1 _
theorem lrP_3 {Λ ω : Mm} {a t c : Int} : lrP Λ a t ω 3 c = ω 3 c + (if t = c then 1 else 0) - (if a = c then 1 else 0) := by
  unfold lrP
  rw [wr_at, wr_at, wr_ne (by decide), wr_ne (by decide), wr_ne (by decide)]
  by_cases e1 : c = t
  · rw [if_pos e1, if_pos e1.symm]
    by_cases e2 : t = a
    · rw [if_pos e2, if_pos (by omega), show c = a by omega]
      omega
    · rw [if_neg e2, if_neg (by omega), e1]
      omega
  · rw [if_neg e1, if_neg (Ne.symm e1)]
    by_cases e2 : c = a
    · rw [if_pos e2, if_pos e2.symm, e2]
      omega
    · rw [if_neg e2, if_neg (Ne.symm e2)]
      omega
theorem lrP_2 {Λ ω : Mm} {a t c : Int} : lrP Λ a t ω 2 c = if c = a then bOr (ω 2 a) (bShl 1 t) else ω 2 c := by
  unfold lrP
  rw [wr_ne (by decide), wr_ne (by decide), wr_at, wr_ne (by decide), wr_ne (by decide)]
def nxF (Λ : Mm) (s : Int → Int) (c : Int) (n : Nat) : Int := fd (fun r v => if shutB (s (26 + c)) (r : Int) = 0 then bOr v (bShl 1 (Λ 4 (c * 5 + (r : Int)))) else v) 0 n
theorem lrR_2 {Λ ω : Mm} {s : Int → Int} {a c : Int} (h0 : ω 2 a = 0) : ∀ n, lrR Λ s a ω n 2 c = if c = a then nxF Λ s a n else ω 2 c
  | 0 => by
    by_cases e : c = a
    · rw [if_pos e, e]; exact h0
    · rw [if_neg e]; rfl
  | n + 1 => by
    have ih := lrR_2 (Λ := Λ) (s := s) (c := c) h0 n
    have ia := lrR_2 (Λ := Λ) (s := s) (c := a) h0 n
    rw [if_pos rfl] at ia
    have e : lrR Λ s a ω (n + 1) = if shutB (s (26 + a)) (n : Int) = 0 then lrP Λ a (Λ 4 (a * 5 + (n : Int))) (lrR Λ s a ω n) else lrR Λ s a ω n := rfl
    have e2 : nxF Λ s a (n + 1) = if shutB (s (26 + a)) (n : Int) = 0 then bOr (nxF Λ s a n) (bShl 1 (Λ 4 (a * 5 + (n : Int)))) else nxF Λ s a n := rfl
    rw [e, e2]
    by_cases hs : shutB (s (26 + a)) (n : Int) = 0
    · rw [if_pos hs, if_pos hs, lrP_2, ia]
      by_cases ec : c = a
      · rw [if_pos ec, if_pos ec]
      · rw [if_neg ec, if_neg ec, ih, if_neg ec]
    · rw [if_neg hs, if_neg hs]
      exact ih
theorem lrN_2 {Λ : Mm} {s : Int → Int} {c : Int} (hc : 0 ≤ c) : ∀ n : Nat, lrN Λ s n 2 c = if c < (n : Int) then nxF Λ s c (Λ 3 c).toNat else 0
  | 0 => by rw [if_neg (by omega)]; rfl
  | n + 1 => by
    have ih := lrN_2 (Λ := Λ) (s := s) hc n
    have ia := lrN_2 (Λ := Λ) (s := s) (c := (n : Int)) (by omega) n
    rw [if_neg (by omega)] at ia
    have d : ∀ q, (wr (wr (lrN Λ s n) 0 ((n : Int) * 9 + (n : Int)) 0) 1 ((n : Int) * 9 + (n : Int)) 0) 2 q = lrN Λ s n 2 q := fun q => by rw [wr_ne (by decide), wr_ne (by decide)]
    have e : lrN Λ s (n + 1) 2 c = lrR Λ s (n : Int) (wr (wr (lrN Λ s n) 0 ((n : Int) * 9 + (n : Int)) 0) 1 ((n : Int) * 9 + (n : Int)) 0) (Λ 3 (n : Int)).toNat 2 c := rfl
    rw [e, lrR_2 (by rw [d]; exact ia), d, ih]
    by_cases ec : c = (n : Int)
    · rw [if_pos ec, if_pos (by omega), ec]
    · rw [if_neg ec]
      by_cases e3 : c < (n : Int)
      · rw [if_pos e3, if_pos (by omega)]
      · rw [if_neg e3, if_neg (by omega)]
theorem wyW_2 {Λ : Mm} {s : Int → Int} {c : Int} (hc : 0 ≤ c ∧ c < Λ 0 0) : wyW Λ s 2 c = nxF Λ s c (Λ 3 c).toNat := by
  rw [wyW_o (by decide) (by decide), lrN_2 hc.1, if_pos (by omega)]
theorem nx_bit {Λ : Mm} {s : Int → Int} {c : Int} (hW : WL Λ) (hc : 0 ≤ c ∧ c < Λ 0 0) : ∀ n : Nat, (n : Int) ≤ Λ 3 c → ∃ v : Nat, v < 512 ∧ nxF Λ s c n = (v : Int) ∧ ∀ z : Nat, v.testBit z = true ↔ ∃ r : Nat, r < n ∧ shutB (s (26 + c)) (r : Int) = 0 ∧ Λ 4 (c * 5 + (r : Int)) = (z : Int)
  | 0, _ => ⟨0, by decide, rfl, fun z => by
    rw [Nat.zero_testBit]
    exact ⟨fun h => absurd h (by decide), fun ⟨r, h, _⟩ => absurd h (Nat.not_lt_zero r)⟩⟩
  | n + 1, h => by
    obtain ⟨v, hv, e, hb⟩ := nx_bit (s := s) hW hc n (by omega)
    have h0 := hW.1
    have he := hW.2.2.2.1 c (n : Int) hc.1 hc.2 (by omega) (by omega)
    obtain ⟨t, et⟩ : ∃ t : Nat, Λ 4 (c * 5 + (n : Int)) = (t : Int) := ⟨(Λ 4 (c * 5 + (n : Int))).toNat, by omega⟩
    have e2 : nxF Λ s c (n + 1) = if shutB (s (26 + c)) (n : Int) = 0 then bOr (nxF Λ s c n) (bShl 1 (Λ 4 (c * 5 + (n : Int)))) else nxF Λ s c n := rfl
    have pt : 2 ^ t ≤ 2 ^ 8 := Nat.pow_le_pow_right (by decide) (by omega)
    by_cases hs : shutB (s (26 + c)) (n : Int) = 0
    · refine ⟨v ||| 2 ^ t, Nat.or_lt_two_pow (n := 9) hv (by omega), ?_, fun z => ?_⟩
      · rw [e2, if_pos hs, e, et, bShl_1 t (by omega), bOr_nn (by omega) (by omega)]
      · rw [Nat.testBit_or, Bool.or_eq_true, hb z, Nat.testBit_two_pow]
        constructor
        · rintro (⟨r, h1, h2, h3⟩ | h1)
          · exact ⟨r, by omega, h2, h3⟩
          · exact ⟨n, by omega, hs, by rw [et]; have := of_decide_eq_true h1; omega⟩
        · rintro ⟨r, h1, h2, h3⟩
          by_cases er : r = n
          · right
            rw [er, et] at h3
            exact decide_eq_true (by omega)
          · left
            exact ⟨r, by omega, h2, h3⟩
    · refine ⟨v, hv, by rw [e2, if_neg hs]; exact e, fun z => ?_⟩
      rw [hb z]
      constructor
      · rintro ⟨r, h1, h2, h3⟩
        exact ⟨r, by omega, h2, h3⟩
      · rintro ⟨r, h1, h2, h3⟩
        by_cases er : r = n
        · rw [er] at h2
          exact absurd h2 hs
        · exact ⟨r, by omega, h2, h3⟩
theorem next_bit {Λ : Mm} {s : Int → Int} {c z : Int} (hW : WL Λ) (hc : 0 ≤ c ∧ c < Λ 0 0) (hz : 0 ≤ z ∧ z < 9) : (bAnd (bShr (wyW Λ s 2 c) z) 1 = 1 ↔ ∃ r : Nat, r < (Λ 3 c).toNat ∧ shutB (s (26 + c)) (r : Int) = 0 ∧ Λ 4 (c * 5 + (r : Int)) = z) ∧ (bAnd (bShr (wyW Λ s 2 c) z) 1 = 0 ∨ bAnd (bShr (wyW Λ s 2 c) z) 1 = 1) := by
  have hcw := hW.2.2.1 c hc.1 hc.2
  obtain ⟨v, hv, e, hb⟩ := nx_bit (s := s) hW hc (Λ 3 c).toNat (by omega)
  obtain ⟨q, eq⟩ : ∃ q : Nat, z = (q : Int) := ⟨z.toNat, by omega⟩
  rw [wyW_2 hc, e, eq, bBit (by omega) (by omega), ← hb q]
  cases v.testBit q <;> decide
theorem mp_doesLead {l : Launch} {γ : Gh} {ρ m : Mm} {c z : Int} {s : Int → Int} {Λ : Mm} {hl tl : List Int} (hL : LY ρ) (hR : MR m) (hW : WL Λ) (hM : MLand m Λ hl tl) (hs : MRow m s) (hσ : WS Λ 0 (sig0 s)) (hc : 0 ≤ c ∧ c < Λ 0 0) (hz : 0 ≤ z ∧ z < 9) : gE l γ μX11_doesLead 1 0 0 (rI KK fun x ρ9 m9 => ρ = ρ9 ∧ MR m9 ∧ bAnd (bShr (wyW Λ s 2 c) z) 1 = x ∧ m = m9) xN KK ρ m [vR 84, vI c, vI z] := by
  refine gE.ofw cl_X11.2 ?_ rfl rfl (Nat.le_of_ble_eq_true rfl)
  show gT l γ μX11_doesLead 1 0 0 _ _ KK ρ m 0 [some (vR 84), some (vI c), some (vI z), none] []
  have hn1 := hW.1
  have hcw := hW.2.2.1 c hc.1 hc.2
  have r87 := (hM.2.2.1 c hc.1 hc.2).2.2
  have hsc := sig0_WS_c hσ hc
  have hnb := next_bit (s := s) hW hc hz
  refine tz_iconst (n := 1) (g_at ck_X11_doesLead 0 rfl) rfl ?_
  refine tz_istore3 (n := 2) (g_at ck_X11_doesLead 1 rfl) rfl (by decide) g_hpI ?_
  refine g_for (fun i : Nat => (∀ r : Nat, r < i → ¬ (shutB (s (26 + c)) (r : Int) = 0 ∧ Λ 4 (c * 5 + (r : Int)) = z)) → gT l γ μX11_doesLead 1 0 0 _ _ KK ρ m 2 [some (vR 84), some (vI c), some (vI z), some (vI (i : Int))] []) (Λ 3 c).toNat ?_ (fun i hi ihi => ?_) 0 (Nat.zero_le _) (fun r h9 => absurd h9 (Nat.not_lt_zero r))
  · intro hinv
    have hno := hinv
    refine tz_iload3 (n := 3) (g_at ck_X11_doesLead 2 rfl) rfl ?_
    refine tz_aload0 (n := 4) (g_at ck_X11_doesLead 3 rfl) rfl (g_ne kd_84) ?_
    refine tz_getAv (n := 7) (a := 87) fk_X11_23 kd_84 (ly_84_7 hL) (g_at ck_X11_doesLead 4 rfl) rfl ?_
    refine tz_iload1 (n := 8) (g_at ck_X11_doesLead 5 rfl) rfl ?_
    refine tz_iald (n := 9) kd_87 (by omega) (g_at ck_X11_doesLead 6 rfl) rfl ?_
    rw [r87]
    refine tz_icmp_ge (n := 12) (tgt := 44) (g_at ck_X11_doesLead 7 rfl) rfl rfl (by omega) (fun h9 => ?_) (fun h9 => absurd h9 (by omega))
    refine tz_iconst (n := 45) (g_at ck_X11_doesLead 28 rfl) rfl ?_
    exact tz_bret (g_at ck_X11_doesLead 29 rfl) rfl (by decide) (rI_mk ⟨rfl, hR, hnb.2.elim id fun h9 => absurd (hnb.1.mp h9) fun ⟨r, g1, g2, g3⟩ => hno r g1 ⟨g2, g3⟩, rfl⟩)
  · intro hinv
    have hno := hinv
    have r88 := hM.2.2.2.1 c (i : Int) hc.1 hc.2 (by omega) (by omega)
    have het := hW.2.2.2.1 c (i : Int) hc.1 hc.2 (by omega) (by omega)
    refine tz_iload3 (n := 3) (g_at ck_X11_doesLead 2 rfl) rfl ?_
    refine tz_aload0 (n := 4) (g_at ck_X11_doesLead 3 rfl) rfl (g_ne kd_84) ?_
    refine tz_getAv (n := 7) (a := 87) fk_X11_23 kd_84 (ly_84_7 hL) (g_at ck_X11_doesLead 4 rfl) rfl ?_
    refine tz_iload1 (n := 8) (g_at ck_X11_doesLead 5 rfl) rfl ?_
    refine tz_iald (n := 9) kd_87 (by omega) (g_at ck_X11_doesLead 6 rfl) rfl ?_
    rw [r87]
    refine tz_icmp_ge (n := 12) (tgt := 44) (g_at ck_X11_doesLead 7 rfl) rfl rfl (by omega) (fun h9 => absurd h9 (by omega)) (fun h9 => ?_)
    refine tz_aload0 (n := 13) (g_at ck_X11_doesLead 8 rfl) rfl (g_ne kd_84) ?_
    refine tz_iconst (n := 14) (g_at ck_X11_doesLead 9 rfl) rfl ?_
    refine tz_iload1 (n := 15) (g_at ck_X11_doesLead 10 rfl) rfl ?_
    refine tz_iload3 (n := 16) (g_at ck_X11_doesLead 11 rfl) rfl ?_
    refine tz_cvI3 (n := 19) (μ' := μX11_isShut) (cb' := 0) (sb' := 0) ml_X11_338 mo_X11_isShut mv_X11_isShut np_X11_isShut kd_84 (g_at ck_X11_doesLead 12 rfl) (mp_isShut hL hR (Or.inl rfl) (by omega)) rfl rfl rfl ⟨by decide, by decide⟩ (Nat.le_of_ble_eq_true rfl) (by decide) (by decide) (fun x16 ρ9 m16 hq => ?_)
    obtain ⟨rfl, hR1, rfl, rfl⟩ := hq
    rw [show (0 : Int) + 26 + c = 26 + c by omega, hs (26 + c) (by omega) (by omega)]
    have h01 := shutB_01 (s (26 + c)) (i : Int)
    refine tz_if_ne (n := 22) (tgt := 38) (g_at ck_X11_doesLead 13 rfl) rfl rfl (by omega) (fun h19 => ?_) (fun h19 => ?_)
    · skip
      refine tz_iinc3 (n := 41) (g_at ck_X11_doesLead 26 rfl) rfl (by decide) g_hpI ?_
      refine tz_goto (tgt := 2) (g_at ck_X11_doesLead 27 rfl) rfl ?_
      exact ihi (no_step (P := fun r : Nat => shutB (s (26 + c)) (r : Int) = 0 ∧ Λ 4 (c * 5 + (r : Int)) = z) hno (fun h9 => h19 h9.1))
    · skip
      refine tz_aload0 (n := 23) (g_at ck_X11_doesLead 14 rfl) rfl (g_ne kd_84) ?_
      refine tz_getAv (n := 26) (a := 88) fk_X11_26 kd_84 (ly_84_8 hL) (g_at ck_X11_doesLead 15 rfl) rfl ?_
      refine tz_iconst (n := 27) (g_at ck_X11_doesLead 16 rfl) rfl ?_
      refine tz_iload1 (n := 28) (g_at ck_X11_doesLead 17 rfl) rfl ?_
      refine tz_imul (n := 29) (g_at ck_X11_doesLead 18 rfl) rfl ?_
      refine tz_iload3 (n := 30) (g_at ck_X11_doesLead 19 rfl) rfl ?_
      refine tz_iadd (n := 31) (g_at ck_X11_doesLead 20 rfl) rfl ?_
      refine tz_iald (n := 32) kd_88 (by omega) (g_at ck_X11_doesLead 21 rfl) rfl ?_
      rw [r88]
      refine tz_iload2 (n := 33) (g_at ck_X11_doesLead 22 rfl) rfl ?_
      refine tz_icmp_ne (n := 36) (tgt := 38) (g_at ck_X11_doesLead 23 rfl) rfl rfl (by omega) (fun h33 => ?_) (fun h33 => ?_)
      · skip
        refine tz_iinc3 (n := 41) (g_at ck_X11_doesLead 26 rfl) rfl (by decide) g_hpI ?_
        refine tz_goto (tgt := 2) (g_at ck_X11_doesLead 27 rfl) rfl ?_
        exact ihi (no_step (P := fun r : Nat => shutB (s (26 + c)) (r : Int) = 0 ∧ Λ 4 (c * 5 + (r : Int)) = z) hno (fun h9 => h33 h9.2))
      · skip
        refine tz_iconst (n := 37) (g_at ck_X11_doesLead 24 rfl) rfl ?_
        exact tz_bret (g_at ck_X11_doesLead 25 rfl) rfl (by decide) (rI_mk ⟨rfl, hR1, hnb.1.mpr ⟨i, by omega, h19, h33⟩, rfl⟩)
theorem mp_balance {l : Launch} {γ : Gh} {ρ m : Mm} {c : Int} {s : Int → Int} {Λ : Mm} {hl tl : List Int} (hL : LY ρ) (hR : MR m) (hW : WL Λ) (hM : MLand m Λ hl tl) (hs : MRow m s) (hσ : WS Λ 0 (sig0 s)) (hc : 0 ≤ c ∧ c < Λ 0 0) : gE l γ μX11_balance 1 0 0 (rI KK fun x ρ9 m9 => ρ = ρ9 ∧ MR m9 ∧ wyW Λ s 3 c = x ∧ m = m9) xN KK ρ m [vR 84, vI c] := by
  refine gE.ofw cl_X11.2 ?_ rfl rfl (Nat.le_of_ble_eq_true rfl)
  show gT l γ μX11_balance 1 0 0 _ _ KK ρ m 0 [some (vR 84), some (vI c), none, none, none] []
  have hn1 := hW.1
  have hN := hM.1
  refine tz_iconst (n := 1) (g_at ck_X11_balance 0 rfl) rfl ?_
  refine tz_istore2 (n := 2) (g_at ck_X11_balance 1 rfl) rfl (by decide) g_hpI ?_
  refine tz_iconst (n := 3) (g_at ck_X11_balance 2 rfl) rfl ?_
  refine tz_istore3 (n := 4) (g_at ck_X11_balance 3 rfl) rfl (by decide) g_hpI ?_
  refine g_for (fun i : Nat => gT l γ μX11_balance 1 0 0 _ _ KK ρ m 4 [some (vR 84), some (vI c), some (vI (lrN Λ s i 3 c)), some (vI (i : Int)), none] []) (Λ 0 0).toNat ?_ (fun i hi ihi => ?_) 0 (Nat.zero_le _)
  · skip
    refine tz_iload3 (n := 5) (g_at ck_X11_balance 4 rfl) rfl ?_
    refine tz_aload0 (n := 6) (g_at ck_X11_balance 5 rfl) rfl (g_ne kd_84) ?_
    refine tz_getIw (n := 9) (kz := 1) fk_X11_302 kd_84 (g_at ck_X11_balance 6 rfl) rfl rfl ?_
    rw [hN]
    refine tz_icmp_ge (n := 12) (tgt := 88) (g_at ck_X11_balance 7 rfl) rfl rfl (by omega) (fun h9 => ?_) (fun h9 => absurd h9 (by omega))
    refine tz_iload2 (n := 89) (g_at ck_X11_balance 52 rfl) rfl ?_
    exact tz_iret (g_at ck_X11_balance 53 rfl) rfl (rI_mk ⟨rfl, hR, by rw [wyW_o (by decide) (by decide)], rfl⟩)
  · skip
    have hcw := hW.2.2.1 (i : Int) (by omega) (by omega)
    have r87 := (hM.2.2.1 (i : Int) (by omega) (by omega)).2.2
    refine tz_iload3 (n := 5) (g_at ck_X11_balance 4 rfl) rfl ?_
    refine tz_aload0 (n := 6) (g_at ck_X11_balance 5 rfl) rfl (g_ne kd_84) ?_
    refine tz_getIw (n := 9) (kz := 1) fk_X11_302 kd_84 (g_at ck_X11_balance 6 rfl) rfl rfl ?_
    rw [hN]
    refine tz_icmp_ge (n := 12) (tgt := 88) (g_at ck_X11_balance 7 rfl) rfl rfl (by omega) (fun h9 => absurd h9 (by omega)) (fun h9 => ?_)
    refine tz_iconst (n := 13) (g_at ck_X11_balance 8 rfl) rfl ?_
    refine tz_istore4 (n := 15) (g_at ck_X11_balance 9 rfl) rfl (by decide) g_hpI ?_
    have d3 : lrN Λ s i 3 c = lrR Λ s (i : Int) (wr (wr (lrN Λ s i) 0 ((i : Int) * 9 + (i : Int)) 0) 1 ((i : Int) * 9 + (i : Int)) 0) 0 3 c := by show lrN Λ s i 3 c = (wr (wr (lrN Λ s i) 0 ((i : Int) * 9 + (i : Int)) 0) 1 ((i : Int) * 9 + (i : Int)) 0) 3 c; rw [wr_ne (by decide), wr_ne (by decide)]
    rw [d3]
    refine g_for (fun j : Nat => gT l γ μX11_balance 1 0 0 _ _ KK ρ m 15 [some (vR 84), some (vI c), some (vI (lrR Λ s (i : Int) (wr (wr (lrN Λ s i) 0 ((i : Int) * 9 + (i : Int)) 0) 1 ((i : Int) * 9 + (i : Int)) 0) j 3 c)), some (vI (i : Int)), some (vI (j : Int))] []) (Λ 3 (i : Int)).toNat ?_ (fun j hj ihj => ?_) 0 (Nat.zero_le _)
    · skip
      refine tz_iload4 (n := 17) (g_at ck_X11_balance 10 rfl) rfl ?_
      refine tz_aload0 (n := 18) (g_at ck_X11_balance 11 rfl) rfl (g_ne kd_84) ?_
      refine tz_getAv (n := 21) (a := 87) fk_X11_23 kd_84 (ly_84_7 hL) (g_at ck_X11_balance 12 rfl) rfl ?_
      refine tz_iload3 (n := 22) (g_at ck_X11_balance 13 rfl) rfl ?_
      refine tz_iald (n := 23) kd_87 (by omega) (g_at ck_X11_balance 14 rfl) rfl ?_
      rw [r87]
      refine tz_icmp_ge (n := 26) (tgt := 82) (g_at ck_X11_balance 15 rfl) rfl rfl (by omega) (fun h23 => ?_) (fun h23 => absurd h23 (by omega))
      refine tz_iinc3 (n := 85) (g_at ck_X11_balance 50 rfl) rfl (by decide) g_hpI ?_
      refine tz_goto (tgt := 4) (g_at ck_X11_balance 51 rfl) rfl ?_
      refine tz_drop4 ?_
      exact ihi
    · skip
      have r88 := hM.2.2.2.1 (i : Int) (j : Int) (by omega) (by omega) (by omega) (by omega)
      have het := hW.2.2.2.1 (i : Int) (j : Int) (by omega) (by omega) (by omega) (by omega)
      refine tz_iload4 (n := 17) (g_at ck_X11_balance 10 rfl) rfl ?_
      refine tz_aload0 (n := 18) (g_at ck_X11_balance 11 rfl) rfl (g_ne kd_84) ?_
      refine tz_getAv (n := 21) (a := 87) fk_X11_23 kd_84 (ly_84_7 hL) (g_at ck_X11_balance 12 rfl) rfl ?_
      refine tz_iload3 (n := 22) (g_at ck_X11_balance 13 rfl) rfl ?_
      refine tz_iald (n := 23) kd_87 (by omega) (g_at ck_X11_balance 14 rfl) rfl ?_
      rw [r87]
      refine tz_icmp_ge (n := 26) (tgt := 82) (g_at ck_X11_balance 15 rfl) rfl rfl (by omega) (fun h23 => absurd h23 (by omega)) (fun h23 => ?_)
      refine tz_aload0 (n := 27) (g_at ck_X11_balance 16 rfl) rfl (g_ne kd_84) ?_
      refine tz_iconst (n := 28) (g_at ck_X11_balance 17 rfl) rfl ?_
      refine tz_iload3 (n := 29) (g_at ck_X11_balance 18 rfl) rfl ?_
      refine tz_iload4 (n := 31) (g_at ck_X11_balance 19 rfl) rfl ?_
      refine tz_cvI3 (n := 34) (μ' := μX11_isShut) (cb' := 0) (sb' := 0) ml_X11_338 mo_X11_isShut mv_X11_isShut np_X11_isShut kd_84 (g_at ck_X11_balance 20 rfl) (mp_isShut hL hR (Or.inl rfl) (by omega)) rfl rfl rfl ⟨by decide, by decide⟩ (Nat.le_of_ble_eq_true rfl) (by decide) (by decide) (fun x31 ρ9 m31 hq => ?_)
      obtain ⟨rfl, hR1, rfl, rfl⟩ := hq
      rw [show (0 : Int) + 26 + (i : Int) = 26 + (i : Int) by omega, hs (26 + (i : Int)) (by omega) (by omega)]
      have h01 := shutB_01 (s (26 + (i : Int))) (j : Int)
      refine tz_if_eq (n := 37) (tgt := 40) (g_at ck_X11_balance 21 rfl) rfl rfl (by omega) (fun h34 => ?_) (fun h34 => ?_)
      · skip
        refine tz_iload2 (n := 41) (g_at ck_X11_balance 23 rfl) rfl ?_
        refine tz_aload0 (n := 42) (g_at ck_X11_balance 24 rfl) rfl (g_ne kd_84) ?_
        refine tz_getAv (n := 45) (a := 88) fk_X11_26 kd_84 (ly_84_8 hL) (g_at ck_X11_balance 25 rfl) rfl ?_
        refine tz_iconst (n := 46) (g_at ck_X11_balance 26 rfl) rfl ?_
        refine tz_iload3 (n := 47) (g_at ck_X11_balance 27 rfl) rfl ?_
        refine tz_imul (n := 48) (g_at ck_X11_balance 28 rfl) rfl ?_
        refine tz_iload4 (n := 50) (g_at ck_X11_balance 29 rfl) rfl ?_
        refine tz_iadd (n := 51) (g_at ck_X11_balance 30 rfl) rfl ?_
        refine tz_iald (n := 52) kd_88 (by omega) (g_at ck_X11_balance 31 rfl) rfl ?_
        rw [r88]
        refine tz_iload1 (n := 53) (g_at ck_X11_balance 32 rfl) rfl ?_
        refine tz_icmp_ne (n := 56) (tgt := 60) (g_at ck_X11_balance 33 rfl) rfl rfl (by omega) (fun h53 => ?_) (fun h53 => ?_)
        · skip
          refine tz_iconst (n := 61) (g_at ck_X11_balance 36 rfl) rfl ?_
          refine tz_iadd (n := 62) (g_at ck_X11_balance 37 rfl) rfl ?_
          refine tz_istore2 (n := 63) (g_at ck_X11_balance 38 rfl) rfl (by decide) g_hpI ?_
          refine tz_iload2 (n := 64) (g_at ck_X11_balance 39 rfl) rfl ?_
          refine tz_iload3 (n := 65) (g_at ck_X11_balance 40 rfl) rfl ?_
          refine tz_iload1 (n := 66) (g_at ck_X11_balance 41 rfl) rfl ?_
          refine tz_icmp_ne (n := 69) (tgt := 73) (g_at ck_X11_balance 42 rfl) rfl rfl (by omega) (fun h66 => ?_) (fun h66 => ?_)
          · skip
            refine tz_iconst (n := 74) (g_at ck_X11_balance 45 rfl) rfl ?_
            refine tz_isub (n := 75) (g_at ck_X11_balance 46 rfl) rfl ?_
            refine tz_istore2 (n := 76) (g_at ck_X11_balance 47 rfl) rfl (by decide) g_hpI ?_
            refine tz_iinc4 (n := 79) (g_at ck_X11_balance 48 rfl) rfl (by decide) g_hpI ?_
            refine tz_goto (tgt := 15) (g_at ck_X11_balance 49 rfl) rfl ?_
            have e9 : lrR Λ s (i : Int) (wr (wr (lrN Λ s i) 0 ((i : Int) * 9 + (i : Int)) 0) 1 ((i : Int) * 9 + (i : Int)) 0) (j + 1) 3 c = (lrR Λ s (i : Int) (wr (wr (lrN Λ s i) 0 ((i : Int) * 9 + (i : Int)) 0) 1 ((i : Int) * 9 + (i : Int)) 0) j 3 c) + 0 - 0 := (congrArg (fun z9 : Mm => z9 3 c) (if_pos h34)).trans (lrP_3.trans (by rw [if_neg h53, if_neg h66]; rfl))
            rw [e9] at ihj
            exact ihj
          · skip
            refine tz_iconst (n := 70) (g_at ck_X11_balance 43 rfl) rfl ?_
            refine tz_goto (tgt := 74) (g_at ck_X11_balance 44 rfl) rfl ?_
            refine tz_isub (n := 75) (g_at ck_X11_balance 46 rfl) rfl ?_
            refine tz_istore2 (n := 76) (g_at ck_X11_balance 47 rfl) rfl (by decide) g_hpI ?_
            refine tz_iinc4 (n := 79) (g_at ck_X11_balance 48 rfl) rfl (by decide) g_hpI ?_
            refine tz_goto (tgt := 15) (g_at ck_X11_balance 49 rfl) rfl ?_
            have e9 : lrR Λ s (i : Int) (wr (wr (lrN Λ s i) 0 ((i : Int) * 9 + (i : Int)) 0) 1 ((i : Int) * 9 + (i : Int)) 0) (j + 1) 3 c = (lrR Λ s (i : Int) (wr (wr (lrN Λ s i) 0 ((i : Int) * 9 + (i : Int)) 0) 1 ((i : Int) * 9 + (i : Int)) 0) j 3 c) + 0 - 1 := (congrArg (fun z9 : Mm => z9 3 c) (if_pos h34)).trans (lrP_3.trans (by rw [if_neg h53, if_pos h66]; rfl))
            rw [e9] at ihj
            exact ihj
        · skip
          refine tz_iconst (n := 57) (g_at ck_X11_balance 34 rfl) rfl ?_
          refine tz_goto (tgt := 61) (g_at ck_X11_balance 35 rfl) rfl ?_
          refine tz_iadd (n := 62) (g_at ck_X11_balance 37 rfl) rfl ?_
          refine tz_istore2 (n := 63) (g_at ck_X11_balance 38 rfl) rfl (by decide) g_hpI ?_
          refine tz_iload2 (n := 64) (g_at ck_X11_balance 39 rfl) rfl ?_
          refine tz_iload3 (n := 65) (g_at ck_X11_balance 40 rfl) rfl ?_
          refine tz_iload1 (n := 66) (g_at ck_X11_balance 41 rfl) rfl ?_
          refine tz_icmp_ne (n := 69) (tgt := 73) (g_at ck_X11_balance 42 rfl) rfl rfl (by omega) (fun h66 => ?_) (fun h66 => ?_)
          · skip
            refine tz_iconst (n := 74) (g_at ck_X11_balance 45 rfl) rfl ?_
            refine tz_isub (n := 75) (g_at ck_X11_balance 46 rfl) rfl ?_
            refine tz_istore2 (n := 76) (g_at ck_X11_balance 47 rfl) rfl (by decide) g_hpI ?_
            refine tz_iinc4 (n := 79) (g_at ck_X11_balance 48 rfl) rfl (by decide) g_hpI ?_
            refine tz_goto (tgt := 15) (g_at ck_X11_balance 49 rfl) rfl ?_
            have e9 : lrR Λ s (i : Int) (wr (wr (lrN Λ s i) 0 ((i : Int) * 9 + (i : Int)) 0) 1 ((i : Int) * 9 + (i : Int)) 0) (j + 1) 3 c = (lrR Λ s (i : Int) (wr (wr (lrN Λ s i) 0 ((i : Int) * 9 + (i : Int)) 0) 1 ((i : Int) * 9 + (i : Int)) 0) j 3 c) + 1 - 0 := (congrArg (fun z9 : Mm => z9 3 c) (if_pos h34)).trans (lrP_3.trans (by rw [if_pos h53, if_neg h66]; rfl))
            rw [e9] at ihj
            exact ihj
          · skip
            refine tz_iconst (n := 70) (g_at ck_X11_balance 43 rfl) rfl ?_
            refine tz_goto (tgt := 74) (g_at ck_X11_balance 44 rfl) rfl ?_
            refine tz_isub (n := 75) (g_at ck_X11_balance 46 rfl) rfl ?_
            refine tz_istore2 (n := 76) (g_at ck_X11_balance 47 rfl) rfl (by decide) g_hpI ?_
            refine tz_iinc4 (n := 79) (g_at ck_X11_balance 48 rfl) rfl (by decide) g_hpI ?_
            refine tz_goto (tgt := 15) (g_at ck_X11_balance 49 rfl) rfl ?_
            have e9 : lrR Λ s (i : Int) (wr (wr (lrN Λ s i) 0 ((i : Int) * 9 + (i : Int)) 0) 1 ((i : Int) * 9 + (i : Int)) 0) (j + 1) 3 c = (lrR Λ s (i : Int) (wr (wr (lrN Λ s i) 0 ((i : Int) * 9 + (i : Int)) 0) 1 ((i : Int) * 9 + (i : Int)) 0) j 3 c) + 1 - 1 := (congrArg (fun z9 : Mm => z9 3 c) (if_pos h34)).trans (lrP_3.trans (by rw [if_pos h53, if_pos h66]; rfl))
            rw [e9] at ihj
            exact ihj
      · skip
        refine tz_goto (tgt := 76) (g_at ck_X11_balance 22 rfl) rfl ?_
        refine tz_iinc4 (n := 79) (g_at ck_X11_balance 48 rfl) rfl (by decide) g_hpI ?_
        refine tz_goto (tgt := 15) (g_at ck_X11_balance 49 rfl) rfl ?_
        have e9 : lrR Λ s (i : Int) (wr (wr (lrN Λ s i) 0 ((i : Int) * 9 + (i : Int)) 0) 1 ((i : Int) * 9 + (i : Int)) 0) (j + 1) 3 c = (lrR Λ s (i : Int) (wr (wr (lrN Λ s i) 0 ((i : Int) * 9 + (i : Int)) 0) 1 ((i : Int) * 9 + (i : Int)) 0) j 3 c) := congrArg (fun z9 : Mm => z9 3 c) (if_neg h34)
        rw [e9] at ihj
        exact ihj
