/-! The reference: gather, covered. -/
def E2 (ω : Mm) : Prop := ∀ j, ω 0 j = 10000 ↔ ω 1 j = 10000
theorem mn_10 {x y z : Int} (hx : Bd 4608 x) (hy : Bd 4608 y) (hz : Bd 4608 z) : mn2 x (y + z) = 10000 ↔ (x = 10000 ∧ (y = 10000 ∨ z = 10000)) := by
  unfold Bd at hx hy hz
  unfold mn2
  split <;> omega
theorem E2.s {b a z : Int} {w : Mm} (h : E2 w) (hw : W2 4608 w) : E2 (jnS b a z w) := fun j => by
  have c0 : jnS b a z w 0 = wr w 0 (a * 9 + z) (mn2 (w 0 (a * 9 + z)) (w 0 (a * 9 + b) + w 0 (b * 9 + z))) 0 := by unfold jnS; rw [wr_ne (by decide)]
  have c1 : jnS b a z w 1 = wr w 1 (a * 9 + z) (mn2 (w 1 (a * 9 + z)) (w 1 (a * 9 + b) + w 1 (b * 9 + z))) 1 := by unfold jnS; funext j; rw [wr_at, wr_at, wr_ne (by decide)]
  rw [c0, c1, wr_at, wr_at]
  by_cases e : j = a * 9 + z
  · rw [if_pos e, if_pos e, mn_10 (hw _).1 (hw _).1 (hw _).1, mn_10 (hw _).2 (hw _).2 (hw _).2, h (a * 9 + z), h (a * 9 + b), h (b * 9 + z)]
  · rw [if_neg e, if_neg e]
    exact h j
theorem jnZ_i {b a M : Int} {w0 w : Mm} (h : SB b M w0 w) (he : E2 w) (hM : 0 ≤ M ∧ 2 * M ≤ 4608) (hb : 0 ≤ b ∧ b < 9) (ha : 0 ≤ a ∧ a < 9) : ∀ n : Nat, n ≤ 9 → SB b M w0 (jnZ b a w n) ∧ E2 (jnZ b a w n)
  | 0, _ => ⟨h, he⟩
  | n + 1, hn => by
    have ih := jnZ_i h he hM hb ha n (by omega)
    exact ⟨ih.1.s hM hb ha (show 0 ≤ (n : Int) ∧ (n : Int) < 9 by omega), ih.2.s fun j => ⟨(ih.1.2.1 j).1.up hM.2, (ih.1.2.1 j).2.up hM.2⟩⟩
theorem jnA_i {N : Nat} {b M : Int} {w0 w : Mm} (hN : N ≤ 9) (h : SB b M w0 w) (he : E2 w) (hM : 0 ≤ M ∧ 2 * M ≤ 4608) (hb : 0 ≤ b ∧ b < 9) : ∀ n : Nat, n ≤ 9 → SB b M w0 (jnA N b w n) ∧ E2 (jnA N b w n)
  | 0, _ => ⟨h, he⟩
  | n + 1, hn => by
    have ih := jnA_i hN h he hM hb n (by omega)
    exact jnZ_i ih.1 ih.2 hM hb (show 0 ≤ (n : Int) ∧ (n : Int) < 9 by omega) N hN
theorem jnN_i {N : Nat} {w : Mm} (hN : N ≤ 9) (h : W2 9 w) (he : E2 w) : ∀ n : Nat, n ≤ 9 → W2 (mB n) (jnN N w n) ∧ E2 (jnN N w n)
  | 0, _ => ⟨h, he⟩
  | n + 1, hn => by
    have ih := jnN_i hN h he n (by omega)
    have hmb := mB_rg n (by omega)
    have k := jnA_i hN (SB.rf (b := (n : Int)) ih.1 hmb.1) ih.2 hmb (show 0 ≤ (n : Int) ∧ (n : Int) < 9 by omega) N hN
    exact ⟨by rw [mB_s n (by omega)]; exact k.1.2.1, k.2⟩
theorem wrE {ω : Mm} {j x y : Int} (h : W2 9 ω ∧ E2 ω) (hx : 0 ≤ x ∧ x ≤ 9) (hy : 0 ≤ y ∧ y ≤ 9) {τ : Mm} (t0 : τ 0 = wr ω 0 j x 0) (t1 : τ 1 = wr ω 1 j y 1) : W2 9 τ ∧ E2 τ := by
  refine ⟨fun k => ?_, fun k => ?_⟩
  · rw [t0, t1, wr_at, wr_at]
    constructor
    · split
      · exact Or.inr hx
      · exact (h.1 k).1
    · split
      · exact Or.inr hy
      · exact (h.1 k).2
  · rw [t0, t1, wr_at, wr_at]
    by_cases e : k = j
    · rw [if_pos e, if_pos e]
      omega
    · rw [if_neg e, if_neg e]
      exact h.2 k
theorem lrR_i {Λ ω : Mm} {s : Int → Int} {a : Int} (hW : WL Λ) (ha : 0 ≤ a ∧ a < Λ 0 0) (h : W2 9 ω ∧ E2 ω) : ∀ n : Nat, (n : Int) ≤ Λ 3 a → W2 9 (lrR Λ s a ω n) ∧ E2 (lrR Λ s a ω n)
  | 0, _ => h
  | n + 1, hn => by
    have ih := lrR_i (s := s) hW ha h n (by omega)
    have he := hW.2.2.2.1 a (n : Int) ha.1 ha.2 (by omega) (by omega)
    have ht := hW.2.2.1 _ he.1 he.2
    have e : lrR Λ s a ω (n + 1) = if shutB (s (26 + a)) (n : Int) = 0 then lrP Λ a (Λ 4 (a * 5 + (n : Int))) (lrR Λ s a ω n) else lrR Λ s a ω n := rfl
    rw [e]
    split
    · exact wrE ih (show 0 ≤ (1 : Int) ∧ (1 : Int) ≤ 9 by decide) ⟨ht.1, ht.2.1⟩ lrP_01.1 lrP_01.2
    · exact ih
theorem lrN_i {Λ : Mm} {s : Int → Int} (hW : WL Λ) : ∀ n : Nat, (n : Int) ≤ Λ 0 0 → W2 9 (lrN Λ s n) ∧ E2 (lrN Λ s n)
  | 0, _ => ⟨fun _ => ⟨Or.inl rfl, Or.inl rfl⟩, fun _ => ⟨fun _ => rfl, fun _ => rfl⟩⟩
  | n + 1, hn => by
    have ih := lrN_i (s := s) hW n (by omega)
    have hc := hW.2.2.1 (n : Int) (by omega) (by omega)
    have k : W2 9 (wr (wr (lrN Λ s n) 0 ((n : Int) * 9 + (n : Int)) 0) 1 ((n : Int) * 9 + (n : Int)) 0) ∧ E2 (wr (wr (lrN Λ s n) 0 ((n : Int) * 9 + (n : Int)) 0) 1 ((n : Int) * 9 + (n : Int)) 0) := wrE (ω := lrN Λ s n) (j := (n : Int) * 9 + (n : Int)) (x := 0) (y := 0) ih (by decide) (by decide) (by rw [wr_ne (by decide)]) (by funext j; rw [wr_at, wr_at, wr_ne (by decide)])
    exact lrR_i hW (by omega) k (Λ 3 (n : Int)).toNat (by omega)
theorem wyW_i {Λ : Mm} {s : Int → Int} (hW : WL Λ) : W2 4608 (wyW Λ s) ∧ E2 (wyW Λ s) := by
  have h0 := hW.1
  have h1 := lrN_i (s := s) hW (Λ 0 0).toNat (by omega)
  have h2 := jnN_i (N := (Λ 0 0).toNat) (by omega) h1.1 h1.2 (Λ 0 0).toNat (by omega)
  have h3 := mB_le (Λ 0 0).toNat (by omega)
  exact ⟨fun j => ⟨(h2.1 j).1.up h3, (h2.1 j).2.up h3⟩, h2.2⟩
theorem far_cost {Λ : Mm} {s : Int → Int} (hW : WL Λ) (j : Int) : wyW Λ s 0 j < 10000 ↔ wyW Λ s 1 j < 10000 := by
  have h := wyW_i (s := s) hW
  have h1 := h.1 j
  have h2 := h.2 j
  unfold Bd at h1
  omega
theorem cm_rg {Λ : Mm} {s : Int → Int} (hW : WL Λ) {c : Int} : ∀ n : Nat, n ≤ 8 → (0 ≤ cmN Λ s c n ∧ cmN Λ s c n ≤ n) ∧ (0 ≤ ccN Λ s c n ∧ ccN Λ s c n ≤ 4608 * n)
  | 0, _ => by show (0 ≤ (0 : Int) ∧ (0 : Int) ≤ ((0 : Nat) : Int)) ∧ (0 ≤ (0 : Int) ∧ (0 : Int) ≤ 4608 * ((0 : Nat) : Int)); omega
  | n + 1, h => by
    have ih := cm_rg (s := s) hW (c := c) n (by omega)
    have h1 := ((wyW_i (s := s) hW).1 (s (1 + (n : Int)) * 9 + c)).2
    unfold Bd at h1
    show (0 ≤ cmN Λ s c n + _ ∧ cmN Λ s c n + _ ≤ _) ∧ (0 ≤ ccN Λ s c n + _ ∧ ccN Λ s c n + _ ≤ _)
    repeat' split
    all_goals omega
theorem tr_id {x : Int} (h : Bd 4608 x) (k : x < 10000) : tr9 x = x := by
  unfold tr9
  rw [if_neg (by omega)]
theorem ga_rg {Λ : Mm} {s : Int → Int} (hW : WL Λ) : ∀ n : Nat, n ≤ 9 → (-1 ≤ (gaN Λ s n).1 ∧ (gaN Λ s n).1 ≤ 9) ∧ (0 ≤ (gaN Λ s n).2.1 ∧ (gaN Λ s n).2.1 ≤ 8) ∧ 0 ≤ (gaN Λ s n).2.2 ∧ (gaN Λ s n).2.2 ≤ 40000
  | 0, _ => by show (-1 ≤ (-1 : Int) ∧ (-1 : Int) ≤ 9) ∧ (0 ≤ (0 : Int) ∧ (0 : Int) ≤ 8) ∧ 0 ≤ (0 : Int) ∧ (0 : Int) ≤ 40000; decide
  | n + 1, h => by
    have h8 := hW.2.1
    have ih := ga_rg (s := s) hW n (by omega)
    have hc := cm_rg (s := s) hW (c := (n : Int)) (Λ 0 1).toNat (by omega)
    have e : gaN Λ s (n + 1) = gaS Λ s (n : Int) (gaN Λ s n) := rfl
    rw [e]
    unfold gaS
    split
    · show (-1 ≤ (n : Int) ∧ (n : Int) ≤ 9) ∧ (0 ≤ cmN Λ s (n : Int) (Λ 0 1).toNat ∧ cmN Λ s (n : Int) (Λ 0 1).toNat ≤ 8) ∧ 0 ≤ ccN Λ s (n : Int) (Λ 0 1).toNat ∧ ccN Λ s (n : Int) (Λ 0 1).toNat ≤ 40000
      omega
    · exact ih
theorem mp_gather {l : Launch} {γ : Gh} {ρ m : Mm} {w : Int} (hw : -2147483648 ≤ w ∧ w < 2147483648) {s : Int → Int} {Λ : Mm} {hl tl : List Int} (hL : LY ρ) (hR : MR m) (hW : WL Λ) (hM : MLand m Λ hl tl) (hs : MRow m s) (hσ : WS Λ 0 (sig0 s)) (hz : m 84 51 = 0) : gE l γ μX11_gather 3 0 0 (rI KK fun x ρ9 m9 => ρ = ρ9 ∧ MR m9 ∧ mK m m9 ∧ m9 84 0 = cdW w 2 ∧ (cdW w 2 = 0 → (if w = 0 then (gaN Λ s (Λ 0 0).toNat).1 else if w = 1 then (gaN Λ s (Λ 0 0).toNat).2.1 else (gaN Λ s (Λ 0 0).toNat).2.2) = x)) xN KK ρ m [vR 84, vI w] := by
  refine gE.ofw cl_X11.2 ?_ rfl rfl (Nat.le_of_ble_eq_true rfl)
  show gT l γ μX11_gather 3 0 0 _ _ KK ρ m 0 [some (vR 84), some (vI w), none, none, none, none, none, none, none, none] []
  have hn1 := hW.1
  have hn8 := hW.2.1
  refine tz_aload0 (n := 1) (g_at ck_X11_gather 0 rfl) rfl (g_ne kd_84) ?_
  refine tz_iconst (n := 2) (g_at ck_X11_gather 1 rfl) rfl ?_
  refine tz_putIr (n := 5) (kz := 0) fk_X11_132 kd_84 (g_at ck_X11_gather 2 rfl) rfl hR ⟨(by decide), (by decide)⟩ rfl (fun hR1 => ?_)
  obtain ⟨m0, e0⟩ : ∃ m0, m0 = wr m 84 0 0 := ⟨_, rfl⟩
  rw [← e0] at hR1 ⊢
  have hk0 : mK m m0 := by rw [e0]; exact mK.w0
  have hM0 := hk0.land hM
  have hs0 := hk0.row hs
  have hz0 : m0 84 51 = 0 := hk0.w51.trans hz
  have h00 : m0 84 0 = 0 := by rw [e0, wr_same]
  have hw0 := hw_0 hz0
  refine tz_aload0 (n := 6) (g_at ck_X11_gather 3 rfl) rfl (g_ne kd_84) ?_
  refine tz_iload1 (n := 7) (g_at ck_X11_gather 4 rfl) rfl ?_
  refine tz_iconst (n := 8) (g_at ck_X11_gather 5 rfl) rfl ?_
  refine tz_cvI2 (n := 11) (μ' := μX11_isWhat) (cb' := 0) (sb' := 0) ml_X11_396 mo_X11_isWhat mv_X11_isWhat np_X11_isWhat kd_84 (g_at ck_X11_gather 6 rfl) (mp_isWhat hw (by decide) hL hR1 h00) rfl rfl rfl ⟨by decide, by decide⟩ (Nat.le_of_ble_eq_true rfl) (by decide) (by decide) (fun x8 ρ9 m8 hq => ?_)
  obtain ⟨rfl, hR2, hq8⟩ := hq
  refine tz_if_ne (n := 14) (tgt := 16) (g_at ck_X11_gather 7 rfl) rfl rfl (by rcases hq8.b01 with h9 | h9 <;> omega) (fun h11 => ?_) (fun h11 => ?_)
  · skip
    obtain ⟨hc0, rfl⟩ := hq8.ok h11
    have hi0 := cdW_i hc0
    refine tz_aload0 (n := 17) (g_at ck_X11_gather 10 rfl) rfl (g_ne kd_84) ?_
    refine tz_cvV0 (n := 20) (μ' := μX11_laysWays) (cb' := 0) (sb' := 0) ml_X11_365 mo_X11_laysWays mv_X11_laysWays np_X11_laysWays kd_84 (g_at ck_X11_gather 11 rfl) (mp_laysWays hL hR2 hW hM0 hs0 hσ hz0) rfl rfl rfl ⟨by decide, by decide⟩ (Nat.le_of_ble_eq_true rfl) (by decide) (by decide) (fun ρ9 m17 hq => ?_)
    obtain ⟨rfl, hR3, hF17, hr17, hw17⟩ := hq
    have hM9 := hM0.fr hF17 (by decide)
    have hs9 : m17 103 = m0 103 := hF17 103 (by decide)
    refine tz_iconst (n := 21) (g_at ck_X11_gather 12 rfl) rfl ?_
    refine tz_istore2 (n := 22) (g_at ck_X11_gather 13 rfl) rfl (by decide) g_hpI ?_
    refine tz_iconst (n := 23) (g_at ck_X11_gather 14 rfl) rfl ?_
    refine tz_istore3 (n := 24) (g_at ck_X11_gather 15 rfl) rfl (by decide) g_hpI ?_
    refine tz_iconst (n := 25) (g_at ck_X11_gather 16 rfl) rfl ?_
    refine tz_istore4 (n := 27) (g_at ck_X11_gather 17 rfl) rfl (by decide) g_hpI ?_
    refine tz_iconst (n := 28) (g_at ck_X11_gather 18 rfl) rfl ?_
    refine tz_istore5 (n := 30) (g_at ck_X11_gather 19 rfl) rfl (by decide) g_hpI ?_
    refine g_for (fun i : Nat => gT l γ μX11_gather 3 0 0 _ _ KK ρ m17 30 [some (vR 84), some (vI w), some (vI (gaN Λ s i).1), some (vI (gaN Λ s i).2.1), some (vI (gaN Λ s i).2.2), some (vI (i : Int)), none, none, none, none] []) (Λ 0 0).toNat ?_ (fun i hi ihi => ?_) 0 (Nat.zero_le _)
    · skip
      refine tz_iload5 (n := 32) (g_at ck_X11_gather 20 rfl) rfl ?_
      refine tz_aload0 (n := 33) (g_at ck_X11_gather 21 rfl) rfl (g_ne kd_84) ?_
      refine tz_getIw (n := 36) (kz := 1) fk_X11_302 kd_84 (g_at ck_X11_gather 22 rfl) rfl rfl ?_
      rw [hM9.1]
      refine tz_icmp_ge (n := 39) (tgt := 165) (g_at ck_X11_gather 23 rfl) rfl rfl (by omega) (fun h36 => ?_) (fun h36 => absurd h36 (by omega))
      refine tz_iload1 (n := 166) (g_at ck_X11_gather 89 rfl) rfl ?_
      refine tz_if_ne (n := 169) (tgt := 173) (g_at ck_X11_gather 90 rfl) rfl rfl hw (fun h166 => ?_) (fun h166 => ?_)
      · skip
        refine tz_iload1 (n := 174) (g_at ck_X11_gather 93 rfl) rfl ?_
        refine tz_iconst (n := 175) (g_at ck_X11_gather 94 rfl) rfl ?_
        refine tz_icmp_ne (n := 178) (tgt := 182) (g_at ck_X11_gather 95 rfl) rfl rfl ⟨hw.1, hw.2, by decide, by decide⟩ (fun h175 => ?_) (fun h175 => ?_)
        · skip
          refine tz_iload4 (n := 184) (g_at ck_X11_gather 98 rfl) rfl ?_
          exact tz_iret (g_at ck_X11_gather 99 rfl) rfl (rI_mk ⟨rfl, hR3, hk0.tr (mK.l hF17 (by decide)), by rw [hF17 84 (by decide), h00, hc0], fun _ => by rw [if_neg h166, if_neg h175]⟩)
        · skip
          refine tz_iload3 (n := 179) (g_at ck_X11_gather 96 rfl) rfl ?_
          refine tz_goto (tgt := 184) (g_at ck_X11_gather 97 rfl) rfl ?_
          exact tz_iret (g_at ck_X11_gather 99 rfl) rfl (rI_mk ⟨rfl, hR3, hk0.tr (mK.l hF17 (by decide)), by rw [hF17 84 (by decide), h00, hc0], fun _ => by rw [if_neg h166, if_pos h175]⟩)
      · skip
        refine tz_iload2 (n := 170) (g_at ck_X11_gather 91 rfl) rfl ?_
        refine tz_goto (tgt := 184) (g_at ck_X11_gather 92 rfl) rfl ?_
        exact tz_iret (g_at ck_X11_gather 99 rfl) rfl (rI_mk ⟨rfl, hR3, hk0.tr (mK.l hF17 (by decide)), by rw [hF17 84 (by decide), h00, hc0], fun _ => if_pos h166⟩)
    · skip
      have hgr := ga_rg (s := s) hW i (by omega)
      have hcr := cm_rg (s := s) hW (c := (i : Int)) (Λ 0 1).toNat (by omega)
      have hgy : ((gaN Λ s i).1 = -1 ∨ (gaN Λ s i).2.1 < (cmN Λ s (i : Int) (Λ 0 1).toNat) ∨ ((cmN Λ s (i : Int) (Λ 0 1).toNat) = (gaN Λ s i).2.1 ∧ (ccN Λ s (i : Int) (Λ 0 1).toNat) < (gaN Λ s i).2.2)) → ((gaN Λ s i).1 = -1 ∨ (gaN Λ s i).2.1 < (cmN Λ s (i : Int) (Λ 0 1).toNat) ∨ ((cmN Λ s (i : Int) (Λ 0 1).toNat) = (gaN Λ s i).2.1 ∧ (ccN Λ s (i : Int) (Λ 0 1).toNat) < (gaN Λ s i).2.2)) := id
      have hgn : ¬ ((gaN Λ s i).1 = -1 ∨ (gaN Λ s i).2.1 < (cmN Λ s (i : Int) (Λ 0 1).toNat) ∨ ((cmN Λ s (i : Int) (Λ 0 1).toNat) = (gaN Λ s i).2.1 ∧ (ccN Λ s (i : Int) (Λ 0 1).toNat) < (gaN Λ s i).2.2)) → ¬ ((gaN Λ s i).1 = -1 ∨ (gaN Λ s i).2.1 < (cmN Λ s (i : Int) (Λ 0 1).toNat) ∨ ((cmN Λ s (i : Int) (Λ 0 1).toNat) = (gaN Λ s i).2.1 ∧ (ccN Λ s (i : Int) (Λ 0 1).toNat) < (gaN Λ s i).2.2)) := id
      refine tz_iload5 (n := 32) (g_at ck_X11_gather 20 rfl) rfl ?_
      refine tz_aload0 (n := 33) (g_at ck_X11_gather 21 rfl) rfl (g_ne kd_84) ?_
      refine tz_getIw (n := 36) (kz := 1) fk_X11_302 kd_84 (g_at ck_X11_gather 22 rfl) rfl rfl ?_
      rw [hM9.1]
      refine tz_icmp_ge (n := 39) (tgt := 165) (g_at ck_X11_gather 23 rfl) rfl rfl (by omega) (fun h36 => absurd h36 (by omega)) (fun h36 => ?_)
      refine tz_iconst (n := 40) (g_at ck_X11_gather 24 rfl) rfl ?_
      refine tz_istore6 (n := 42) (g_at ck_X11_gather 25 rfl) rfl (by decide) g_hpI ?_
      refine tz_iconst (n := 43) (g_at ck_X11_gather 26 rfl) rfl ?_
      refine tz_istore7 (n := 45) (g_at ck_X11_gather 27 rfl) rfl (by decide) g_hpI ?_
      refine tz_iconst (n := 46) (g_at ck_X11_gather 28 rfl) rfl ?_
      refine tz_istore8 (n := 48) (g_at ck_X11_gather 29 rfl) rfl (by decide) g_hpI ?_
      refine g_for (fun j : Nat => gT l γ μX11_gather 3 0 0 _ _ KK ρ m17 48 [some (vR 84), some (vI w), some (vI (gaN Λ s i).1), some (vI (gaN Λ s i).2.1), some (vI (gaN Λ s i).2.2), some (vI (i : Int)), some (vI (cmN Λ s (i : Int) j)), some (vI (ccN Λ s (i : Int) j)), some (vI (j : Int)), none] []) (Λ 0 1).toNat ?_ (fun j hj ihj => ?_) 0 (Nat.zero_le _)
      · skip
        refine tz_iload8 (n := 50) (g_at ck_X11_gather 30 rfl) rfl ?_
        refine tz_aload0 (n := 51) (g_at ck_X11_gather 31 rfl) rfl (g_ne kd_84) ?_
        refine tz_getIw (n := 54) (kz := 2) fk_X11_305 kd_84 (g_at ck_X11_gather 32 rfl) rfl rfl ?_
        rw [hM9.2.1]
        refine tz_icmp_ge (n := 57) (tgt := 122) (g_at ck_X11_gather 33 rfl) rfl rfl (by omega) (fun h54 => ?_) (fun h54 => absurd h54 (by omega))
        refine tz_iload2 (n := 123) (g_at ck_X11_gather 68 rfl) rfl ?_
        refine tz_iconst (n := 124) (g_at ck_X11_gather 69 rfl) rfl ?_
        refine tz_icmp_eq (n := 127) (tgt := 149) (g_at ck_X11_gather 70 rfl) rfl rfl (by omega) (fun h124 => ?_) (fun h124 => ?_)
        · skip
          refine tz_iload5 (n := 151) (g_at ck_X11_gather 81 rfl) rfl ?_
          refine tz_istore2 (n := 152) (g_at ck_X11_gather 82 rfl) rfl (by decide) g_hpI ?_
          refine tz_iload6 (n := 154) (g_at ck_X11_gather 83 rfl) rfl ?_
          refine tz_istore3 (n := 155) (g_at ck_X11_gather 84 rfl) rfl (by decide) g_hpI ?_
          refine tz_iload7 (n := 157) (g_at ck_X11_gather 85 rfl) rfl ?_
          refine tz_istore4 (n := 159) (g_at ck_X11_gather 86 rfl) rfl (by decide) g_hpI ?_
          refine tz_iinc5 (n := 162) (g_at ck_X11_gather 87 rfl) rfl (by decide) g_hpI ?_
          refine tz_goto (tgt := 30) (g_at ck_X11_gather 88 rfl) rfl ?_
          refine tz_drop6 ?_
          refine tz_drop7 ?_
          refine tz_drop8 ?_
          have e9 : gaN Λ s (i + 1) = ((i : Int), (cmN Λ s (i : Int) (Λ 0 1).toNat), (ccN Λ s (i : Int) (Λ 0 1).toNat)) := if_pos (hgy (by omega))
          rw [e9] at ihi
          exact ihi
        · skip
          refine tz_iload6 (n := 129) (g_at ck_X11_gather 71 rfl) rfl ?_
          refine tz_iload3 (n := 130) (g_at ck_X11_gather 72 rfl) rfl ?_
          refine tz_icmp_lt (n := 133) (tgt := 159) (g_at ck_X11_gather 73 rfl) rfl rfl (by omega) (fun h130 => ?_) (fun h130 => ?_)
          · skip
            refine tz_iinc5 (n := 162) (g_at ck_X11_gather 87 rfl) rfl (by decide) g_hpI ?_
            refine tz_goto (tgt := 30) (g_at ck_X11_gather 88 rfl) rfl ?_
            refine tz_drop6 ?_
            refine tz_drop7 ?_
            refine tz_drop8 ?_
            have e9 : gaN Λ s (i + 1) = (gaN Λ s i) := if_neg (hgn (by omega))
            rw [e9] at ihi
            exact ihi
          · skip
            refine tz_iload6 (n := 135) (g_at ck_X11_gather 74 rfl) rfl ?_
            refine tz_iload3 (n := 136) (g_at ck_X11_gather 75 rfl) rfl ?_
            refine tz_icmp_ne (n := 139) (tgt := 149) (g_at ck_X11_gather 76 rfl) rfl rfl (by omega) (fun h136 => ?_) (fun h136 => ?_)
            · skip
              refine tz_iload5 (n := 151) (g_at ck_X11_gather 81 rfl) rfl ?_
              refine tz_istore2 (n := 152) (g_at ck_X11_gather 82 rfl) rfl (by decide) g_hpI ?_
              refine tz_iload6 (n := 154) (g_at ck_X11_gather 83 rfl) rfl ?_
              refine tz_istore3 (n := 155) (g_at ck_X11_gather 84 rfl) rfl (by decide) g_hpI ?_
              refine tz_iload7 (n := 157) (g_at ck_X11_gather 85 rfl) rfl ?_
              refine tz_istore4 (n := 159) (g_at ck_X11_gather 86 rfl) rfl (by decide) g_hpI ?_
              refine tz_iinc5 (n := 162) (g_at ck_X11_gather 87 rfl) rfl (by decide) g_hpI ?_
              refine tz_goto (tgt := 30) (g_at ck_X11_gather 88 rfl) rfl ?_
              refine tz_drop6 ?_
              refine tz_drop7 ?_
              refine tz_drop8 ?_
              have e9 : gaN Λ s (i + 1) = ((i : Int), (cmN Λ s (i : Int) (Λ 0 1).toNat), (ccN Λ s (i : Int) (Λ 0 1).toNat)) := if_pos (hgy (by omega))
              rw [e9] at ihi
              exact ihi
            · skip
              refine tz_iload7 (n := 141) (g_at ck_X11_gather 77 rfl) rfl ?_
              refine tz_iload4 (n := 143) (g_at ck_X11_gather 78 rfl) rfl ?_
              refine tz_icmp_lt (n := 146) (tgt := 149) (g_at ck_X11_gather 79 rfl) rfl rfl (by omega) (fun h143 => ?_) (fun h143 => ?_)
              · skip
                refine tz_iload5 (n := 151) (g_at ck_X11_gather 81 rfl) rfl ?_
                refine tz_istore2 (n := 152) (g_at ck_X11_gather 82 rfl) rfl (by decide) g_hpI ?_
                refine tz_iload6 (n := 154) (g_at ck_X11_gather 83 rfl) rfl ?_
                refine tz_istore3 (n := 155) (g_at ck_X11_gather 84 rfl) rfl (by decide) g_hpI ?_
                refine tz_iload7 (n := 157) (g_at ck_X11_gather 85 rfl) rfl ?_
                refine tz_istore4 (n := 159) (g_at ck_X11_gather 86 rfl) rfl (by decide) g_hpI ?_
                refine tz_iinc5 (n := 162) (g_at ck_X11_gather 87 rfl) rfl (by decide) g_hpI ?_
                refine tz_goto (tgt := 30) (g_at ck_X11_gather 88 rfl) rfl ?_
                refine tz_drop6 ?_
                refine tz_drop7 ?_
                refine tz_drop8 ?_
                have e9 : gaN Λ s (i + 1) = ((i : Int), (cmN Λ s (i : Int) (Λ 0 1).toNat), (ccN Λ s (i : Int) (Λ 0 1).toNat)) := if_pos (hgy (by omega))
                rw [e9] at ihi
                exact ihi
              · skip
                refine tz_goto (tgt := 159) (g_at ck_X11_gather 80 rfl) rfl ?_
                refine tz_iinc5 (n := 162) (g_at ck_X11_gather 87 rfl) rfl (by decide) g_hpI ?_
                refine tz_goto (tgt := 30) (g_at ck_X11_gather 88 rfl) rfl ?_
                refine tz_drop6 ?_
                refine tz_drop7 ?_
                refine tz_drop8 ?_
                have e9 : gaN Λ s (i + 1) = (gaN Λ s i) := if_neg (hgn (by omega))
                rw [e9] at ihi
                exact ihi
      · skip
        have hwj := sig0_WS_n hσ (p := (j : Int)) (by omega)
        have rj := (hr17 (s (1 + (j : Int))) (i : Int) hwj.1 hwj.2.1 (by omega) (by omega)).2
        have bj := (hw17 ((s (1 + (j : Int))) * 9 + (i : Int))).2
        have tj := tr_lt bj
        have gj := tr_rg bj (Int.le_refl _)
        have fc := far_cost (s := s) hW ((s (1 + (j : Int))) * 9 + (i : Int))
        refine tz_iload8 (n := 50) (g_at ck_X11_gather 30 rfl) rfl ?_
        refine tz_aload0 (n := 51) (g_at ck_X11_gather 31 rfl) rfl (g_ne kd_84) ?_
        refine tz_getIw (n := 54) (kz := 2) fk_X11_305 kd_84 (g_at ck_X11_gather 32 rfl) rfl rfl ?_
        rw [hM9.2.1]
        refine tz_icmp_ge (n := 57) (tgt := 122) (g_at ck_X11_gather 33 rfl) rfl rfl (by omega) (fun h54 => absurd h54 (by omega)) (fun h54 => ?_)
        refine tz_aload0 (n := 58) (g_at ck_X11_gather 34 rfl) rfl (g_ne kd_84) ?_
        refine tz_getAv (n := 61) (a := 111) fk_X11_99 kd_84 (ly_84_53 hL) (g_at ck_X11_gather 35 rfl) rfl ?_
        refine tz_bipush (n := 63) (g_at ck_X11_gather 36 rfl) rfl rfl ?_
        refine tz_aload0 (n := 64) (g_at ck_X11_gather 37 rfl) rfl (g_ne kd_84) ?_
        refine tz_getAv (n := 67) (a := 103) fk_X11_75 kd_84 (ly_84_43 hL) (g_at ck_X11_gather 38 rfl) rfl ?_
        refine tz_iconst (n := 68) (g_at ck_X11_gather 39 rfl) rfl ?_
        refine tz_iload8 (n := 70) (g_at ck_X11_gather 40 rfl) rfl ?_
        refine tz_iadd (n := 71) (g_at ck_X11_gather 41 rfl) rfl ?_
        refine tz_iald (n := 72) kd_103 (by omega) (g_at ck_X11_gather 42 rfl) rfl ?_
        rw [hs9, hs0 (1 + (j : Int)) (by omega) (by omega)]
        refine tz_imul (n := 73) (g_at ck_X11_gather 43 rfl) rfl ?_
        refine tz_iload5 (n := 75) (g_at ck_X11_gather 44 rfl) rfl ?_
        refine tz_iadd (n := 76) (g_at ck_X11_gather 45 rfl) rfl ?_
        refine tz_iald (n := 77) kd_111 (by omega) (g_at ck_X11_gather 46 rfl) rfl ?_
        rw [rj]
        refine tz_istore9 (n := 79) (g_at ck_X11_gather 47 rfl) rfl (by decide) g_hpI ?_
        refine tz_iload6 (n := 81) (g_at ck_X11_gather 48 rfl) rfl ?_
        refine tz_iload9 (n := 83) (g_at ck_X11_gather 49 rfl) rfl ?_
        refine tz_sipush (n := 86) (g_at ck_X11_gather 50 rfl) rfl rfl ?_
        refine tz_icmp_ge (n := 89) (tgt := 93) (g_at ck_X11_gather 51 rfl) rfl rfl (by omega) (fun h86 => ?_) (fun h86 => ?_)
        · skip
          refine tz_iconst (n := 94) (g_at ck_X11_gather 54 rfl) rfl ?_
          refine tz_iadd (n := 95) (g_at ck_X11_gather 55 rfl) rfl ?_
          refine tz_istore6 (n := 97) (g_at ck_X11_gather 56 rfl) rfl (by decide) g_hpI ?_
          refine tz_iload7 (n := 99) (g_at ck_X11_gather 57 rfl) rfl ?_
          refine tz_iload9 (n := 101) (g_at ck_X11_gather 58 rfl) rfl ?_
          refine tz_sipush (n := 104) (g_at ck_X11_gather 59 rfl) rfl rfl ?_
          refine tz_icmp_ge (n := 107) (tgt := 112) (g_at ck_X11_gather 60 rfl) rfl rfl (by omega) (fun h104 => ?_) (fun h104 => absurd h104 (by omega))
          refine tz_iconst (n := 113) (g_at ck_X11_gather 63 rfl) rfl ?_
          refine tz_iadd (n := 114) (g_at ck_X11_gather 64 rfl) rfl ?_
          refine tz_istore7 (n := 116) (g_at ck_X11_gather 65 rfl) rfl (by decide) g_hpI ?_
          refine tz_iinc8 (n := 119) (g_at ck_X11_gather 66 rfl) rfl (by decide) g_hpI ?_
          refine tz_goto (tgt := 48) (g_at ck_X11_gather 67 rfl) rfl ?_
          refine tz_drop9 ?_
          have e8 : cmN Λ s (i : Int) (j + 1) = (cmN Λ s (i : Int) j) + 0 := congrArg (fun z9 => (cmN Λ s (i : Int) j) + z9) (if_neg fun h9 => absurd (tj.mpr (fc.mp h9)) (by omega))
          have e9 : ccN Λ s (i : Int) (j + 1) = (ccN Λ s (i : Int) j) + 0 := congrArg (fun z9 => (ccN Λ s (i : Int) j) + z9) (if_neg fun h9 => absurd (tj.mpr h9) (by omega))
          rw [e8, e9] at ihj
          exact ihj
        · skip
          refine tz_iconst (n := 90) (g_at ck_X11_gather 52 rfl) rfl ?_
          refine tz_goto (tgt := 94) (g_at ck_X11_gather 53 rfl) rfl ?_
          refine tz_iadd (n := 95) (g_at ck_X11_gather 55 rfl) rfl ?_
          refine tz_istore6 (n := 97) (g_at ck_X11_gather 56 rfl) rfl (by decide) g_hpI ?_
          refine tz_iload7 (n := 99) (g_at ck_X11_gather 57 rfl) rfl ?_
          refine tz_iload9 (n := 101) (g_at ck_X11_gather 58 rfl) rfl ?_
          refine tz_sipush (n := 104) (g_at ck_X11_gather 59 rfl) rfl rfl ?_
          refine tz_icmp_ge (n := 107) (tgt := 112) (g_at ck_X11_gather 60 rfl) rfl rfl (by omega) (fun h104 => absurd h104 (by omega)) (fun h104 => ?_)
          refine tz_iload9 (n := 109) (g_at ck_X11_gather 61 rfl) rfl ?_
          refine tz_goto (tgt := 113) (g_at ck_X11_gather 62 rfl) rfl ?_
          refine tz_iadd (n := 114) (g_at ck_X11_gather 64 rfl) rfl ?_
          refine tz_istore7 (n := 116) (g_at ck_X11_gather 65 rfl) rfl (by decide) g_hpI ?_
          refine tz_iinc8 (n := 119) (g_at ck_X11_gather 66 rfl) rfl (by decide) g_hpI ?_
          refine tz_goto (tgt := 48) (g_at ck_X11_gather 67 rfl) rfl ?_
          refine tz_drop9 ?_
          have e8 : cmN Λ s (i : Int) (j + 1) = (cmN Λ s (i : Int) j) + 1 := congrArg (fun z9 => (cmN Λ s (i : Int) j) + z9) (if_pos (fc.mpr (tj.mp (by omega))))
          have e9 : ccN Λ s (i : Int) (j + 1) = (ccN Λ s (i : Int) j) + wyW Λ s 1 ((s (1 + (j : Int))) * 9 + (i : Int)) := congrArg (fun z9 => (ccN Λ s (i : Int) j) + z9) (if_pos (tj.mp (by omega)))
          rw [e8, e9] at ihj
          rw [tr_id bj (tj.mp (by omega))]
          exact ihj
  · skip
    refine tz_iconst (n := 15) (g_at ck_X11_gather 8 rfl) rfl ?_
    exact tz_iret (g_at ck_X11_gather 9 rfl) rfl (rI_mk ⟨rfl, hR2, by rw [(hq8.no h11).2]; exact hk0.tr mK.w0, by rw [(hq8.no h11).2, wr_same], fun h9 => absurd h9 (by rw [show (0:Int) = 0 from rfl]; exact (hq8.no h11).1)⟩)
theorem mp_covered {l : Launch} {γ : Gh} {ρ m : Mm} {p : Int} (hp : -2147483648 ≤ p ∧ p < 2147483648) {s : Int → Int} {Λ : Mm} {hl tl : List Int} (hL : LY ρ) (hR : MR m) (hW : WL Λ) (hM : MLand m Λ hl tl) (hs : MRow m s) (hσ : WS Λ 0 (sig0 s)) (hz : m 84 51 = 0) : gE l γ μX11_covered 6 0 0 (rI KK fun x ρ9 m9 => ρ = ρ9 ∧ MR m9 ∧ mK m m9 ∧ m9 84 0 = cdP Λ p ∧ (cdP Λ p = 0 → isFN (fun j => cvN Λ hl tl s p (j + 1) = 0) 101 x)) xN KK ρ m [vR 84, vI p] := by
  refine gE.ofw cl_X11.2 ?_ rfl rfl (Nat.le_of_ble_eq_true rfl)
  show gT l γ μX11_covered 6 0 0 _ _ KK ρ m 0 [some (vR 84), some (vI p), none, none] []
  have hn1 := hW.1
  have hn8 := hW.2.1
  refine tz_aload0 (n := 1) (g_at ck_X11_covered 0 rfl) rfl (g_ne kd_84) ?_
  refine tz_iconst (n := 2) (g_at ck_X11_covered 1 rfl) rfl ?_
  refine tz_putIr (n := 5) (kz := 0) fk_X11_132 kd_84 (g_at ck_X11_covered 2 rfl) rfl hR ⟨(by decide), (by decide)⟩ rfl (fun hR1 => ?_)
  obtain ⟨m0, e0⟩ : ∃ m0, m0 = wr m 84 0 0 := ⟨_, rfl⟩
  rw [← e0] at hR1 ⊢
  have hk0 : mK m m0 := by rw [e0]; exact mK.w0
  have hM0 := hk0.land hM
  have hs0 := hk0.row hs
  have hz0 : m0 84 51 = 0 := hk0.w51.trans hz
  have h00 : m0 84 0 = 0 := by rw [e0, wr_same]
  have hw0 := hw_0 hz0
  refine tz_aload0 (n := 6) (g_at ck_X11_covered 3 rfl) rfl (g_ne kd_84) ?_
  refine tz_iload1 (n := 7) (g_at ck_X11_covered 4 rfl) rfl ?_
  refine tz_cvI1 (n := 10) (μ' := μX11_isPerson) (cb' := 0) (sb' := 0) ml_X11_405 mo_X11_isPerson mv_X11_isPerson np_X11_isPerson kd_84 (g_at ck_X11_covered 5 rfl) (mp_isPerson hp hL hR1 hW hM0 h00) rfl rfl rfl ⟨by decide, by decide⟩ (Nat.le_of_ble_eq_true rfl) (by decide) (by decide) (fun x7 ρ9 m7 hq => ?_)
  obtain ⟨rfl, hR2, hq7⟩ := hq
  refine tz_if_ne (n := 13) (tgt := 15) (g_at ck_X11_covered 6 rfl) rfl rfl (by rcases hq7.b01 with h9 | h9 <;> omega) (fun h10 => ?_) (fun h10 => ?_)
  · skip
    obtain ⟨hc0, rfl⟩ := hq7.ok h10
    have hi0 := cdP_i hc0
    refine tz_aload0 (n := 16) (g_at ck_X11_covered 9 rfl) rfl (g_ne kd_84) ?_
    refine tz_cvV0 (n := 19) (μ' := μX11_laysWays) (cb' := 0) (sb' := 0) ml_X11_365 mo_X11_laysWays mv_X11_laysWays np_X11_laysWays kd_84 (g_at ck_X11_covered 10 rfl) (mp_laysWays hL hR2 hW hM0 hs0 hσ hz0) rfl rfl rfl ⟨by decide, by decide⟩ (Nat.le_of_ble_eq_true rfl) (by decide) (by decide) (fun ρ9 m16 hq => ?_)
    obtain ⟨rfl, hR3, hF16, hr16, hw16⟩ := hq
    have hM9 := hM0.fr hF16 (by decide)
    have hs9 : MRow m16 s := (mK.l hF16 (by decide)).row hs0
    have hz9 : m16 84 51 = 0 := by rw [hF16 84 (by decide)]; exact hz0
    have hwp := sig0_WS_n hσ hi0
    refine tz_aload0 (n := 20) (g_at ck_X11_covered 11 rfl) rfl (g_ne kd_84) ?_
    refine tz_aload0 (n := 21) (g_at ck_X11_covered 12 rfl) rfl (g_ne kd_84) ?_
    refine tz_getAv (n := 24) (a := 103) fk_X11_75 kd_84 (ly_84_43 hL) (g_at ck_X11_covered 13 rfl) rfl ?_
    refine tz_iconst (n := 25) (g_at ck_X11_covered 14 rfl) rfl ?_
    refine tz_iload1 (n := 26) (g_at ck_X11_covered 15 rfl) rfl ?_
    refine tz_iadd (n := 27) (g_at ck_X11_covered 16 rfl) rfl ?_
    refine tz_iald (n := 28) kd_103 (by omega) (g_at ck_X11_covered 17 rfl) rfl ?_
    rw [hs9 (1 + p) (by omega) (by omega)]
    refine tz_cvI1 (n := 31) (μ' := μX11_reachedFrom) (cb' := 0) (sb' := 0) ml_X11_399 mo_X11_reachedFrom mv_X11_reachedFrom np_X11_reachedFrom kd_84 (g_at ck_X11_covered 18 rfl) (mp_reachedFrom hL hR3 hW hM9 hr16 hw16 (by omega)) rfl rfl rfl ⟨by decide, by decide⟩ (Nat.le_of_ble_eq_true rfl) (by decide) (by decide) (fun x28 ρ9 m28 hq => ?_)
    obtain ⟨rfl, hR4, rfl, rfl⟩ := hq
    refine tz_istore2 (n := 32) (g_at ck_X11_covered 19 rfl) rfl (by decide) g_hpI ?_
    refine tz_aload0 (n := 33) (g_at ck_X11_covered 20 rfl) rfl (g_ne kd_84) ?_
    refine tz_cvV0 (n := 36) (μ' := μX11_tries) (cb' := 0) (sb' := 0) ml_X11_356 mo_X11_tries mv_X11_tries np_X11_tries kd_84 (g_at ck_X11_covered 21 rfl) (mp_tries (Λ := Λ) hL hR4 hs9) rfl rfl rfl ⟨by decide, by decide⟩ (Nat.le_of_ble_eq_true rfl) (by decide) (by decide) (fun ρ9 m33 hq => ?_)
    obtain ⟨rfl, hR5, hT33, hD33⟩ := hq
    refine tz_iconst (n := 37) (g_at ck_X11_covered 22 rfl) rfl ?_
    refine tz_istore3 (n := 38) (g_at ck_X11_covered 23 rfl) rfl (by decide) g_hpI ?_
    refine g_for (fun i : Nat => ∀ m1 : Mm, (MR m1 ∧ MT m1 35 Λ z00 (daysP Λ hl tl (sig0 s) (i)) ∧ FD 35 m16 m1 ∧ (∀ j : Nat, j < i → ¬ cvN Λ hl tl s p (j + 1) = 0)) → gT l γ μX11_covered 6 0 0 _ _ KK ρ m1 38 [some (vR 84), some (vI p), some (vI (cvN Λ hl tl s p i)), some (vI (i : Int))] []) 101 ?_ (fun i hi ihi => ?_) 0 (Nat.zero_le _) _ ⟨hR5, hT33, hD33, fun j h9 => absurd h9 (Nat.not_lt_zero _)⟩
    · intro m1 hinv
      obtain ⟨hRi, hTi, hDi, hno⟩ := hinv
      have hσi := daysP_WS (hl := hl) (tl := tl) hW hσ (Int.le_refl 0) (101)
      refine tz_iload3 (n := 39) (g_at ck_X11_covered 24 rfl) rfl ?_
      refine tz_bipush (n := 41) (g_at ck_X11_covered 25 rfl) rfl rfl ?_
      refine tz_icmp_gt (n := 44) (tgt := 78) (g_at ck_X11_covered 26 rfl) rfl rfl ⟨(by omega), (by omega), (by decide), (by decide)⟩ (fun h41 => ?_) (fun h41 => absurd h41 (by omega))
      refine tz_iconst (n := 79) (g_at ck_X11_covered 49 rfl) rfl ?_
      exact tz_iret (g_at ck_X11_covered 50 rfl) rfl (rI_mk ⟨rfl, hRi, hk0.tr ((mK.l hF16 (by decide)).tr (mK.fd hDi)), by rw [hDi.1 84 (by decide), hF16 84 (by decide), h00, hc0], fun _ => Or.inl ⟨rfl, hno⟩⟩)
    · intro m1 hinv
      obtain ⟨hRi, hTi, hDi, hno⟩ := hinv
      have hσi := daysP_WS (hl := hl) (tl := tl) hW hσ (Int.le_refl 0) i
      have hp1 := hσi.2.1 p hi0.1 hi0.2
      refine tz_iload3 (n := 39) (g_at ck_X11_covered 24 rfl) rfl ?_
      refine tz_bipush (n := 41) (g_at ck_X11_covered 25 rfl) rfl rfl ?_
      refine tz_icmp_gt (n := 44) (tgt := 78) (g_at ck_X11_covered 26 rfl) rfl rfl ⟨(by omega), (by omega), (by decide), (by decide)⟩ (fun h41 => absurd h41 (by omega)) (fun h41 => ?_)
      refine tz_iload2 (n := 45) (g_at ck_X11_covered 27 rfl) rfl ?_
      refine tz_iconst (n := 46) (g_at ck_X11_covered 28 rfl) rfl ?_
      refine tz_aload0 (n := 47) (g_at ck_X11_covered 29 rfl) rfl (g_ne kd_84) ?_
      refine tz_getAv (n := 50) (a := 103) fk_X11_75 kd_84 (ly_84_43 hL) (g_at ck_X11_covered 30 rfl) rfl ?_
      refine tz_bipush (n := 52) (g_at ck_X11_covered 31 rfl) rfl rfl ?_
      refine tz_iload1 (n := 53) (g_at ck_X11_covered 32 rfl) rfl ?_
      refine tz_iadd (n := 54) (g_at ck_X11_covered 33 rfl) rfl ?_
      refine tz_iald (n := 55) kd_103 (by omega) (g_at ck_X11_covered 34 rfl) rfl ?_
      rw [hTi.r (k := 1 + p) (by omega) (by omega)]
      refine tz_ishl (n := 56) (g_at ck_X11_covered 35 rfl) rfl ?_
      refine tz_iconst (n := 57) (g_at ck_X11_covered 36 rfl) rfl ?_
      refine tz_ixor (n := 58) (g_at ck_X11_covered 37 rfl) rfl ?_
      refine tz_iand (n := 59) (g_at ck_X11_covered 38 rfl) rfl ?_
      refine tz_istore2 (n := 60) (g_at ck_X11_covered 39 rfl) rfl (by decide) g_hpI ?_
      refine tz_iload2 (n := 61) (g_at ck_X11_covered 40 rfl) rfl ?_
      refine tz_if_ne (n := 64) (tgt := 66) (g_at ck_X11_covered 41 rfl) rfl rfl (bAnd_rg _ _) (fun h61 => ?_) (fun h61 => ?_)
      · skip
        refine tz_aload0 (n := 67) (g_at ck_X11_covered 44 rfl) rfl (g_ne kd_84) ?_
        refine tz_bipush (n := 69) (g_at ck_X11_covered 45 rfl) rfl rfl ?_
        refine tz_cvV1 (n := 72) (μ' := μX11_dayGoes) (cb' := 0) (sb' := 0) ml_X11_353 mo_X11_dayGoes mv_X11_dayGoes np_X11_dayGoes kd_84 (g_at ck_X11_covered 46 rfl) (mp_dayGoes hL hRi hW (hM9.fr hDi.1 mDay_91) hTi hσi (by omega) (Or.inr rfl) (hw_fr (hw_0 hz9) hDi)) rfl rfl rfl ⟨by decide, by decide⟩ (Nat.le_of_ble_eq_true rfl) (by decide) (by decide) (fun ρ9 m69 hq => ?_)
        obtain ⟨rfl, hR6, hT69, hD69⟩ := hq
        have hT9 : MT m69 35 Λ z00 (daysP Λ hl tl (sig0 s) (i + 1)) := hT69
        have hD9 := hDi.tr hD69
        refine tz_iinc3 (n := 75) (g_at ck_X11_covered 47 rfl) rfl (by decide) g_hpI ?_
        refine tz_goto (tgt := 38) (g_at ck_X11_covered 48 rfl) rfl ?_
        exact ihi _ ⟨hR6, hT9, hD9, no_step hno h61⟩
      · skip
        refine tz_iload3 (n := 65) (g_at ck_X11_covered 42 rfl) rfl ?_
        exact tz_iret (g_at ck_X11_covered 43 rfl) rfl (rI_mk ⟨rfl, hRi, hk0.tr ((mK.l hF16 (by decide)).tr (mK.fd hDi)), by rw [hDi.1 84 (by decide), hF16 84 (by decide), h00, hc0], fun _ => Or.inr ⟨i, rfl, by omega, h61, hno⟩⟩)
  · skip
    refine tz_iconst (n := 14) (g_at ck_X11_covered 7 rfl) rfl ?_
    exact tz_iret (g_at ck_X11_covered 8 rfl) rfl (rI_mk ⟨rfl, hR2, by rw [(hq7.no h10).2]; exact hk0.tr mK.w0, by rw [(hq7.no h10).2, wr_same], fun h9 => absurd h9 (by rw [show (0:Int) = 0 from rfl]; exact (hq7.no h10).1)⟩)
