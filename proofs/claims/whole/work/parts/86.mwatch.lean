/-! The reference: watched crossings. -/
theorem andn_0 {a b : Nat} (ha : a < 512) (hb : b < 512) : bAnd (a : Int) (bXor (b : Int) (-1)) = 0 ↔ ∀ z : Nat, a.testBit z = true → b.testBit z = true := by
  have h1 : a &&& b < 512 := Nat.lt_of_le_of_lt Nat.and_le_left ha
  rw [andN, bAnd_nn (by omega) (by omega), bXor_nn (by omega) (by omega)]
  constructor
  · intro h z hz
    have h9 : a ^^^ (a &&& b) = 0 := by omega
    have k : (a ^^^ (a &&& b)).testBit z = false := by rw [h9]; exact Nat.zero_testBit z
    rw [Nat.testBit_xor, Nat.testBit_and, hz] at k
    revert k
    cases b.testBit z <;> decide
  · intro h
    have h9 : a ^^^ (a &&& b) = 0 := Nat.eq_of_testBit_eq fun z => by
      rw [Nat.testBit_xor, Nat.testBit_and, Nat.zero_testBit]
      have := h z
      revert this
      cases a.testBit z <;> cases b.testBit z <;> decide
    rw [h9]
    rfl
def bitI (t z : Int) : Int := bAnd (bShr t z) 1
def WtP (Λ : Mm) (s : Int → Int) (t a : Int) (r : Nat) : Prop := shutB (s (26 + a)) (r : Int) = 0 → ¬ bitI t a = 0 ∨ ¬ bitI t (Λ 4 (a * 5 + (r : Int))) = 0
theorem wt_iff {Λ : Mm} {s : Int → Int} {t : Nat} (hW : WL Λ) (ht : t < 512) : wtA Λ s (t : Int) = 1 ↔ ∀ a : Nat, a < (Λ 0 0).toNat → ∀ r : Nat, r < (Λ 3 (a : Int)).toNat → WtP Λ s (t : Int) (a : Int) r := by
  have h0 := hW.1
  have bb : ∀ z : Nat, z < 9 → (bitI (t : Int) (z : Int) = 0 ↔ ¬ t.testBit z = true) := fun z hz => by
    unfold bitI
    rw [bBit (by omega) (by omega)]
    cases t.testBit z <;> decide
  have key : ∀ a : Nat, a < (Λ 0 0).toNat → ((bAnd (bShr (t : Int) (a : Int)) 1 = 0 → bAnd (wyW Λ s 2 (a : Int)) (bXor (t : Int) (-1)) = 0) ↔ ∀ r : Nat, r < (Λ 3 (a : Int)).toNat → WtP Λ s (t : Int) (a : Int) r) := fun a ha => by
    have hcw := hW.2.2.1 (a : Int) (by omega) (by omega)
    obtain ⟨v, hv, e, hb⟩ := nx_bit (s := s) (c := (a : Int)) hW (by omega) (Λ 3 (a : Int)).toNat (by omega)
    rw [wyW_2 (by omega), e, andn_0 hv ht]
    constructor
    · intro h r hr hs
      by_cases e1 : bitI (t : Int) (a : Int) = 0
      · right
        have he := hW.2.2.2.1 (a : Int) (r : Int) (by omega) (by omega) (by omega) (by omega)
        have ez : ((Λ 4 ((a : Int) * 5 + (r : Int))).toNat : Int) = Λ 4 ((a : Int) * 5 + (r : Int)) := by omega
        have h9 := h e1 (Λ 4 ((a : Int) * 5 + (r : Int))).toNat ((hb _).mpr ⟨r, hr, hs, ez.symm⟩)
        rw [← ez, bb _ (by omega)]
        exact fun h8 => h8 h9
      · exact Or.inl e1
    · intro h e1 z hz
      obtain ⟨r, r1, r2, r3⟩ := (hb z).mp hz
      have he := hW.2.2.2.1 (a : Int) (r : Int) (by omega) (by omega) (by omega) (by omega)
      rcases h r r1 r2 with h8 | h8
      · exact absurd e1 h8
      · rw [r3, bb z (by omega)] at h8
        exact Classical.byContradiction h8
  unfold wtA
  constructor
  · intro h a ha
    have h9 := ite10 (show (if ∀ a : Nat, a < (Λ 0 0).toNat → bAnd (bShr (t : Int) (a : Int)) 1 = 0 → bAnd (wyW Λ s 2 (a : Int)) (bXor (t : Int) (-1)) = 0 then (1 : Int) else 0) ≠ 0 by rw [h]; decide)
    exact (key a ha).mp (h9 a ha)
  · intro h
    exact if_pos fun a ha => (key a ha).mpr (h a ha)
theorem mp_isWatched {l : Launch} {γ : Gh} {ρ m : Mm} {t : Nat} {s : Int → Int} {Λ : Mm} {hl tl : List Int} (hL : LY ρ) (hR : MR m) (hW : WL Λ) (hM : MLand m Λ hl tl) (hs : MRow m s) (hσ : WS Λ 0 (sig0 s)) (ht : t < 512) : gE l γ μX11_isWatched 1 0 0 (rI KK fun x ρ9 m9 => ρ = ρ9 ∧ MR m9 ∧ wtA Λ s (t : Int) = x ∧ m = m9) xN KK ρ m [vR 84, vI (t : Int)] := by
  refine gE.ofw cl_X11.2 ?_ rfl rfl (Nat.le_of_ble_eq_true rfl)
  show gT l γ μX11_isWatched 1 0 0 _ _ KK ρ m 0 [some (vR 84), some (vI (t : Int)), none, none] []
  have hn1 := hW.1
  have hN := hM.1
  have hwt := wt_iff (s := s) hW ht
  refine tz_iconst (n := 1) (g_at ck_X11_isWatched 0 rfl) rfl ?_
  refine tz_istore2 (n := 2) (g_at ck_X11_isWatched 1 rfl) rfl (by decide) g_hpI ?_
  refine g_for (fun i : Nat => (∀ a : Nat, a < i → ∀ r : Nat, r < (Λ 3 (a : Int)).toNat → WtP Λ s (t : Int) (a : Int) r) → gT l γ μX11_isWatched 1 0 0 _ _ KK ρ m 2 [some (vR 84), some (vI (t : Int)), some (vI (i : Int)), none] []) (Λ 0 0).toNat ?_ (fun i hi ihi => ?_) 0 (Nat.zero_le _) (fun a h9 => absurd h9 (Nat.not_lt_zero a))
  · intro hinv
    have hno := hinv
    refine tz_iload2 (n := 3) (g_at ck_X11_isWatched 2 rfl) rfl ?_
    refine tz_aload0 (n := 4) (g_at ck_X11_isWatched 3 rfl) rfl (g_ne kd_84) ?_
    refine tz_getIw (n := 7) (kz := 1) fk_X11_302 kd_84 (g_at ck_X11_isWatched 4 rfl) rfl rfl ?_
    rw [hN]
    refine tz_icmp_ge (n := 10) (tgt := 74) (g_at ck_X11_isWatched 5 rfl) rfl rfl (by omega) (fun h7 => ?_) (fun h7 => absurd h7 (by omega))
    refine tz_iconst (n := 75) (g_at ck_X11_isWatched 46 rfl) rfl ?_
    exact tz_bret (g_at ck_X11_isWatched 47 rfl) rfl (by decide) (rI_mk ⟨rfl, hR, hwt.mpr hno, rfl⟩)
  · intro hinv
    have hno := hinv
    have hcw := hW.2.2.1 (i : Int) (by omega) (by omega)
    have r87 := (hM.2.2.1 (i : Int) (by omega) (by omega)).2.2
    refine tz_iload2 (n := 3) (g_at ck_X11_isWatched 2 rfl) rfl ?_
    refine tz_aload0 (n := 4) (g_at ck_X11_isWatched 3 rfl) rfl (g_ne kd_84) ?_
    refine tz_getIw (n := 7) (kz := 1) fk_X11_302 kd_84 (g_at ck_X11_isWatched 4 rfl) rfl rfl ?_
    rw [hN]
    refine tz_icmp_ge (n := 10) (tgt := 74) (g_at ck_X11_isWatched 5 rfl) rfl rfl (by omega) (fun h7 => absurd h7 (by omega)) (fun h7 => ?_)
    refine tz_iconst (n := 11) (g_at ck_X11_isWatched 6 rfl) rfl ?_
    refine tz_istore3 (n := 12) (g_at ck_X11_isWatched 7 rfl) rfl (by decide) g_hpI ?_
    refine g_for (fun j : Nat => (∀ q : Nat, q < j → WtP Λ s (t : Int) (i : Int) q) → gT l γ μX11_isWatched 1 0 0 _ _ KK ρ m 12 [some (vR 84), some (vI (t : Int)), some (vI (i : Int)), some (vI (j : Int))] []) (Λ 3 (i : Int)).toNat ?_ (fun j hj ihj => ?_) 0 (Nat.zero_le _) (fun q h9 => absurd h9 (Nat.not_lt_zero q))
    · intro hinv
      refine tz_iload3 (n := 13) (g_at ck_X11_isWatched 8 rfl) rfl ?_
      refine tz_aload0 (n := 14) (g_at ck_X11_isWatched 9 rfl) rfl (g_ne kd_84) ?_
      refine tz_getAv (n := 17) (a := 87) fk_X11_23 kd_84 (ly_84_7 hL) (g_at ck_X11_isWatched 10 rfl) rfl ?_
      refine tz_iload2 (n := 18) (g_at ck_X11_isWatched 11 rfl) rfl ?_
      refine tz_iald (n := 19) kd_87 (by omega) (g_at ck_X11_isWatched 12 rfl) rfl ?_
      rw [r87]
      refine tz_icmp_ge (n := 22) (tgt := 68) (g_at ck_X11_isWatched 13 rfl) rfl rfl (by omega) (fun h19 => ?_) (fun h19 => absurd h19 (by omega))
      refine tz_iinc2 (n := 71) (g_at ck_X11_isWatched 44 rfl) rfl (by decide) g_hpI ?_
      refine tz_goto (tgt := 2) (g_at ck_X11_isWatched 45 rfl) rfl ?_
      refine tz_drop3 ?_
      exact ihi (fun a ha => if e9 : a = i then e9 ▸ hinv else hno a (by omega))
    · intro hinv
      have hnj := hinv
      have r88 := hM.2.2.2.1 (i : Int) (j : Int) (by omega) (by omega) (by omega) (by omega)
      refine tz_iload3 (n := 13) (g_at ck_X11_isWatched 8 rfl) rfl ?_
      refine tz_aload0 (n := 14) (g_at ck_X11_isWatched 9 rfl) rfl (g_ne kd_84) ?_
      refine tz_getAv (n := 17) (a := 87) fk_X11_23 kd_84 (ly_84_7 hL) (g_at ck_X11_isWatched 10 rfl) rfl ?_
      refine tz_iload2 (n := 18) (g_at ck_X11_isWatched 11 rfl) rfl ?_
      refine tz_iald (n := 19) kd_87 (by omega) (g_at ck_X11_isWatched 12 rfl) rfl ?_
      rw [r87]
      refine tz_icmp_ge (n := 22) (tgt := 68) (g_at ck_X11_isWatched 13 rfl) rfl rfl (by omega) (fun h19 => absurd h19 (by omega)) (fun h19 => ?_)
      refine tz_aload0 (n := 23) (g_at ck_X11_isWatched 14 rfl) rfl (g_ne kd_84) ?_
      refine tz_iconst (n := 24) (g_at ck_X11_isWatched 15 rfl) rfl ?_
      refine tz_iload2 (n := 25) (g_at ck_X11_isWatched 16 rfl) rfl ?_
      refine tz_iload3 (n := 26) (g_at ck_X11_isWatched 17 rfl) rfl ?_
      refine tz_cvI3 (n := 29) (μ' := μX11_isShut) (cb' := 0) (sb' := 0) ml_X11_338 mo_X11_isShut mv_X11_isShut np_X11_isShut kd_84 (g_at ck_X11_isWatched 18 rfl) (mp_isShut hL hR (Or.inl rfl) (by omega)) rfl rfl rfl ⟨by decide, by decide⟩ (Nat.le_of_ble_eq_true rfl) (by decide) (by decide) (fun x26 ρ9 m26 hq => ?_)
      obtain ⟨rfl, hR1, rfl, rfl⟩ := hq
      rw [show (0 : Int) + 26 + (i : Int) = 26 + (i : Int) by omega, hs (26 + (i : Int)) (by omega) (by omega)]
      have h01 := shutB_01 (s (26 + (i : Int))) (j : Int)
      refine tz_if_eq (n := 32) (tgt := 35) (g_at ck_X11_isWatched 19 rfl) rfl rfl (by omega) (fun h29 => ?_) (fun h29 => ?_)
      · skip
        refine tz_iload1 (n := 36) (g_at ck_X11_isWatched 21 rfl) rfl ?_
        refine tz_iload2 (n := 37) (g_at ck_X11_isWatched 22 rfl) rfl ?_
        refine tz_ishr (n := 38) (g_at ck_X11_isWatched 23 rfl) rfl ?_
        refine tz_iconst (n := 39) (g_at ck_X11_isWatched 24 rfl) rfl ?_
        refine tz_iand (n := 40) (g_at ck_X11_isWatched 25 rfl) rfl ?_
        refine tz_if_ne (n := 43) (tgt := 62) (g_at ck_X11_isWatched 26 rfl) rfl rfl (bAnd_rg _ _) (fun h40 => ?_) (fun h40 => ?_)
        · skip
          refine tz_iinc3 (n := 65) (g_at ck_X11_isWatched 42 rfl) rfl (by decide) g_hpI ?_
          refine tz_goto (tgt := 12) (g_at ck_X11_isWatched 43 rfl) rfl ?_
          exact ihj (fun q hq => if e9 : q = j then e9 ▸ (fun _ => Or.inl h40) else hnj q (by omega))
        · skip
          refine tz_iload1 (n := 44) (g_at ck_X11_isWatched 27 rfl) rfl ?_
          refine tz_aload0 (n := 45) (g_at ck_X11_isWatched 28 rfl) rfl (g_ne kd_84) ?_
          refine tz_getAv (n := 48) (a := 88) fk_X11_26 kd_84 (ly_84_8 hL) (g_at ck_X11_isWatched 29 rfl) rfl ?_
          refine tz_iconst (n := 49) (g_at ck_X11_isWatched 30 rfl) rfl ?_
          refine tz_iload2 (n := 50) (g_at ck_X11_isWatched 31 rfl) rfl ?_
          refine tz_imul (n := 51) (g_at ck_X11_isWatched 32 rfl) rfl ?_
          refine tz_iload3 (n := 52) (g_at ck_X11_isWatched 33 rfl) rfl ?_
          refine tz_iadd (n := 53) (g_at ck_X11_isWatched 34 rfl) rfl ?_
          refine tz_iald (n := 54) kd_88 (by omega) (g_at ck_X11_isWatched 35 rfl) rfl ?_
          rw [r88]
          refine tz_ishr (n := 55) (g_at ck_X11_isWatched 36 rfl) rfl ?_
          refine tz_iconst (n := 56) (g_at ck_X11_isWatched 37 rfl) rfl ?_
          refine tz_iand (n := 57) (g_at ck_X11_isWatched 38 rfl) rfl ?_
          refine tz_if_ne (n := 60) (tgt := 62) (g_at ck_X11_isWatched 39 rfl) rfl rfl (bAnd_rg _ _) (fun h57 => ?_) (fun h57 => ?_)
          · skip
            refine tz_iinc3 (n := 65) (g_at ck_X11_isWatched 42 rfl) rfl (by decide) g_hpI ?_
            refine tz_goto (tgt := 12) (g_at ck_X11_isWatched 43 rfl) rfl ?_
            exact ihj (fun q hq => if e9 : q = j then e9 ▸ (fun _ => Or.inr h57) else hnj q (by omega))
          · skip
            refine tz_iconst (n := 61) (g_at ck_X11_isWatched 40 rfl) rfl ?_
            exact tz_bret (g_at ck_X11_isWatched 41 rfl) rfl (by decide) (rI_mk ⟨rfl, hR1, wtA_01.elim id fun h9 => absurd (hwt.mp h9 i (by omega) j (by omega) h29) (fun h8 => h8.elim (fun h7 => h7 h40) (fun h7 => h7 h57)), rfl⟩)
      · skip
        refine tz_goto (tgt := 62) (g_at ck_X11_isWatched 20 rfl) rfl ?_
        refine tz_iinc3 (n := 65) (g_at ck_X11_isWatched 42 rfl) rfl (by decide) g_hpI ?_
        refine tz_goto (tgt := 12) (g_at ck_X11_isWatched 43 rfl) rfl ?_
        exact ihj (fun q hq => if e9 : q = j then e9 ▸ (fun h9 => absurd h9 (by omega)) else hnj q (by omega))
