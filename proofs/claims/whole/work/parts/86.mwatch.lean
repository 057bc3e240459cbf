/-! The reference: watched crossings. -/
theorem andn_0 {a b : Nat} (ha : a < 512) (hb : b < 512) : bAnd (a : Int) (bXor (b : Int) (-1)) = 0 ↔ ∀ z : Nat, a.testBit z = true → b.testBit z = true := by
  have h1 : a &&& b < 512 := Nat.lt_of_le_of_lt Nat.and_le_left ha
  rw [andN, bAnd_nn (by omega) (by omega), bXor_nn (by omega) (by omega)]
  constructor
  · intro h z hz
    have h9 : a ^^^ (a &&& b) = 0 := by omega
    have k : (a ^^^ (a &&& b)).testBit z = false := by rw [h9]; exact Nat.zero_testBit z
    rw [Nat.testBit_xor, Nat.testBit_and, hz] at k
    revert k
    cases b.testBit z <;> decide
  · intro h
    have h9 : a ^^^ (a &&& b) = 0 := Nat.eq_of_testBit_eq fun z => by
      rw [Nat.testBit_xor, Nat.testBit_and, Nat.zero_testBit]
      have := h z
      revert this
      cases a.testBit z <;> cases b.testBit z <;> decide
    rw [h9]
    rfl
def bitI (t z : Int) : Int := bAnd (bShr t z) 1
def WtP (Λ : Mm) (s : Int → Int) (t a : Int) (r : Nat) : Prop := shutB (s (26 + a)) (r : Int) = 0 → ¬ bitI t a = 0 ∨ ¬ bitI t (Λ 4 (a * 5 + (r : Int))) = 0
theorem wt_iff {Λ : Mm} {s : Int → Int} {t : Nat} (hW : WL Λ) (ht : t < 512) : wtA Λ s (t : Int) = 1 ↔ ∀ a : Nat, a < (Λ 0 0).toNat → ∀ r : Nat, r < (Λ 3 (a : Int)).toNat → WtP Λ s (t : Int) (a : Int) r := by
  have h0 := hW.1
  have bb : ∀ z : Nat, z < 9 → (bitI (t : Int) (z : Int) = 0 ↔ ¬ t.testBit z = true) := fun z hz => by
    unfold bitI
    rw [bBit (by omega) (by omega)]
    cases t.testBit z <;> decide
  have key : ∀ a : Nat, a < (Λ 0 0).toNat → ((bAnd (bShr (t : Int) (a : Int)) 1 = 0 → bAnd (wyW Λ s 2 (a : Int)) (bXor (t : Int) (-1)) = 0) ↔ ∀ r : Nat, r < (Λ 3 (a : Int)).toNat → WtP Λ s (t : Int) (a : Int) r) := fun a ha => by
    have hcw := hW.2.2.1 (a : Int) (by omega) (by omega)
    obtain ⟨v, hv, e, hb⟩ := nx_bit (s := s) (c := (a : Int)) hW (by omega) (Λ 3 (a : Int)).toNat (by omega)
    rw [wyW_2 (by omega), e, andn_0 hv ht]
    constructor
    · intro h r hr hs
      by_cases e1 : bitI (t : Int) (a : Int) = 0
      · right
        have he := hW.2.2.2.1 (a : Int) (r : Int) (by omega) (by omega) (by omega) (by omega)
        have ez : ((Λ 4 ((a : Int) * 5 + (r : Int))).toNat : Int) = Λ 4 ((a : Int) * 5 + (r : Int)) := by omega
        have h9 := h e1 (Λ 4 ((a : Int) * 5 + (r : Int))).toNat ((hb _).mpr ⟨r, hr, hs, ez.symm⟩)
        rw [← ez, bb _ (by omega)]
        exact fun h8 => h8 h9
      · exact Or.inl e1
    · intro h e1 z hz
      obtain ⟨r, r1, r2, r3⟩ := (hb z).mp hz
      have he := hW.2.2.2.1 (a : Int) (r : Int) (by omega) (by omega) (by omega) (by omega)
      rcases h r r1 r2 with h8 | h8
      · exact absurd e1 h8
      · rw [r3, bb z (by omega)] at h8
        exact Classical.byContradiction h8
  unfold wtA
  constructor
  · intro h a ha
    have h9 := ite10 (show (if ∀ a : Nat, a < (Λ 0 0).toNat → bAnd (bShr (t : Int) (a : Int)) 1 = 0 → bAnd (wyW Λ s 2 (a : Int)) (bXor (t : Int) (-1)) = 0 then (1 : Int) else 0) ≠ 0 by rw [h]; decide)
    exact (key a ha).mp (h9 a ha)
  · intro h
    exact if_pos fun a ha => (key a ha).mpr (h a ha)
theorem mp_isWatched {l : Launch} {γ : Gh} {ρ m : Mm} {t : Nat} {s : Int → Int} {Λ : Mm} {hl tl : List Int} (hL : LY ρ) (hR : MR m) (hW : WL Λ) (hM : MLand m Λ hl tl) (hs : MRow m s) (hσ : WS Λ 0 (sig0 s)) (ht : t < 512) : gE l γ μX11_isWatched 1 0 0 (rI KK fun x ρ9 m9 => ρ = ρ9 ∧ MR m9 ∧ wtA Λ s (t : Int) = x ∧ m = m9) xN KK ρ m [vR 84, vI (t : Int)] := by
  refine gE.ofw cl_X11.2 ?_ rfl rfl (Nat.le_of_ble_eq_true rfl)
  show gT l γ μX11_isWatched 1 0 0 _ _ KK ρ m 0 [some (vR 84), some (vI (t : Int)), none, none] []
  have hn1 := hW.1
  have hN := hM.1
  have hwt := wt_iff (s := s) hW ht
  refine tz_iconst (n := 1) (g_at ck_X11_isWatched 0 rfl) rfl ?_
  refine tz_istore2 (n := 2) (g_at ck_X11_isWatched 1 rfl) rfl (by decide) g_hpI ?_
  refine g_for (fun i : Nat => (∀ a : Nat, a < i → ∀ r : Nat, r < (Λ 3 (a : Int)).toNat → WtP Λ s (t : Int) (a : Int) r) → gT l γ μX11_isWatched 1 0 0 _ _ KK ρ m 2 [some (vR 84), some (vI (t : Int)), some (vI (i : Int)), none] []) (Λ 0 0).toNat ?_ (fun i hi ihi => ?_) 0 (Nat.zero_le _) (fun a h9 => absurd h9 (Nat.not_lt_zero a))
  · intro hinv
    have hno := hinv
    refine tz_iload2 (n := 3) (g_at ck_X11_isWatched 2 rfl) rfl ?_
    refine tz_aload0 (n := 4) (g_at ck_X11_isWatched 3 rfl) rfl (g_ne kd_84) ?_
    refine tz_getIw (n := 7) (kz := 1) fk_X11_302 kd_84 (g_at ck_X11_isWatched 4 rfl) rfl rfl ?_
    rw [hN]
    refine tz_icmp_ge (n := 10) (tgt := 74) (g_at ck_X11_isWatched 5 rfl) rfl rfl (by omega) (fun h7 => ?_) (fun h7 => absurd h7 (by omega))
    refine tz_iconst (n := 75) (g_at ck_X11_isWatched 46 rfl) rfl ?_
    exact tz_bret (g_at ck_X11_isWatched 47 rfl) rfl (by decide) (rI_mk ⟨rfl, hR, hwt.mpr hno, rfl⟩)
  · intro hinv
    have hno := hinv
    have hcw := hW.2.2.1 (i : Int) (by omega) (by omega)
    have r87 := (hM.2.2.1 (i : Int) (by omega) (by omega)).2.2
    refine tz_iload2 (n := 3) (g_at ck_X11_isWatched 2 rfl) rfl ?_
    refine tz_aload0 (n := 4) (g_at ck_X11_isWatched 3 rfl) rfl (g_ne kd_84) ?_
    refine tz_getIw (n := 7) (kz := 1) fk_X11_302 kd_84 (g_at ck_X11_isWatched 4 rfl) rfl rfl ?_
    rw [hN]
    refine tz_icmp_ge (n := 10) (tgt := 74) (g_at ck_X11_isWatched 5 rfl) rfl rfl (by omega) (fun h7 => absurd h7 (by omega)) (fun h7 => ?_)
    refine tz_iconst (n := 11) (g_at ck_X11_isWatched 6 rfl) rfl ?_
    refine tz_istore3 (n := 12) (g_at ck_X11_isWatched 7 rfl) rfl (by decide) g_hpI ?_
    refine g_for (fun j : Nat => (∀ q : Nat, q < j → WtP Λ s (t : Int) (i : Int) q) → gT l γ μX11_isWatched 1 0 0 _ _ KK ρ m 12 [some (vR 84), some (vI (t : Int)), some (vI (i : Int)), some (vI (j : Int))] []) (Λ 3 (i : Int)).toNat ?_ (fun j hj ihj => ?_) 0 (Nat.zero_le _) (fun q h9 => absurd h9 (Nat.not_lt_zero q))
    · intro hinv
      refine tz_iload3 (n := 13) (g_at ck_X11_isWatched 8 rfl) rfl ?_
      refine tz_aload0 (n := 14) (g_at ck_X11_isWatched 9 rfl) rfl (g_ne kd_84) ?_
      refine tz_getAv (n := 17) (a := 87) fk_X11_23 kd_84 (ly_84_7 hL) (g_at ck_X11_isWatched 10 rfl) rfl ?_
      refine tz_iload2 (n := 18) (g_at ck_X11_isWatched 11 rfl) rfl ?_
      refine tz_iald (n := 19) kd_87 (by omega) (g_at ck_X11_isWatched 12 rfl) rfl ?_
      rw [r87]
      refine tz_icmp_ge (n := 22) (tgt := 68) (g_at ck_X11_isWatched 13 rfl) rfl rfl (by omega) (fun h19 => ?_) (fun h19 => absurd h19 (by omega))
      refine tz_iinc2 (n := 71) (g_at ck_X11_isWatched 44 rfl) rfl (by decide) g_hpI ?_
      refine tz_goto (tgt := 2) (g_at ck_X11_isWatched 45 rfl) rfl ?_
      refine tz_drop3 ?_
      exact ihi (fun a ha => if e9 : a = i then e9 ▸ hinv else hno a (by omega))
    · intro hinv
      have hnj := hinv
      have r88 := hM.2.2.2.1 (i : Int) (j : Int) (by omega) (by omega) (by omega) (by omega)
      refine tz_iload3 (n := 13) (g_at ck_X11_isWatched 8 rfl) rfl ?_
      refine tz_aload0 (n := 14) (g_at ck_X11_isWatched 9 rfl) rfl (g_ne kd_84) ?_
      refine tz_getAv (n := 17) (a := 87) fk_X11_23 kd_84 (ly_84_7 hL) (g_at ck_X11_isWatched 10 rfl) rfl ?_
      refine tz_iload2 (n := 18) (g_at ck_X11_isWatched 11 rfl) rfl ?_
      refine tz_iald (n := 19) kd_87 (by omega) (g_at ck_X11_isWatched 12 rfl) rfl ?_
      rw [r87]
      refine tz_icmp_ge (n := 22) (tgt := 68) (g_at ck_X11_isWatched 13 rfl) rfl rfl (by omega) (fun h19 => absurd h19 (by omega)) (fun h19 => ?_)
      refine tz_aload0 (n := 23) (g_at ck_X11_isWatched 14 rfl) rfl (g_ne kd_84) ?_
      refine tz_iconst (n := 24) (g_at ck_X11_isWatched 15 rfl) rfl ?_
      refine tz_iload2 (n := 25) (g_at ck_X11_isWatched 16 rfl) rfl ?_
      refine tz_iload3 (n := 26) (g_at ck_X11_isWatched 17 rfl) rfl ?_
      refine tz_cvI3 (n := 29) (μ' := μX11_isShut) (cb' := 0) (sb' := 0) ml_X11_338 mo_X11_isShut mv_X11_isShut np_X11_isShut kd_84 (g_at ck_X11_isWatched 18 rfl) (mp_isShut hL hR (Or.inl rfl) (by omega)) rfl rfl rfl ⟨by decide, by decide⟩ (Nat.le_of_ble_eq_true rfl) (by decide) (by decide) (fun x26 ρ9 m26 hq => ?_)
      obtain ⟨rfl, hR1, rfl, rfl⟩ := hq
      rw [show (0 : Int) + 26 + (i : Int) = 26 + (i : Int) by omega, hs (26 + (i : Int)) (by omega) (by omega)]
      have h01 := shutB_01 (s (26 + (i : Int))) (j : Int)
      refine tz_if_eq (n := 32) (tgt := 35) (g_at ck_X11_isWatched 19 rfl) rfl rfl (by omega) (fun h29 => ?_) (fun h29 => ?_)
      · skip
        refine tz_iload1 (n := 36) (g_at ck_X11_isWatched 21 rfl) rfl ?_
        refine tz_iload2 (n := 37) (g_at ck_X11_isWatched 22 rfl) rfl ?_
        refine tz_ishr (n := 38) (g_at ck_X11_isWatched 23 rfl) rfl ?_
        refine tz_iconst (n := 39) (g_at ck_X11_isWatched 24 rfl) rfl ?_
        refine tz_iand (n := 40) (g_at ck_X11_isWatched 25 rfl) rfl ?_
        refine tz_if_ne (n := 43) (tgt := 62) (g_at ck_X11_isWatched 26 rfl) rfl rfl (bAnd_rg _ _) (fun h40 => ?_) (fun h40 => ?_)
        · skip
          refine tz_iinc3 (n := 65) (g_at ck_X11_isWatched 42 rfl) rfl (by decide) g_hpI ?_
          refine tz_goto (tgt := 12) (g_at ck_X11_isWatched 43 rfl) rfl ?_
          exact ihj (fun q hq => if e9 : q = j then e9 ▸ (fun _ => Or.inl h40) else hnj q (by omega))
        · skip
          refine tz_iload1 (n := 44) (g_at ck_X11_isWatched 27 rfl) rfl ?_
          refine tz_aload0 (n := 45) (g_at ck_X11_isWatched 28 rfl) rfl (g_ne kd_84) ?_
          refine tz_getAv (n := 48) (a := 88) fk_X11_26 kd_84 (ly_84_8 hL) (g_at ck_X11_isWatched 29 rfl) rfl ?_
          refine tz_iconst (n := 49) (g_at ck_X11_isWatched 30 rfl) rfl ?_
          refine tz_iload2 (n := 50) (g_at ck_X11_isWatched 31 rfl) rfl ?_
          refine tz_imul (n := 51) (g_at ck_X11_isWatched 32 rfl) rfl ?_
          refine tz_iload3 (n := 52) (g_at ck_X11_isWatched 33 rfl) rfl ?_
          refine tz_iadd (n := 53) (g_at ck_X11_isWatched 34 rfl) rfl ?_
          refine tz_iald (n := 54) kd_88 (by omega) (g_at ck_X11_isWatched 35 rfl) rfl ?_
          rw [r88]
          refine tz_ishr (n := 55) (g_at ck_X11_isWatched 36 rfl) rfl ?_
          refine tz_iconst (n := 56) (g_at ck_X11_isWatched 37 rfl) rfl ?_
          refine tz_iand (n := 57) (g_at ck_X11_isWatched 38 rfl) rfl ?_
          refine tz_if_ne (n := 60) (tgt := 62) (g_at ck_X11_isWatched 39 rfl) rfl rfl (bAnd_rg _ _) (fun h57 => ?_) (fun h57 => ?_)
          · skip
            refine tz_iinc3 (n := 65) (g_at ck_X11_isWatched 42 rfl) rfl (by decide) g_hpI ?_
            refine tz_goto (tgt := 12) (g_at ck_X11_isWatched 43 rfl) rfl ?_
            exact ihj (fun q hq => if e9 : q = j then e9 ▸ (fun _ => Or.inr h57) else hnj q (by omega))
          · skip
            refine tz_iconst (n := 61) (g_at ck_X11_isWatched 40 rfl) rfl ?_
            exact tz_bret (g_at ck_X11_isWatched 41 rfl) rfl (by decide) (rI_mk ⟨rfl, hR1, wtA_01.elim id fun h9 => absurd (hwt.mp h9 i (by omega) j (by omega) h29) (fun h8 => h8.elim (fun h7 => h7 h40) (fun h7 => h7 h57)), rfl⟩)
      · skip
        refine tz_goto (tgt := 62) (g_at ck_X11_isWatched 20 rfl) rfl ?_
        refine tz_iinc3 (n := 65) (g_at ck_X11_isWatched 42 rfl) rfl (by decide) g_hpI ?_
        refine tz_goto (tgt := 12) (g_at ck_X11_isWatched 43 rfl) rfl ?_
        exact ihj (fun q hq => if e9 : q = j then e9 ▸ (fun h9 => absurd h9 (by omega)) else hnj q (by omega))
def bvW (q : Int × Int) : Int := if q.2 = 10 then -1 else q.1
theorem wt_s {Λ : Mm} {s : Int → Int} {n : Nat} : wtN Λ s (n + 1) = if bcJ (n : Int) < (wtN Λ s n).2 ∧ wtA Λ s (n : Int) = 1 then ((n : Int), bcJ (n : Int)) else wtN Λ s n := rfl
theorem wt_y {Λ : Mm} {s : Int → Int} {n : Nat} (h : bcJ (n : Int) < (wtN Λ s n).2) (h1 : wtA Λ s (n : Int) = 1) : wtN Λ s (n + 1) = ((n : Int), bcJ (n : Int)) := if_pos ⟨h, h1⟩
theorem wt_n {Λ : Mm} {s : Int → Int} {n : Nat} (h : ¬ (bcJ (n : Int) < (wtN Λ s n).2 ∧ wtA Λ s (n : Int) = 1)) : wtN Λ s (n + 1) = wtN Λ s n := if_neg h
theorem wt_inv {Λ : Mm} {s : Int → Int} : ∀ n : Nat, n ≤ 512 → ((wtN Λ s n).2 = 10 ∧ (wtN Λ s n).1 = 0) ∨ ((wtN Λ s n).2 = bcJ (wtN Λ s n).1 ∧ 0 ≤ (wtN Λ s n).1 ∧ (wtN Λ s n).1 < n ∧ 0 ≤ (wtN Λ s n).2 ∧ (wtN Λ s n).2 ≤ 9)
  | 0, _ => Or.inl ⟨rfl, rfl⟩
  | n + 1, h => by
    have ih := wt_inv (Λ := Λ) (s := s) n (by omega)
    have hb := bcJ_9 n (by omega)
    rw [wt_s]
    split
    · right
      show bcJ (n : Int) = bcJ (n : Int) ∧ 0 ≤ (n : Int) ∧ (n : Int) < ((n + 1 : Nat) : Int) ∧ 0 ≤ bcJ (n : Int) ∧ bcJ (n : Int) ≤ 9
      omega
    · omega
theorem wt_last {Λ : Mm} {s : Int → Int} (hW : WL Λ) : wtA Λ s ((2 ^ (Λ 0 0).toNat - 1 : Nat) : Int) = 1 := by
  have h0 := hW.1
  have p9 : 2 ^ (Λ 0 0).toNat ≤ 2 ^ 9 := Nat.pow_le_pow_right (by decide) (by omega)
  refine (wt_iff hW (by omega)).mpr fun a ha r _ _ => Or.inl ?_
  unfold bitI
  rw [bBit (by omega) (by omega), Nat.testBit_two_pow_sub_one, if_pos (by exact decide_eq_true ha)]
  decide
theorem wt_fin {Λ : Mm} {s : Int → Int} (hW : WL Λ) : bvW (wtN Λ s (2 ^ (Λ 0 0).toNat)) = (wtN Λ s (2 ^ (Λ 0 0).toNat)).1 := by
  have h0 := hW.1
  have p9 : 2 ^ (Λ 0 0).toNat ≤ 2 ^ 9 := Nat.pow_le_pow_right (by decide) (by omega)
  have p0 : 0 < 2 ^ (Λ 0 0).toNat := Nat.pow_pos (by decide)
  have hl := wt_last (s := s) hW
  obtain ⟨k, ek⟩ : ∃ k, 2 ^ (Λ 0 0).toNat = k + 1 := ⟨2 ^ (Λ 0 0).toNat - 1, by omega⟩
  rw [ek] at hl p9 ⊢
  rw [show k + 1 - 1 = k from rfl] at hl
  have hb := bcJ_9 k (by omega)
  have hi := wt_inv (Λ := Λ) (s := s) k (by omega)
  unfold bvW
  rw [wt_s]
  by_cases h : bcJ (k : Int) < (wtN Λ s k).2 ∧ wtA Λ s (k : Int) = 1
  · rw [if_pos h]
    exact if_neg (by show ¬ bcJ (k : Int) = 10; omega)
  · rw [if_neg h]
    exact if_neg (fun h9 => h ⟨by omega, hl⟩)
theorem mp_watched {l : Launch} {γ : Gh} {ρ m : Mm} {s : Int → Int} {Λ : Mm} {hl tl : List Int} (hL : LY ρ) (hR : MR m) (hW : WL Λ) (hM : MLand m Λ hl tl) (hs : MRow m s) (hσ : WS Λ 0 (sig0 s)) : gE l γ μX11_watched 2 0 0 (rI KK fun x ρ9 m9 => ρ = ρ9 ∧ MR m9 ∧ (wtN Λ s (2 ^ (Λ 0 0).toNat)).1 = x ∧ m = m9) xN KK ρ m [vR 84] := by
  refine gE.ofw cl_X11.2 ?_ rfl rfl (Nat.le_of_ble_eq_true rfl)
  show gT l γ μX11_watched 2 0 0 _ _ KK ρ m 0 [some (vR 84), none, none] []
  have hn1 := hW.1
  have hN := hM.1
  have hfin := wt_fin (s := s) hW
  obtain ⟨N9, hN9⟩ : ∃ N9, N9 = 2 ^ (Λ 0 0).toNat := ⟨_, rfl⟩
  have hpw : N9 ≤ 512 := by rw [hN9]; exact Nat.pow_le_pow_right (show 0 < 2 by decide) (show (Λ 0 0).toNat ≤ 9 by omega)
  rw [← hN9] at hfin ⊢
  refine tz_iconst (n := 1) (g_at ck_X11_watched 0 rfl) rfl ?_
  refine tz_istore1 (n := 2) (g_at ck_X11_watched 1 rfl) rfl (by decide) g_hpR ?_
  refine tz_iconst (n := 3) (g_at ck_X11_watched 2 rfl) rfl ?_
  refine tz_istore2 (n := 4) (g_at ck_X11_watched 3 rfl) rfl (by decide) g_hpI ?_
  refine g_for (fun i : Nat => gT l γ μX11_watched 2 0 0 _ _ KK ρ m 4 [some (vR 84), some (vI (bvW (wtN Λ s i))), some (vI (i : Int))] []) N9 ?_ (fun i hi ihi => ?_) 0 (Nat.zero_le _)
  · skip
    refine tz_iload2 (n := 5) (g_at ck_X11_watched 4 rfl) rfl ?_
    refine tz_iconst (n := 6) (g_at ck_X11_watched 5 rfl) rfl ?_
    refine tz_aload0 (n := 7) (g_at ck_X11_watched 6 rfl) rfl (g_ne kd_84) ?_
    refine tz_getIw (n := 10) (kz := 1) fk_X11_302 kd_84 (g_at ck_X11_watched 7 rfl) rfl rfl ?_
    refine tz_ishl (n := 11) (g_at ck_X11_watched 8 rfl) rfl ?_
    rw [hN, show bShl 1 (Λ 0 0) = (N9 : Int) by rw [hN9]; have h9 := bShl_1 (Λ 0 0).toNat (by omega); rw [show (((Λ 0 0).toNat : Nat) : Int) = Λ 0 0 by omega] at h9; exact h9]
    refine tz_icmp_ge (n := 14) (tgt := 46) (g_at ck_X11_watched 9 rfl) rfl rfl (by omega) (fun h11 => ?_) (fun h11 => absurd h11 (by omega))
    refine tz_iload1 (n := 47) (g_at ck_X11_watched 26 rfl) rfl ?_
    exact tz_iret (g_at ck_X11_watched 27 rfl) rfl (rI_mk ⟨rfl, hR, hfin.symm, rfl⟩)
  · skip
    have hwi := wt_inv (Λ := Λ) (s := s) i (by omega)
    have hb0 := bcJ_9 i (by omega)
    have wq : ¬ bvW (wtN Λ s i) = -1 → bvW (wtN Λ s i) = (wtN Λ s i).1 ∧ (wtN Λ s i).2 = bcJ (wtN Λ s i).1 ∧ 0 ≤ (wtN Λ s i).1 ∧ (wtN Λ s i).1 < 512 ∧ 0 ≤ (wtN Λ s i).2 ∧ (wtN Λ s i).2 ≤ 9 := fun h9 => by unfold bvW at h9 ⊢; split at h9; exact absurd rfl h9; rename_i h8; rw [if_neg h8]; omega
    have wn : bvW (wtN Λ s i) = -1 → (wtN Λ s i).2 = 10 := fun h9 => by unfold bvW at h9; split at h9; assumption; omega
    have wr9 : -1 ≤ bvW (wtN Λ s i) ∧ bvW (wtN Λ s i) < 512 := by unfold bvW; split <;> omega
    refine tz_iload2 (n := 5) (g_at ck_X11_watched 4 rfl) rfl ?_
    refine tz_iconst (n := 6) (g_at ck_X11_watched 5 rfl) rfl ?_
    refine tz_aload0 (n := 7) (g_at ck_X11_watched 6 rfl) rfl (g_ne kd_84) ?_
    refine tz_getIw (n := 10) (kz := 1) fk_X11_302 kd_84 (g_at ck_X11_watched 7 rfl) rfl rfl ?_
    refine tz_ishl (n := 11) (g_at ck_X11_watched 8 rfl) rfl ?_
    rw [hN, show bShl 1 (Λ 0 0) = (N9 : Int) by rw [hN9]; have h9 := bShl_1 (Λ 0 0).toNat (by omega); rw [show (((Λ 0 0).toNat : Nat) : Int) = Λ 0 0 by omega] at h9; exact h9]
    refine tz_icmp_ge (n := 14) (tgt := 46) (g_at ck_X11_watched 9 rfl) rfl rfl (by omega) (fun h11 => absurd h11 (by omega)) (fun h11 => ?_)
    refine tz_iload1 (n := 15) (g_at ck_X11_watched 10 rfl) rfl ?_
    refine tz_iconst (n := 16) (g_at ck_X11_watched 11 rfl) rfl ?_
    refine tz_icmp_eq (n := 19) (tgt := 30) (g_at ck_X11_watched 12 rfl) rfl rfl (by omega) (fun h16 => ?_) (fun h16 => ?_)
    · skip
      have hq10 := wn h16
      refine tz_aload0 (n := 31) (g_at ck_X11_watched 18 rfl) rfl (g_ne kd_84) ?_
      refine tz_iload2 (n := 32) (g_at ck_X11_watched 19 rfl) rfl ?_
      refine tz_cvI1 (n := 35) (μ' := μX11_isWatched) (cb' := 0) (sb' := 0) ml_X11_371 mo_X11_isWatched mv_X11_isWatched np_X11_isWatched kd_84 (g_at ck_X11_watched 20 rfl) (mp_isWatched hL hR hW hM hs hσ (by omega)) rfl rfl rfl ⟨by decide, by decide⟩ (Nat.le_of_ble_eq_true rfl) (by decide) (by decide) (fun x32 ρ9 m32 hq => ?_)
      obtain ⟨rfl, hR1, rfl, rfl⟩ := hq
      have w01 := wtA_01 (Λ := Λ) (s := s) (t := (i : Int))
      refine tz_if_eq (n := 38) (tgt := 40) (g_at ck_X11_watched 21 rfl) rfl rfl (by omega) (fun h35 => ?_) (fun h35 => ?_)
      · skip
        refine tz_iinc2 (n := 43) (g_at ck_X11_watched 24 rfl) rfl (by decide) g_hpI ?_
        refine tz_goto (tgt := 4) (g_at ck_X11_watched 25 rfl) rfl ?_
        have e9 : wtN Λ s (i + 1) = (wtN Λ s i) := wt_n (fun h9 => absurd h9.2 (by omega))
        rw [e9] at ihi
        exact ihi
      · skip
        refine tz_iload2 (n := 39) (g_at ck_X11_watched 22 rfl) rfl ?_
        refine tz_istore1 (n := 40) (g_at ck_X11_watched 23 rfl) rfl (by decide) g_hpR ?_
        refine tz_iinc2 (n := 43) (g_at ck_X11_watched 24 rfl) rfl (by decide) g_hpI ?_
        refine tz_goto (tgt := 4) (g_at ck_X11_watched 25 rfl) rfl ?_
        have e9 : wtN Λ s (i + 1) = ((i : Int), bcJ (i : Int)) := wt_y (by omega) (by omega)
        have e8 : bvW ((i : Int), bcJ (i : Int)) = (i : Int) := if_neg (by show ¬ bcJ (i : Int) = 10; omega)
        rw [e9, e8] at ihi
        exact ihi
    · skip
      refine tz_iload2 (n := 20) (g_at ck_X11_watched 13 rfl) rfl ?_
      refine tz_csI1 (n := 23) (μ' := μX11_bits) (cb' := 0) (sb' := 0) ml_X11_329 mo_X11_bits ms_X11_bits np_X11_bits (g_at ck_X11_watched 14 rfl) (mp_bits hR) rfl rfl ⟨by decide, by decide⟩ (Nat.le_of_ble_eq_true rfl) (by decide) (by decide) (fun x20 ρ9 m20 hq => ?_)
      obtain ⟨rfl, hR2, rfl, rfl⟩ := hq
      refine tz_iload1 (n := 24) (g_at ck_X11_watched 15 rfl) rfl ?_
      refine tz_csI1 (n := 27) (μ' := μX11_bits) (cb' := 0) (sb' := 0) ml_X11_329 mo_X11_bits ms_X11_bits np_X11_bits (g_at ck_X11_watched 16 rfl) (mp_bits hR2) rfl rfl ⟨by decide, by decide⟩ (Nat.le_of_ble_eq_true rfl) (by decide) (by decide) (fun x24 ρ9 m24 hq => ?_)
      obtain ⟨rfl, hR3, rfl, rfl⟩ := hq
      have hwq := wq (by omega)
      rw [hwq.1, bitsM_bc i (by omega), (bm_512 (by omega)).1, ← hwq.2.1]
      have hb9 := bcJ_9 i (by omega)
      refine tz_icmp_ge (n := 30) (tgt := 40) (g_at ck_X11_watched 17 rfl) rfl rfl (by omega) (fun h27 => ?_) (fun h27 => ?_)
      · skip
        refine tz_iinc2 (n := 43) (g_at ck_X11_watched 24 rfl) rfl (by decide) g_hpI ?_
        refine tz_goto (tgt := 4) (g_at ck_X11_watched 25 rfl) rfl ?_
        have e9 : wtN Λ s (i + 1) = (wtN Λ s i) := wt_n (fun h9 => absurd h9.1 (by omega))
        rw [e9] at ihi
        rw [hwq.1] at ihi
        exact ihi
      · skip
        refine tz_aload0 (n := 31) (g_at ck_X11_watched 18 rfl) rfl (g_ne kd_84) ?_
        refine tz_iload2 (n := 32) (g_at ck_X11_watched 19 rfl) rfl ?_
        refine tz_cvI1 (n := 35) (μ' := μX11_isWatched) (cb' := 0) (sb' := 0) ml_X11_371 mo_X11_isWatched mv_X11_isWatched np_X11_isWatched kd_84 (g_at ck_X11_watched 20 rfl) (mp_isWatched hL hR3 hW hM hs hσ (by omega)) rfl rfl rfl ⟨by decide, by decide⟩ (Nat.le_of_ble_eq_true rfl) (by decide) (by decide) (fun x32 ρ9 m32 hq => ?_)
        obtain ⟨rfl, hR4, rfl, rfl⟩ := hq
        have w01 := wtA_01 (Λ := Λ) (s := s) (t := (i : Int))
        refine tz_if_eq (n := 38) (tgt := 40) (g_at ck_X11_watched 21 rfl) rfl rfl (by omega) (fun h35 => ?_) (fun h35 => ?_)
        · skip
          refine tz_iinc2 (n := 43) (g_at ck_X11_watched 24 rfl) rfl (by decide) g_hpI ?_
          refine tz_goto (tgt := 4) (g_at ck_X11_watched 25 rfl) rfl ?_
          have e9 : wtN Λ s (i + 1) = (wtN Λ s i) := wt_n (fun h9 => absurd h9.2 (by omega))
          rw [e9] at ihi
          rw [hwq.1] at ihi
          exact ihi
        · skip
          refine tz_iload2 (n := 39) (g_at ck_X11_watched 22 rfl) rfl ?_
          refine tz_istore1 (n := 40) (g_at ck_X11_watched 23 rfl) rfl (by decide) g_hpR ?_
          refine tz_iinc2 (n := 43) (g_at ck_X11_watched 24 rfl) rfl (by decide) g_hpI ?_
          refine tz_goto (tgt := 4) (g_at ck_X11_watched 25 rfl) rfl ?_
          have e9 : wtN Λ s (i + 1) = ((i : Int), bcJ (i : Int)) := wt_y (by omega) (by omega)
          have e8 : bvW ((i : Int), bcJ (i : Int)) = (i : Int) := if_neg (by show ¬ bcJ (i : Int) = 10; omega)
          rw [e9, e8] at ihi
          exact ihi
