/-! What the ways tell. -/
section
variable {m m9 Λ : Mm} {s : Int → Int}
theorem SvC.f (h : SvC m Λ s) (j : Int) (hj : 0 ≤ j ∧ j < 81) : m 72 j = wyW Λ s 0 j := h.1.f j hj
theorem SvC.c (h : SvC m Λ s) (j : Int) (hj : 0 ≤ j ∧ j < 81) : m 73 j = wyW Λ s 1 j := h.1.c j hj
theorem SvC.n (h : SvC m Λ s) (j : Int) (hj : 0 ≤ j ∧ j < 9) : m 74 j = wyW Λ s 2 j := h.1.n j hj
theorem SvC.b (h : SvC m Λ s) (j : Int) (hj : 0 ≤ j ∧ j < 9) : m 76 j = wyW Λ s 3 j := h.1.b j hj
theorem SvC.r (h : SvC m Λ s) (j : Int) (hj : 0 ≤ j ∧ j < Λ 0 0) : m 75 j = rcP Λ s j := h.2.1 j hj.1 hj.2
theorem SvC.w (h : SvC m Λ s) (j : Int) (hj : 0 ≤ j ∧ j < 8) : m 77 j = s (1 + j) := h.2.2 j hj.1 hj.2
theorem SvC.sam (h : SvC m Λ s) (k : ∀ a, 72 ≤ a → a ≤ 77 → m9 a = m a) : SvC m9 Λ s := by
  refine ⟨h.1.sam (fun a ha => k a (by omega) (by omega)), fun a h1 h2 => ?_, fun p h1 h2 => ?_⟩
  · rw [k 75 (by decide) (by decide)]; exact h.2.1 a h1 h2
  · rw [k 77 (by decide) (by decide)]; exact h.2.2 p h1 h2
theorem rc_bit (hW : WL Λ) {a z : Int} (hz : 0 ≤ z ∧ z < Λ 0 0) : bAnd (bShr (rcP Λ s a) z) 1 = if wyW Λ s 0 (a * 9 + z) < 10000 then 1 else 0 := by
  have hn := hW.1
  have h := bmI_bit (fun q => wyW Λ s 0 (a * 9 + (q : Int)) < 10000) (n := (Λ 0 0).toNat) (k := z.toNat) (by omega) (by omega)
  have e : ((z.toNat : Nat) : Int) = z := by omega
  rw [e] at h
  exact h
end
def ptP (Λ : Mm) (s : Int → Int) (c : Int) (n : Nat) : Int := bmI (fun z => wyW Λ s 0 (c * 9 + (z : Int)) < 10000 ∧ wyW Λ s 0 ((z : Int) * 9 + c) < 10000) n
theorem ptP_rg {Λ : Mm} {s : Int → Int} {c : Int} {n : Nat} (hn : n ≤ 9) : 0 ≤ ptP Λ s c n ∧ ptP Λ s c n < 512 := by
  have h1 := bmN_lt (fun z => wyW Λ s 0 (c * 9 + (z : Int)) < 10000 ∧ wyW Λ s 0 ((z : Int) * 9 + c) < 10000) n
  have h2 : 2 ^ n ≤ 2 ^ 9 := Nat.pow_le_pow_right (by decide) hn
  unfold ptP
  rw [bmI_N _ _ (by omega)]
  omega
def pcN (Λ : Mm) (s : Int → Int) (n : Nat) : Int := fd (fun c v => if bAnd (ptP Λ s (c : Int) (Λ 0 0).toNat) (bShl 1 (c : Int) - 1) = 0 then v + 1 else v) 0 n
def wtA (Λ : Mm) (s : Int → Int) (t : Int) : Int := if ∀ a : Nat, a < (Λ 0 0).toNat → bAnd (bShr t (a : Int)) 1 = 0 → bAnd (wyW Λ s 2 (a : Int)) (bXor t (-1)) = 0 then 1 else 0
theorem wtA_01 {Λ : Mm} {s : Int → Int} {t : Int} : wtA Λ s t = 0 ∨ wtA Λ s t = 1 := by
  unfold wtA
  split <;> simp
def wtN (Λ : Mm) (s : Int → Int) (n : Nat) : Int × Int := fd (fun t q => if bcJ (t : Int) < q.2 ∧ wtA Λ s (t : Int) = 1 then ((t : Int), bcJ (t : Int)) else q) (0, 10) n
theorem wtN_s {Λ : Mm} {s : Int → Int} {n : Nat} : wtN Λ s (n + 1) = if bcJ (n : Int) < (wtN Λ s n).2 ∧ wtA Λ s (n : Int) = 1 then ((n : Int), bcJ (n : Int)) else wtN Λ s n := rfl
theorem wtN_rg {Λ : Mm} {s : Int → Int} : ∀ n, -2147483648 ≤ (wtN Λ s n).2 ∧ (wtN Λ s n).2 < 2147483648
  | 0 => by show (-2147483648 : Int) ≤ 10 ∧ (10 : Int) < 2147483648; decide
  | n + 1 => by
    have ih := wtN_rg (Λ := Λ) (s := s) n
    show -2147483648 ≤ (if bcJ (n : Int) < (wtN Λ s n).2 ∧ wtA Λ s (n : Int) = 1 then ((n : Int), bcJ (n : Int)) else wtN Λ s n).2 ∧ (if bcJ (n : Int) < (wtN Λ s n).2 ∧ wtA Λ s (n : Int) = 1 then ((n : Int), bcJ (n : Int)) else wtN Λ s n).2 < 2147483648
    split
    · exact bcJ_rg _
    · exact ih
theorem shN {n : Int} (h : 0 ≤ n ∧ n ≤ 9) : bShl 1 n = ((2 ^ n.toNat : Nat) : Int) ∧ 1 ≤ 2 ^ n.toNat ∧ 2 ^ n.toNat ≤ 512 := by
  have e := bShl_1 n.toNat (by omega)
  rw [show ((n.toNat : Nat) : Int) = n by omega] at e
  have h2 : 2 ^ n.toNat ≤ 2 ^ 9 := Nat.pow_le_pow_right (by decide) (by omega)
  have h3 : 0 < 2 ^ n.toNat := Nat.pow_pos (by decide)
  exact ⟨e, by omega, by omega⟩
def lpN (Λ : Mm) (s : Int → Int) (c : Int) (n : Nat) : Int := fd (fun z v => if bAnd (bShr (wyW Λ s 2 c) (z : Int)) 1 = 1 then mn2 v (1 + wyW Λ s 0 ((z : Int) * 9 + c)) else v) 10000 n
theorem lpN_rg {Λ : Mm} (hW : WL Λ) {s : Int → Int} {c : Int} : ∀ n, 0 ≤ lpN Λ s c n ∧ lpN Λ s c n ≤ 10000
  | 0 => by show (0 : Int) ≤ 10000 ∧ (10000 : Int) ≤ 10000; decide
  | n + 1 => by
    have ih := lpN_rg hW (s := s) (c := c) n
    have h := (wyW_B hW s).1 ((n : Int) * 9 + c)
    show 0 ≤ (if bAnd (bShr (wyW Λ s 2 c) (n : Int)) 1 = 1 then mn2 (lpN Λ s c n) (1 + wyW Λ s 0 ((n : Int) * 9 + c)) else lpN Λ s c n) ∧ (if bAnd (bShr (wyW Λ s 2 c) (n : Int)) 1 = 1 then mn2 (lpN Λ s c n) (1 + wyW Λ s 0 ((n : Int) * 9 + c)) else lpN Λ s c n) ≤ 10000
    unfold mn2
    repeat' split
    all_goals omega
def cmN (Λ : Mm) (s : Int → Int) (c : Int) (n : Nat) : Int := fd (fun p v => v + (if wyW Λ s 0 (s (1 + (p : Int)) * 9 + c) < 10000 then 1 else 0)) 0 n
def ccN (Λ : Mm) (s : Int → Int) (c : Int) (n : Nat) : Int := fd (fun p v => v + (if wyW Λ s 1 (s (1 + (p : Int)) * 9 + c) < 10000 then wyW Λ s 1 (s (1 + (p : Int)) * 9 + c) else 0)) 0 n
theorem cmN_rg {Λ : Mm} {s : Int → Int} {c : Int} : ∀ n : Nat, 0 ≤ cmN Λ s c n ∧ cmN Λ s c n ≤ n
  | 0 => by show (0 : Int) ≤ 0 ∧ (0 : Int) ≤ ((0 : Nat) : Int); decide
  | n + 1 => by
    have ih := cmN_rg (Λ := Λ) (s := s) (c := c) n
    show 0 ≤ cmN Λ s c n + (if _ then (1 : Int) else 0) ∧ cmN Λ s c n + (if _ then (1 : Int) else 0) ≤ _
    split <;> omega
theorem ccN_rg {Λ : Mm} (hW : WL Λ) {s : Int → Int} {c : Int} : ∀ n : Nat, 0 ≤ ccN Λ s c n ∧ ccN Λ s c n ≤ 10000 * n
  | 0 => by show (0 : Int) ≤ 0 ∧ (0 : Int) ≤ 10000 * ((0 : Nat) : Int); decide
  | n + 1 => by
    have ih := ccN_rg hW (s := s) (c := c) n
    have h := (wyW_B hW s).1 (s (1 + (n : Int)) * 9 + c)
    show 0 ≤ ccN Λ s c n + (if wyW Λ s 1 (s (1 + (n : Int)) * 9 + c) < 10000 then wyW Λ s 1 (s (1 + (n : Int)) * 9 + c) else 0) ∧ ccN Λ s c n + (if wyW Λ s 1 (s (1 + (n : Int)) * 9 + c) < 10000 then wyW Λ s 1 (s (1 + (n : Int)) * 9 + c) else 0) ≤ _
    split <;> omega
def wkF (ω : Mm) (t : Int) (v : Int) (n : Nat) : Int := fd (fun e u => if bAnd (bShr v (e : Int)) 1 = 1 then bOr u (bAnd (ω 2 (e : Int)) (bXor t (-1))) else u) 0 n
def wkT (t fr : Int) (T : Int → Int) (n : Nat) : Int → Int := fd (fun z U => if bAnd (bShr fr (z : Int)) 1 = 1 then up U (bOr t (bShl 1 (z : Int))) (bOr (U (bOr t (bShl 1 (z : Int)))) (bShl 1 (z : Int))) else U) T n
def wkO (Λ : Mm) (s : Int → Int) (t : Int) (T : Int → Int) : Int → Int := wkT t (wkF (wyW Λ s) t (T t) (Λ 0 0).toNat) T (Λ 0 0).toNat
def lgN (Λ : Mm) (s : Int → Int) (c : Int) (n : Nat) : Int × (Int → Int) := fd (fun t q => if q.2 (t : Int) = 0 then q else (if q.1 < bcJ (t : Int) - 1 then bcJ (t : Int) - 1 else q.1, wkO Λ s (t : Int) q.2)) (0, up (fun _ => 0) (bShl 1 c) (bShl 1 c)) n
theorem bor_lt {t z n : Nat} (ht : t < 2 ^ n) (hz : z < n) (hn : n ≤ 9) : 0 ≤ bOr (t : Int) (bShl 1 (z : Int)) ∧ bOr (t : Int) (bShl 1 (z : Int)) < ((2 ^ n : Nat) : Int) := by
  have h2 : 2 ^ n ≤ 2 ^ 9 := Nat.pow_le_pow_right (by decide) hn
  have h3 : 2 ^ z < 2 ^ n := Nat.pow_lt_pow_right (by decide) hz
  rw [bShl_1 z (by omega), bOr_nn (by omega) (by omega)]
  have := Nat.or_lt_two_pow ht h3
  omega
theorem bcJ_9 : ∀ t : Nat, t < 512 → 0 ≤ bcJ (t : Int) ∧ bcJ (t : Int) ≤ 9 := by decide +kernel
theorem lgN_rg {Λ : Mm} {s : Int → Int} {c : Int} : ∀ n : Nat, n ≤ 512 → 0 ≤ (lgN Λ s c n).1 ∧ (lgN Λ s c n).1 ≤ 9
  | 0, _ => by show (0 : Int) ≤ 0 ∧ (0 : Int) ≤ 9; decide
  | n + 1, hn => by
    have ih := lgN_rg (Λ := Λ) (s := s) (c := c) n (by omega)
    have hb := bcJ_9 n (by omega)
    have e : lgN Λ s c (n + 1) = if (lgN Λ s c n).2 (n : Int) = 0 then lgN Λ s c n else (if (lgN Λ s c n).1 < bcJ (n : Int) - 1 then bcJ (n : Int) - 1 else (lgN Λ s c n).1, wkO Λ s (n : Int) (lgN Λ s c n).2) := rfl
    rw [e]
    split
    · exact ih
    · show 0 ≤ (if (lgN Λ s c n).1 < bcJ (n : Int) - 1 then bcJ (n : Int) - 1 else (lgN Λ s c n).1) ∧ (if (lgN Λ s c n).1 < bcJ (n : Int) - 1 then bcJ (n : Int) - 1 else (lgN Λ s c n).1) ≤ 9
      split <;> omega
theorem ite1 {P : Prop} [Decidable P] (h : (if P then (1 : Int) else 0) = 1) : P := by
  by_cases k : P
  · exact k
  · rw [if_neg k] at h; exact absurd h (by decide)
theorem sp_partOf {l : Launch} {γ : Gh} {ρ m : Mm} {c : Int} {ld : Int} {Λ : Mm} {hl tl : List Int} (hL : LY ρ) (hLw : ρ 71 0 = ld) (hS : isS ρ ld) (hR : MR m) (hW : WL Λ) (hG : LandC m ld Λ hl tl) {s : Int → Int} (hV : SvC m Λ s) (hc : 0 ≤ c ∧ c < Λ 0 0) : gE l γ μX9_partOf 0 0 0 (rI KK fun x ρ9 m9 => ρ = ρ9 ∧ MR m9 ∧ ptP Λ s c (Λ 0 0).toNat = x ∧ m = m9) xN KK ρ m [vR 71, vI c] := by
  refine gE.ofw cl_X9.2 ?_ rfl rfl (Nat.le_of_ble_eq_true rfl)
  show gT l γ μX9_partOf 0 0 0 _ _ KK ρ m 0 [some (vR 71), some (vI c), none, none] []
  have hn := hW.1
  have hn8 := hW.2.1
  have hld := hG.ld9
  refine tz_iconst (n := 1) (g_at ck_X9_partOf 0 rfl) rfl ?_
  refine tz_istore2 (n := 2) (g_at ck_X9_partOf 1 rfl) rfl (by decide) g_hpI ?_
  refine tz_iconst (n := 3) (g_at ck_X9_partOf 2 rfl) rfl ?_
  refine tz_istore3 (n := 4) (g_at ck_X9_partOf 3 rfl) rfl (by decide) g_hpI ?_
  refine g_for (fun i : Nat => gT l γ μX9_partOf 0 0 0 _ _ KK ρ m 4 [some (vR 71), some (vI c), some (vI (ptP Λ s c i)), some (vI (i : Int))] []) (Λ 0 0).toNat ?_ (fun i hi ihi => ?_) 0 (Nat.zero_le _)
  · skip
    refine tz_iload3 (n := 5) (g_at ck_X9_partOf 4 rfl) rfl ?_
    refine tz_aload0 (n := 6) (g_at ck_X9_partOf 5 rfl) rfl (g_ne kd_71) ?_
    refine tz_getOv (n := 9) (a := ld) fk_X9_36 kd_71 hLw (g_at ck_X9_partOf 6 rfl) rfl ?_
    refine tz_getIw (n := 12) (kz := 0) fk_X9_53 hS.k0 (g_at ck_X9_partOf 7 rfl) rfl rfl ?_
    rw [hG.n0]
    refine tz_icmp_ge (n := 15) (tgt := 55) (g_at ck_X9_partOf 8 rfl) rfl rfl ⟨by omega, by omega, by omega, by omega⟩ (fun h12 => ?_) (fun h12 => absurd h12 (by omega))
    refine tz_iload2 (n := 56) (g_at ck_X9_partOf 37 rfl) rfl ?_
    exact tz_iret (g_at ck_X9_partOf 38 rfl) rfl (rI_mk ⟨rfl, hR, rfl, rfl⟩)
  · skip
    have hb1 := rc_bit (s := s) hW (a := c) (z := (i : Int)) (by omega)
    have hb2 := rc_bit (s := s) hW (a := (i : Int)) (z := c) hc
    refine tz_iload3 (n := 5) (g_at ck_X9_partOf 4 rfl) rfl ?_
    refine tz_aload0 (n := 6) (g_at ck_X9_partOf 5 rfl) rfl (g_ne kd_71) ?_
    refine tz_getOv (n := 9) (a := ld) fk_X9_36 kd_71 hLw (g_at ck_X9_partOf 6 rfl) rfl ?_
    refine tz_getIw (n := 12) (kz := 0) fk_X9_53 hS.k0 (g_at ck_X9_partOf 7 rfl) rfl rfl ?_
    rw [hG.n0]
    refine tz_icmp_ge (n := 15) (tgt := 55) (g_at ck_X9_partOf 8 rfl) rfl rfl ⟨by omega, by omega, by omega, by omega⟩ (fun h12 => absurd h12 (by omega)) (fun h12 => ?_)
    refine tz_aload0 (n := 16) (g_at ck_X9_partOf 9 rfl) rfl (g_ne kd_71) ?_
    refine tz_getAv (n := 19) (a := 75) fk_X9_21 kd_71 (ly_71_4 hL) (g_at ck_X9_partOf 10 rfl) rfl ?_
    refine tz_iload1 (n := 20) (g_at ck_X9_partOf 11 rfl) rfl ?_
    refine tz_iald (n := 21) kd_75 (by omega) (g_at ck_X9_partOf 12 rfl) rfl ?_
    rw [hV.r c hc]
    refine tz_iload3 (n := 22) (g_at ck_X9_partOf 13 rfl) rfl ?_
    refine tz_ishr (n := 23) (g_at ck_X9_partOf 14 rfl) rfl ?_
    refine tz_iconst (n := 24) (g_at ck_X9_partOf 15 rfl) rfl ?_
    refine tz_iand (n := 25) (g_at ck_X9_partOf 16 rfl) rfl ?_
    refine tz_iconst (n := 26) (g_at ck_X9_partOf 17 rfl) rfl ?_
    refine tz_icmp_ne (n := 29) (tgt := 49) (g_at ck_X9_partOf 18 rfl) rfl rfl ⟨(bAnd_rg _ _).1, (bAnd_rg _ _).2, by decide, by decide⟩ (fun h26 => ?_) (fun h26 => ?_)
    · skip
      refine tz_iinc3 (n := 52) (g_at ck_X9_partOf 35 rfl) rfl (by decide) g_hpI ?_
      refine tz_goto (tgt := 4) (g_at ck_X9_partOf 36 rfl) rfl ?_
      have e9 : ptP Λ s c (i + 1) = ptP Λ s c i := if_neg (fun h9 => h26 (hb1.trans (if_pos h9.1)))
      exact gT_eq ihi rfl (by rw [e9]; rfl)
    · skip
      refine tz_aload0 (n := 30) (g_at ck_X9_partOf 19 rfl) rfl (g_ne kd_71) ?_
      refine tz_getAv (n := 33) (a := 75) fk_X9_21 kd_71 (ly_71_4 hL) (g_at ck_X9_partOf 20 rfl) rfl ?_
      refine tz_iload3 (n := 34) (g_at ck_X9_partOf 21 rfl) rfl ?_
      refine tz_iald (n := 35) kd_75 (by omega) (g_at ck_X9_partOf 22 rfl) rfl ?_
      rw [hV.r (i : Int) (by omega)]
      refine tz_iload1 (n := 36) (g_at ck_X9_partOf 23 rfl) rfl ?_
      refine tz_ishr (n := 37) (g_at ck_X9_partOf 24 rfl) rfl ?_
      refine tz_iconst (n := 38) (g_at ck_X9_partOf 25 rfl) rfl ?_
      refine tz_iand (n := 39) (g_at ck_X9_partOf 26 rfl) rfl ?_
      refine tz_iconst (n := 40) (g_at ck_X9_partOf 27 rfl) rfl ?_
      refine tz_icmp_ne (n := 43) (tgt := 49) (g_at ck_X9_partOf 28 rfl) rfl rfl ⟨(bAnd_rg _ _).1, (bAnd_rg _ _).2, by decide, by decide⟩ (fun h40 => ?_) (fun h40 => ?_)
      · skip
        refine tz_iinc3 (n := 52) (g_at ck_X9_partOf 35 rfl) rfl (by decide) g_hpI ?_
        refine tz_goto (tgt := 4) (g_at ck_X9_partOf 36 rfl) rfl ?_
        have e9 : ptP Λ s c (i + 1) = ptP Λ s c i := if_neg (fun h9 => h40 (hb2.trans (if_pos h9.2)))
        exact gT_eq ihi rfl (by rw [e9]; rfl)
      · skip
        refine tz_iload2 (n := 44) (g_at ck_X9_partOf 29 rfl) rfl ?_
        refine tz_iconst (n := 45) (g_at ck_X9_partOf 30 rfl) rfl ?_
        refine tz_iload3 (n := 46) (g_at ck_X9_partOf 31 rfl) rfl ?_
        refine tz_ishl (n := 47) (g_at ck_X9_partOf 32 rfl) rfl ?_
        refine tz_ior (n := 48) (g_at ck_X9_partOf 33 rfl) rfl ?_
        refine tz_istore2 (n := 49) (g_at ck_X9_partOf 34 rfl) rfl (by decide) g_hpI ?_
        refine tz_iinc3 (n := 52) (g_at ck_X9_partOf 35 rfl) rfl (by decide) g_hpI ?_
        refine tz_goto (tgt := 4) (g_at ck_X9_partOf 36 rfl) rfl ?_
        have e9 : ptP Λ s c (i + 1) = bOr (ptP Λ s c i) (bShl 1 (i : Int)) := if_pos ⟨ite1 (hb1.symm.trans h26), ite1 (hb2.symm.trans h40)⟩
        exact gT_eq ihi rfl (by rw [e9]; rfl)
theorem sp_parts {l : Launch} {γ : Gh} {ρ m : Mm} {ld : Int} {Λ : Mm} {hl tl : List Int} (hL : LY ρ) (hLw : ρ 71 0 = ld) (hS : isS ρ ld) (hR : MR m) (hW : WL Λ) (hG : LandC m ld Λ hl tl) {s : Int → Int} (hV : SvC m Λ s) : gE l γ μX9_parts 1 0 0 (rI KK fun x ρ9 m9 => ρ = ρ9 ∧ MR m9 ∧ pcN Λ s (Λ 0 0).toNat = x ∧ m = m9) xN KK ρ m [vR 71] := by
  refine gE.ofw cl_X9.2 ?_ rfl rfl (Nat.le_of_ble_eq_true rfl)
  show gT l γ μX9_parts 1 0 0 _ _ KK ρ m 0 [some (vR 71), none, none, none] []
  have hn := hW.1
  have hn8 := hW.2.1
  have hld := hG.ld9
  refine tz_iconst (n := 1) (g_at ck_X9_parts 0 rfl) rfl ?_
  refine tz_istore1 (n := 2) (g_at ck_X9_parts 1 rfl) rfl (by decide) g_hpR ?_
  refine tz_iconst (n := 3) (g_at ck_X9_parts 2 rfl) rfl ?_
  refine tz_istore2 (n := 4) (g_at ck_X9_parts 3 rfl) rfl (by decide) g_hpI ?_
  refine g_for (fun i : Nat => gT l γ μX9_parts 1 0 0 _ _ KK ρ m 4 [some (vR 71), some (vI (pcN Λ s i)), some (vI (i : Int)), none] []) (Λ 0 0).toNat ?_ (fun i hi ihi => ?_) 0 (Nat.zero_le _)
  · skip
    refine tz_iload2 (n := 5) (g_at ck_X9_parts 4 rfl) rfl ?_
    refine tz_aload0 (n := 6) (g_at ck_X9_parts 5 rfl) rfl (g_ne kd_71) ?_
    refine tz_getOv (n := 9) (a := ld) fk_X9_36 kd_71 hLw (g_at ck_X9_parts 6 rfl) rfl ?_
    refine tz_getIw (n := 12) (kz := 0) fk_X9_53 hS.k0 (g_at ck_X9_parts 7 rfl) rfl rfl ?_
    rw [hG.n0]
    refine tz_icmp_ge (n := 15) (tgt := 40) (g_at ck_X9_parts 8 rfl) rfl rfl ⟨by omega, by omega, by omega, by omega⟩ (fun h12 => ?_) (fun h12 => absurd h12 (by omega))
    refine tz_iload1 (n := 41) (g_at ck_X9_parts 24 rfl) rfl ?_
    exact tz_iret (g_at ck_X9_parts 25 rfl) rfl (rI_mk ⟨rfl, hR, rfl, rfl⟩)
  · skip
    refine tz_iload2 (n := 5) (g_at ck_X9_parts 4 rfl) rfl ?_
    refine tz_aload0 (n := 6) (g_at ck_X9_parts 5 rfl) rfl (g_ne kd_71) ?_
    refine tz_getOv (n := 9) (a := ld) fk_X9_36 kd_71 hLw (g_at ck_X9_parts 6 rfl) rfl ?_
    refine tz_getIw (n := 12) (kz := 0) fk_X9_53 hS.k0 (g_at ck_X9_parts 7 rfl) rfl rfl ?_
    rw [hG.n0]
    refine tz_icmp_ge (n := 15) (tgt := 40) (g_at ck_X9_parts 8 rfl) rfl rfl ⟨by omega, by omega, by omega, by omega⟩ (fun h12 => absurd h12 (by omega)) (fun h12 => ?_)
    refine tz_iconst (n := 16) (g_at ck_X9_parts 9 rfl) rfl ?_
    refine tz_iload2 (n := 17) (g_at ck_X9_parts 10 rfl) rfl ?_
    refine tz_ishl (n := 18) (g_at ck_X9_parts 11 rfl) rfl ?_
    refine tz_iconst (n := 19) (g_at ck_X9_parts 12 rfl) rfl ?_
    refine tz_isub (n := 20) (g_at ck_X9_parts 13 rfl) rfl ?_
    refine tz_istore3 (n := 21) (g_at ck_X9_parts 14 rfl) rfl (by decide) g_hpI ?_
    refine tz_aload0 (n := 22) (g_at ck_X9_parts 15 rfl) rfl (g_ne kd_71) ?_
    refine tz_iload2 (n := 23) (g_at ck_X9_parts 16 rfl) rfl ?_
    refine tz_cvI1 (n := 26) (μ' := μX9_partOf) (cb' := 0) (sb' := 0) ml_X9_101 mo_X9_partOf mv_X9_partOf np_X9_partOf kd_71 (g_at ck_X9_parts 17 rfl) (sp_partOf hL hLw hS hR hW hG hV (by omega)) rfl rfl rfl ⟨by decide, by decide⟩ (Nat.le_of_ble_eq_true rfl) (by decide) (by decide) (fun x23 ρ9 m23 hq => ?_)
    obtain ⟨rfl, hR1, rfl, rfl⟩ := hq
    refine tz_iload3 (n := 27) (g_at ck_X9_parts 18 rfl) rfl ?_
    refine tz_iand (n := 28) (g_at ck_X9_parts 19 rfl) rfl ?_
    refine tz_if_ne (n := 31) (tgt := 34) (g_at ck_X9_parts 20 rfl) rfl rfl (bAnd_rg _ _) (fun h28 => ?_) (fun h28 => ?_)
    · skip
      refine tz_iinc2 (n := 37) (g_at ck_X9_parts 22 rfl) rfl (by decide) g_hpI ?_
      refine tz_goto (tgt := 4) (g_at ck_X9_parts 23 rfl) rfl ?_
      refine tz_drop3 ?_
      have e9 : pcN Λ s (i + 1) = pcN Λ s i := if_neg h28
      exact gT_eq ihi rfl (by rw [e9]; rfl)
    · skip
      refine tz_iinc1 (n := 34) (g_at ck_X9_parts 21 rfl) rfl (by decide) g_hpR ?_
      refine tz_iinc2 (n := 37) (g_at ck_X9_parts 22 rfl) rfl (by decide) g_hpI ?_
      refine tz_goto (tgt := 4) (g_at ck_X9_parts 23 rfl) rfl ?_
      refine tz_drop3 ?_
      have e9 : pcN Λ s (i + 1) = pcN Λ s i + 1 := if_pos h28
      exact gT_eq ihi rfl (by rw [e9]; rfl)
theorem sp_watchesAll {l : Launch} {γ : Gh} {ρ m : Mm} {t : Int} {ld : Int} {Λ : Mm} {hl tl : List Int} (hL : LY ρ) (hLw : ρ 71 0 = ld) (hS : isS ρ ld) (hR : MR m) (hW : WL Λ) (hG : LandC m ld Λ hl tl) {s : Int → Int} (hV : SvC m Λ s) : gE l γ μX9_watchesAll 0 0 0 (rI KK fun x ρ9 m9 => ρ = ρ9 ∧ MR m9 ∧ wtA Λ s t = x ∧ m = m9) xN KK ρ m [vR 71, vI t] := by
  refine gE.ofw cl_X9.2 ?_ rfl rfl (Nat.le_of_ble_eq_true rfl)
  show gT l γ μX9_watchesAll 0 0 0 _ _ KK ρ m 0 [some (vR 71), some (vI t), none] []
  have hn := hW.1
  have hn8 := hW.2.1
  have hld := hG.ld9
  refine tz_iconst (n := 1) (g_at ck_X9_watchesAll 0 rfl) rfl ?_
  refine tz_istore2 (n := 2) (g_at ck_X9_watchesAll 1 rfl) rfl (by decide) g_hpI ?_
  refine g_for (fun i : Nat => (∀ a : Nat, a < i → bAnd (bShr t (a : Int)) 1 = 0 → bAnd (wyW Λ s 2 (a : Int)) (bXor t (-1)) = 0) → gT l γ μX9_watchesAll 0 0 0 _ _ KK ρ m 2 [some (vR 71), some (vI t), some (vI (i : Int))] []) (Λ 0 0).toNat ?_ (fun i hi ihi => ?_) 0 (Nat.zero_le _) (fun a ha => absurd ha (Nat.not_lt_zero a))
  · intro hinv
    refine tz_iload2 (n := 3) (g_at ck_X9_watchesAll 2 rfl) rfl ?_
    refine tz_aload0 (n := 4) (g_at ck_X9_watchesAll 3 rfl) rfl (g_ne kd_71) ?_
    refine tz_getOv (n := 7) (a := ld) fk_X9_36 kd_71 hLw (g_at ck_X9_watchesAll 4 rfl) rfl ?_
    refine tz_getIw (n := 10) (kz := 0) fk_X9_53 hS.k0 (g_at ck_X9_watchesAll 5 rfl) rfl rfl ?_
    rw [hG.n0]
    refine tz_icmp_ge (n := 13) (tgt := 42) (g_at ck_X9_watchesAll 6 rfl) rfl rfl ⟨by omega, by omega, by omega, by omega⟩ (fun h10 => ?_) (fun h10 => absurd h10 (by omega))
    refine tz_iconst (n := 43) (g_at ck_X9_watchesAll 26 rfl) rfl ?_
    exact tz_bret (g_at ck_X9_watchesAll 27 rfl) rfl (by decide) (rI_mk ⟨rfl, hR, if_pos hinv, rfl⟩)
  · intro hinv
    refine tz_iload2 (n := 3) (g_at ck_X9_watchesAll 2 rfl) rfl ?_
    refine tz_aload0 (n := 4) (g_at ck_X9_watchesAll 3 rfl) rfl (g_ne kd_71) ?_
    refine tz_getOv (n := 7) (a := ld) fk_X9_36 kd_71 hLw (g_at ck_X9_watchesAll 4 rfl) rfl ?_
    refine tz_getIw (n := 10) (kz := 0) fk_X9_53 hS.k0 (g_at ck_X9_watchesAll 5 rfl) rfl rfl ?_
    rw [hG.n0]
    refine tz_icmp_ge (n := 13) (tgt := 42) (g_at ck_X9_watchesAll 6 rfl) rfl rfl ⟨by omega, by omega, by omega, by omega⟩ (fun h10 => absurd h10 (by omega)) (fun h10 => ?_)
    refine tz_iload1 (n := 14) (g_at ck_X9_watchesAll 7 rfl) rfl ?_
    refine tz_iload2 (n := 15) (g_at ck_X9_watchesAll 8 rfl) rfl ?_
    refine tz_ishr (n := 16) (g_at ck_X9_watchesAll 9 rfl) rfl ?_
    refine tz_iconst (n := 17) (g_at ck_X9_watchesAll 10 rfl) rfl ?_
    refine tz_iand (n := 18) (g_at ck_X9_watchesAll 11 rfl) rfl ?_
    refine tz_if_ne (n := 21) (tgt := 36) (g_at ck_X9_watchesAll 12 rfl) rfl rfl (bAnd_rg _ _) (fun h18 => ?_) (fun h18 => ?_)
    · skip
      refine tz_iinc2 (n := 39) (g_at ck_X9_watchesAll 24 rfl) rfl (by decide) g_hpI ?_
      refine tz_goto (tgt := 2) (g_at ck_X9_watchesAll 25 rfl) rfl ?_
      exact ihi (fun a ha h9 => by
        by_cases e9 : a = i
        · subst e9
          exact absurd h9 h18
        · exact hinv a (by omega) h9)
    · skip
      refine tz_aload0 (n := 22) (g_at ck_X9_watchesAll 13 rfl) rfl (g_ne kd_71) ?_
      refine tz_getAv (n := 25) (a := 74) fk_X9_18 kd_71 (ly_71_3 hL) (g_at ck_X9_watchesAll 14 rfl) rfl ?_
      refine tz_iload2 (n := 26) (g_at ck_X9_watchesAll 15 rfl) rfl ?_
      refine tz_iald (n := 27) kd_74 (by omega) (g_at ck_X9_watchesAll 16 rfl) rfl ?_
      rw [hV.n (i : Int) (by omega)]
      refine tz_iload1 (n := 28) (g_at ck_X9_watchesAll 17 rfl) rfl ?_
      refine tz_iconst (n := 29) (g_at ck_X9_watchesAll 18 rfl) rfl ?_
      refine tz_ixor (n := 30) (g_at ck_X9_watchesAll 19 rfl) rfl ?_
      refine tz_iand (n := 31) (g_at ck_X9_watchesAll 20 rfl) rfl ?_
      refine tz_if_eq (n := 34) (tgt := 36) (g_at ck_X9_watchesAll 21 rfl) rfl rfl (bAnd_rg _ _) (fun h31 => ?_) (fun h31 => ?_)
      · skip
        refine tz_iinc2 (n := 39) (g_at ck_X9_watchesAll 24 rfl) rfl (by decide) g_hpI ?_
        refine tz_goto (tgt := 2) (g_at ck_X9_watchesAll 25 rfl) rfl ?_
        exact ihi (fun a ha h9 => by
          by_cases e9 : a = i
          · subst e9
            exact h31
          · exact hinv a (by omega) h9)
      · skip
        refine tz_iconst (n := 35) (g_at ck_X9_watchesAll 22 rfl) rfl ?_
        exact tz_bret (g_at ck_X9_watchesAll 23 rfl) rfl (by decide) (rI_mk ⟨rfl, hR, if_neg (fun h9 => h31 (h9 i (by omega) h18)), rfl⟩)
theorem sp_watch {l : Launch} {γ : Gh} {ρ m : Mm} {ld : Int} {Λ : Mm} {hl tl : List Int} (hL : LY ρ) (hLw : ρ 71 0 = ld) (hS : isS ρ ld) (hR : MR m) (hW : WL Λ) (hG : LandC m ld Λ hl tl) {s : Int → Int} (hV : SvC m Λ s) : gE l γ μX9_watch 1 0 0 (rI KK fun x ρ9 m9 => ρ = ρ9 ∧ MR m9 ∧ (wtN Λ s (2 ^ (Λ 0 0).toNat)).1 = x ∧ m = m9) xN KK ρ m [vR 71] := by
  refine gE.ofw cl_X9.2 ?_ rfl rfl (Nat.le_of_ble_eq_true rfl)
  show gT l γ μX9_watch 1 0 0 _ _ KK ρ m 0 [some (vR 71), none, none, none] []
  have hn := hW.1
  have hn8 := hW.2.1
  have hld := hG.ld9
  have hsh := shN hn
  refine tz_iconst (n := 1) (g_at ck_X9_watch 0 rfl) rfl ?_
  refine tz_istore1 (n := 2) (g_at ck_X9_watch 1 rfl) rfl (by decide) g_hpR ?_
  refine tz_bipush (n := 4) (g_at ck_X9_watch 2 rfl) rfl rfl ?_
  refine tz_istore2 (n := 5) (g_at ck_X9_watch 3 rfl) rfl (by decide) g_hpI ?_
  refine tz_iconst (n := 6) (g_at ck_X9_watch 4 rfl) rfl ?_
  refine tz_istore3 (n := 7) (g_at ck_X9_watch 5 rfl) rfl (by decide) g_hpI ?_
  refine g_for (fun i : Nat => gT l γ μX9_watch 1 0 0 _ _ KK ρ m 7 [some (vR 71), some (vI (wtN Λ s i).1), some (vI (wtN Λ s i).2), some (vI (i : Int))] []) (2 ^ (Λ 0 0).toNat) ?_ (fun i hi ihi => ?_) 0 (Nat.zero_le _)
  · skip
    refine tz_iload3 (n := 8) (g_at ck_X9_watch 6 rfl) rfl ?_
    refine tz_iconst (n := 9) (g_at ck_X9_watch 7 rfl) rfl ?_
    refine tz_aload0 (n := 10) (g_at ck_X9_watch 8 rfl) rfl (g_ne kd_71) ?_
    refine tz_getOv (n := 13) (a := ld) fk_X9_36 kd_71 hLw (g_at ck_X9_watch 9 rfl) rfl ?_
    refine tz_getIw (n := 16) (kz := 0) fk_X9_53 hS.k0 (g_at ck_X9_watch 10 rfl) rfl rfl ?_
    rw [hG.n0]
    refine tz_ishl (n := 17) (g_at ck_X9_watch 11 rfl) rfl ?_
    refine tz_icmp_ge (n := 20) (tgt := 49) (g_at ck_X9_watch 12 rfl) rfl rfl ⟨by omega, by omega, by omega, by omega⟩ (fun h17 => ?_) (fun h17 => absurd h17 (by omega))
    refine tz_iload1 (n := 50) (g_at ck_X9_watch 28 rfl) rfl ?_
    exact tz_iret (g_at ck_X9_watch 29 rfl) rfl (rI_mk ⟨rfl, hR, rfl, rfl⟩)
  · skip
    refine tz_iload3 (n := 8) (g_at ck_X9_watch 6 rfl) rfl ?_
    refine tz_iconst (n := 9) (g_at ck_X9_watch 7 rfl) rfl ?_
    refine tz_aload0 (n := 10) (g_at ck_X9_watch 8 rfl) rfl (g_ne kd_71) ?_
    refine tz_getOv (n := 13) (a := ld) fk_X9_36 kd_71 hLw (g_at ck_X9_watch 9 rfl) rfl ?_
    refine tz_getIw (n := 16) (kz := 0) fk_X9_53 hS.k0 (g_at ck_X9_watch 10 rfl) rfl rfl ?_
    rw [hG.n0]
    refine tz_ishl (n := 17) (g_at ck_X9_watch 11 rfl) rfl ?_
    refine tz_icmp_ge (n := 20) (tgt := 49) (g_at ck_X9_watch 12 rfl) rfl rfl ⟨by omega, by omega, by omega, by omega⟩ (fun h17 => absurd h17 (by omega)) (fun h17 => ?_)
    refine tz_iload3 (n := 21) (g_at ck_X9_watch 13 rfl) rfl ?_
    refine tz_csI1 (n := 24) (μ' := μJ6_bitCount_0f7a4) (cb' := 0) (sb' := 0) ml_X9_105 mo_J6_bitCount_0f7a4 ms_J6_bitCount_0f7a4 np_J6_bitCount_0f7a4 (g_at ck_X9_watch 14 rfl) (sp_bitCount hR) rfl rfl ⟨by decide, by decide⟩ (Nat.le_of_ble_eq_true rfl) (by decide) (by decide) (fun x21 ρ9 m21 hq => ?_)
    obtain ⟨rfl, hR1, rfl, rfl⟩ := hq
    refine tz_iload2 (n := 25) (g_at ck_X9_watch 15 rfl) rfl ?_
    refine tz_icmp_ge (n := 28) (tgt := 43) (g_at ck_X9_watch 16 rfl) rfl rfl ⟨(bcJ_rg _).1, (bcJ_rg _).2, (wtN_rg i).1, (wtN_rg i).2⟩ (fun h25 => ?_) (fun h25 => ?_)
    · skip
      refine tz_iinc3 (n := 46) (g_at ck_X9_watch 26 rfl) rfl (by decide) g_hpI ?_
      refine tz_goto (tgt := 7) (g_at ck_X9_watch 27 rfl) rfl ?_
      have e9 : wtN Λ s (i + 1) = (wtN Λ s i) := wtN_s.trans (if_neg (fun h9 => by omega))
      exact gT_eq ihi rfl (by rw [e9]; rfl)
    · skip
      refine tz_aload0 (n := 29) (g_at ck_X9_watch 17 rfl) rfl (g_ne kd_71) ?_
      refine tz_iload3 (n := 30) (g_at ck_X9_watch 18 rfl) rfl ?_
      refine tz_cvI1 (n := 33) (μ' := μX9_watchesAll) (cb' := 0) (sb' := 0) ml_X9_110 mo_X9_watchesAll mv_X9_watchesAll np_X9_watchesAll kd_71 (g_at ck_X9_watch 19 rfl) (sp_watchesAll hL hLw hS hR1 hW hG hV) rfl rfl rfl ⟨by decide, by decide⟩ (Nat.le_of_ble_eq_true rfl) (by decide) (by decide) (fun x30 ρ9 m30 hq => ?_)
      obtain ⟨rfl, hR2, rfl, rfl⟩ := hq
      have h01 := wtA_01 (Λ := Λ) (s := s) (t := (i : Int))
      refine tz_if_eq (n := 36) (tgt := 43) (g_at ck_X9_watch 20 rfl) rfl rfl (by omega) (fun h33 => ?_) (fun h33 => ?_)
      · skip
        refine tz_iinc3 (n := 46) (g_at ck_X9_watch 26 rfl) rfl (by decide) g_hpI ?_
        refine tz_goto (tgt := 7) (g_at ck_X9_watch 27 rfl) rfl ?_
        have e9 : wtN Λ s (i + 1) = (wtN Λ s i) := wtN_s.trans (if_neg (fun h9 => by omega))
        exact gT_eq ihi rfl (by rw [e9]; rfl)
      · skip
        refine tz_iload3 (n := 37) (g_at ck_X9_watch 21 rfl) rfl ?_
        refine tz_csI1 (n := 40) (μ' := μJ6_bitCount_0f7a4) (cb' := 0) (sb' := 0) ml_X9_105 mo_J6_bitCount_0f7a4 ms_J6_bitCount_0f7a4 np_J6_bitCount_0f7a4 (g_at ck_X9_watch 22 rfl) (sp_bitCount hR2) rfl rfl ⟨by decide, by decide⟩ (Nat.le_of_ble_eq_true rfl) (by decide) (by decide) (fun x37 ρ9 m37 hq => ?_)
        obtain ⟨rfl, hR3, rfl, rfl⟩ := hq
        refine tz_istore2 (n := 41) (g_at ck_X9_watch 23 rfl) rfl (by decide) g_hpI ?_
        refine tz_iload3 (n := 42) (g_at ck_X9_watch 24 rfl) rfl ?_
        refine tz_istore1 (n := 43) (g_at ck_X9_watch 25 rfl) rfl (by decide) g_hpR ?_
        refine tz_iinc3 (n := 46) (g_at ck_X9_watch 26 rfl) rfl (by decide) g_hpI ?_
        refine tz_goto (tgt := 7) (g_at ck_X9_watch 27 rfl) rfl ?_
        have e9 : wtN Λ s (i + 1) = ((i : Int), bcJ (i : Int)) := wtN_s.trans (if_pos ⟨by omega, by omega⟩)
        exact gT_eq ihi rfl (by rw [e9]; rfl)
theorem sp_loop {l : Launch} {γ : Gh} {ρ m : Mm} {c : Int} {ld : Int} {Λ : Mm} {hl tl : List Int} (hL : LY ρ) (hLw : ρ 71 0 = ld) (hS : isS ρ ld) (hR : MR m) (hW : WL Λ) (hG : LandC m ld Λ hl tl) {s : Int → Int} (hV : SvC m Λ s) (hc : 0 ≤ c ∧ c < Λ 0 0) : gE l γ μX9_loop 2 0 0 (rI KK fun x ρ9 m9 => ρ = ρ9 ∧ MR m9 ∧ lpN Λ s c (Λ 0 0).toNat = x ∧ m = m9) xN KK ρ m [vR 71, vI c] := by
  refine gE.ofw cl_X9.2 ?_ rfl rfl (Nat.le_of_ble_eq_true rfl)
  show gT l γ μX9_loop 2 0 0 _ _ KK ρ m 0 [some (vR 71), some (vI c), none, none] []
  have hn := hW.1
  have hn8 := hW.2.1
  have hld := hG.ld9
  refine tz_sipush (n := 3) (g_at ck_X9_loop 0 rfl) rfl rfl ?_
  refine tz_istore2 (n := 4) (g_at ck_X9_loop 1 rfl) rfl (by decide) g_hpI ?_
  refine tz_iconst (n := 5) (g_at ck_X9_loop 2 rfl) rfl ?_
  refine tz_istore3 (n := 6) (g_at ck_X9_loop 3 rfl) rfl (by decide) g_hpI ?_
  refine g_for (fun i : Nat => gT l γ μX9_loop 2 0 0 _ _ KK ρ m 6 [some (vR 71), some (vI c), some (vI (lpN Λ s c i)), some (vI (i : Int))] []) (Λ 0 0).toNat ?_ (fun i hi ihi => ?_) 0 (Nat.zero_le _)
  · skip
    refine tz_iload3 (n := 7) (g_at ck_X9_loop 4 rfl) rfl ?_
    refine tz_aload0 (n := 8) (g_at ck_X9_loop 5 rfl) rfl (g_ne kd_71) ?_
    refine tz_getOv (n := 11) (a := ld) fk_X9_36 kd_71 hLw (g_at ck_X9_loop 6 rfl) rfl ?_
    refine tz_getIw (n := 14) (kz := 0) fk_X9_53 hS.k0 (g_at ck_X9_loop 7 rfl) rfl rfl ?_
    rw [hG.n0]
    refine tz_icmp_ge (n := 17) (tgt := 50) (g_at ck_X9_loop 8 rfl) rfl rfl ⟨by omega, by omega, by omega, by omega⟩ (fun h14 => ?_) (fun h14 => absurd h14 (by omega))
    refine tz_iload2 (n := 51) (g_at ck_X9_loop 30 rfl) rfl ?_
    exact tz_iret (g_at ck_X9_loop 31 rfl) rfl (rI_mk ⟨rfl, hR, rfl, rfl⟩)
  · skip
    have hl1 := lpN_rg hW (s := s) (c := c) i
    have hl2 := (wyW_B hW s).1 ((i : Int) * 9 + c)
    refine tz_iload3 (n := 7) (g_at ck_X9_loop 4 rfl) rfl ?_
    refine tz_aload0 (n := 8) (g_at ck_X9_loop 5 rfl) rfl (g_ne kd_71) ?_
    refine tz_getOv (n := 11) (a := ld) fk_X9_36 kd_71 hLw (g_at ck_X9_loop 6 rfl) rfl ?_
    refine tz_getIw (n := 14) (kz := 0) fk_X9_53 hS.k0 (g_at ck_X9_loop 7 rfl) rfl rfl ?_
    rw [hG.n0]
    refine tz_icmp_ge (n := 17) (tgt := 50) (g_at ck_X9_loop 8 rfl) rfl rfl ⟨by omega, by omega, by omega, by omega⟩ (fun h14 => absurd h14 (by omega)) (fun h14 => ?_)
    refine tz_aload0 (n := 18) (g_at ck_X9_loop 9 rfl) rfl (g_ne kd_71) ?_
    refine tz_getAv (n := 21) (a := 74) fk_X9_18 kd_71 (ly_71_3 hL) (g_at ck_X9_loop 10 rfl) rfl ?_
    refine tz_iload1 (n := 22) (g_at ck_X9_loop 11 rfl) rfl ?_
    refine tz_iald (n := 23) kd_74 (by omega) (g_at ck_X9_loop 12 rfl) rfl ?_
    rw [hV.n c (by omega)]
    refine tz_iload3 (n := 24) (g_at ck_X9_loop 13 rfl) rfl ?_
    refine tz_ishr (n := 25) (g_at ck_X9_loop 14 rfl) rfl ?_
    refine tz_iconst (n := 26) (g_at ck_X9_loop 15 rfl) rfl ?_
    refine tz_iand (n := 27) (g_at ck_X9_loop 16 rfl) rfl ?_
    refine tz_iconst (n := 28) (g_at ck_X9_loop 17 rfl) rfl ?_
    refine tz_icmp_ne (n := 31) (tgt := 44) (g_at ck_X9_loop 18 rfl) rfl rfl ⟨(bAnd_rg _ _).1, (bAnd_rg _ _).2, by decide, by decide⟩ (fun h28 => ?_) (fun h28 => ?_)
    · skip
      refine tz_iinc3 (n := 47) (g_at ck_X9_loop 28 rfl) rfl (by decide) g_hpI ?_
      refine tz_goto (tgt := 6) (g_at ck_X9_loop 29 rfl) rfl ?_
      have e9 : lpN Λ s c (i + 1) = lpN Λ s c i := if_neg h28
      exact gT_eq ihi rfl (by rw [e9]; rfl)
    · skip
      refine tz_iload2 (n := 32) (g_at ck_X9_loop 19 rfl) rfl ?_
      refine tz_iconst (n := 33) (g_at ck_X9_loop 20 rfl) rfl ?_
      refine tz_aload0 (n := 34) (g_at ck_X9_loop 21 rfl) rfl (g_ne kd_71) ?_
      refine tz_iload3 (n := 35) (g_at ck_X9_loop 22 rfl) rfl ?_
      refine tz_iload1 (n := 36) (g_at ck_X9_loop 23 rfl) rfl ?_
      refine tz_cvI2 (n := 39) (μ' := μX9_farFrom) (cb' := 0) (sb' := 0) ml_X9_63 mo_X9_farFrom mv_X9_farFrom np_X9_farFrom kd_71 (g_at ck_X9_loop 24 rfl) (sp_farFrom hL hR (by omega) (hV.f _ (by omega))) rfl rfl rfl ⟨by decide, by decide⟩ (Nat.le_of_ble_eq_true rfl) (by decide) (by decide) (fun x36 ρ9 m36 hq => ?_)
      obtain ⟨rfl, hR1, rfl, rfl⟩ := hq
      refine tz_iadd (n := 40) (g_at ck_X9_loop 25 rfl) rfl ?_
      refine tz_mmin (n := 43) mm_X9_93 mmin_1 mm_i mmin_2 ⟨by omega, by omega, by omega, by omega⟩ (g_at ck_X9_loop 26 rfl) rfl (by decide) (Nat.le_of_ble_eq_true rfl) ?_
      refine tz_istore2 (n := 44) (g_at ck_X9_loop 27 rfl) rfl (by decide) g_hpI ?_
      refine tz_iinc3 (n := 47) (g_at ck_X9_loop 28 rfl) rfl (by decide) g_hpI ?_
      refine tz_goto (tgt := 6) (g_at ck_X9_loop 29 rfl) rfl ?_
      have e9 : lpN Λ s c (i + 1) = mn2 (lpN Λ s c i) (1 + wyW Λ s 0 ((i : Int) * 9 + c)) := if_pos h28
      exact gT_eq ihi rfl (by rw [e9]; rfl)
theorem sp_balance {l : Launch} {γ : Gh} {ρ m : Mm} {c : Int} {ld : Int} {Λ : Mm} {hl tl : List Int} (hL : LY ρ) (hLw : ρ 71 0 = ld) (hS : isS ρ ld) (hR : MR m) (hW : WL Λ) (hG : LandC m ld Λ hl tl) {s : Int → Int} (hV : SvC m Λ s) (hc : 0 ≤ c ∧ c < Λ 0 0) : gE l γ μX9_balance 0 0 0 (rI KK fun x ρ9 m9 => ρ = ρ9 ∧ MR m9 ∧ wyW Λ s 3 c = x ∧ m = m9) xN KK ρ m [vR 71, vI c] := by
  refine gE.ofw cl_X9.2 ?_ rfl rfl (Nat.le_of_ble_eq_true rfl)
  show gT l γ μX9_balance 0 0 0 _ _ KK ρ m 0 [some (vR 71), some (vI c)] []
  have hn := hW.1
  have hn8 := hW.2.1
  have hld := hG.ld9
  refine tz_aload0 (n := 1) (g_at ck_X9_balance 0 rfl) rfl (g_ne kd_71) ?_
  refine tz_getAv (n := 4) (a := 76) fk_X9_24 kd_71 (ly_71_5 hL) (g_at ck_X9_balance 1 rfl) rfl ?_
  refine tz_iload1 (n := 5) (g_at ck_X9_balance 2 rfl) rfl ?_
  refine tz_iald (n := 6) kd_76 (by omega) (g_at ck_X9_balance 3 rfl) rfl ?_
  rw [hV.b c (by omega)]
  exact tz_iret (g_at ck_X9_balance 4 rfl) rfl (rI_mk ⟨rfl, hR, rfl, rfl⟩)
theorem sp_comers {l : Launch} {γ : Gh} {ρ m : Mm} {c : Int} {ld : Int} {Λ : Mm} {hl tl : List Int} (hL : LY ρ) (hLw : ρ 71 0 = ld) (hS : isS ρ ld) (hR : MR m) (hW : WL Λ) (hG : LandC m ld Λ hl tl) {s : Int → Int} (hV : SvC m Λ s) (hσ : WS Λ 0 (sig0 s)) (hc : 0 ≤ c ∧ c < Λ 0 0) : gE l γ μX9_comers 0 0 0 (rI KK fun x ρ9 m9 => ρ = ρ9 ∧ MR m9 ∧ cmN Λ s c (Λ 0 1).toNat = x ∧ m = m9) xN KK ρ m [vR 71, vI c] := by
  refine gE.ofw cl_X9.2 ?_ rfl rfl (Nat.le_of_ble_eq_true rfl)
  show gT l γ μX9_comers 0 0 0 _ _ KK ρ m 0 [some (vR 71), some (vI c), none, none] []
  have hn := hW.1
  have hn8 := hW.2.1
  have hld := hG.ld9
  refine tz_iconst (n := 1) (g_at ck_X9_comers 0 rfl) rfl ?_
  refine tz_istore2 (n := 2) (g_at ck_X9_comers 1 rfl) rfl (by decide) g_hpI ?_
  refine tz_iconst (n := 3) (g_at ck_X9_comers 2 rfl) rfl ?_
  refine tz_istore3 (n := 4) (g_at ck_X9_comers 3 rfl) rfl (by decide) g_hpI ?_
  refine g_for (fun i : Nat => gT l γ μX9_comers 0 0 0 _ _ KK ρ m 4 [some (vR 71), some (vI c), some (vI (cmN Λ s c i)), some (vI (i : Int))] []) (Λ 0 1).toNat ?_ (fun i hi ihi => ?_) 0 (Nat.zero_le _)
  · skip
    refine tz_iload3 (n := 5) (g_at ck_X9_comers 4 rfl) rfl ?_
    refine tz_aload0 (n := 6) (g_at ck_X9_comers 5 rfl) rfl (g_ne kd_71) ?_
    refine tz_getOv (n := 9) (a := ld) fk_X9_36 kd_71 hLw (g_at ck_X9_comers 6 rfl) rfl ?_
    refine tz_getIw (n := 12) (kz := 1) fk_X9_120 hS.k0 (g_at ck_X9_comers 7 rfl) rfl rfl ?_
    rw [hG.n1]
    refine tz_icmp_ge (n := 15) (tgt := 39) (g_at ck_X9_comers 8 rfl) rfl rfl ⟨by omega, by omega, by omega, by omega⟩ (fun h12 => ?_) (fun h12 => absurd h12 (by omega))
    refine tz_iload2 (n := 40) (g_at ck_X9_comers 25 rfl) rfl ?_
    exact tz_iret (g_at ck_X9_comers 26 rfl) rfl (rI_mk ⟨rfl, hR, rfl, rfl⟩)
  · skip
    have hp1 := sig0_WS_n hσ (p := (i : Int)) (by omega)
    refine tz_iload3 (n := 5) (g_at ck_X9_comers 4 rfl) rfl ?_
    refine tz_aload0 (n := 6) (g_at ck_X9_comers 5 rfl) rfl (g_ne kd_71) ?_
    refine tz_getOv (n := 9) (a := ld) fk_X9_36 kd_71 hLw (g_at ck_X9_comers 6 rfl) rfl ?_
    refine tz_getIw (n := 12) (kz := 1) fk_X9_120 hS.k0 (g_at ck_X9_comers 7 rfl) rfl rfl ?_
    rw [hG.n1]
    refine tz_icmp_ge (n := 15) (tgt := 39) (g_at ck_X9_comers 8 rfl) rfl rfl ⟨by omega, by omega, by omega, by omega⟩ (fun h12 => absurd h12 (by omega)) (fun h12 => ?_)
    refine tz_iload2 (n := 16) (g_at ck_X9_comers 9 rfl) rfl ?_
    refine tz_aload0 (n := 17) (g_at ck_X9_comers 10 rfl) rfl (g_ne kd_71) ?_
    refine tz_getAv (n := 20) (a := 75) fk_X9_21 kd_71 (ly_71_4 hL) (g_at ck_X9_comers 11 rfl) rfl ?_
    refine tz_aload0 (n := 21) (g_at ck_X9_comers 12 rfl) rfl (g_ne kd_71) ?_
    refine tz_getAv (n := 24) (a := 77) fk_X9_27 kd_71 (ly_71_6 hL) (g_at ck_X9_comers 13 rfl) rfl ?_
    refine tz_iload3 (n := 25) (g_at ck_X9_comers 14 rfl) rfl ?_
    refine tz_iald (n := 26) kd_77 (by omega) (g_at ck_X9_comers 15 rfl) rfl ?_
    rw [hV.w (i : Int) (by omega)]
    refine tz_iald (n := 27) kd_75 (by omega) (g_at ck_X9_comers 16 rfl) rfl ?_
    rw [hV.r (s (1 + (i : Int))) (by omega)]
    refine tz_iload1 (n := 28) (g_at ck_X9_comers 17 rfl) rfl ?_
    refine tz_ishr (n := 29) (g_at ck_X9_comers 18 rfl) rfl ?_
    refine tz_iconst (n := 30) (g_at ck_X9_comers 19 rfl) rfl ?_
    refine tz_iand (n := 31) (g_at ck_X9_comers 20 rfl) rfl ?_
    rw [rc_bit hW hc]
    refine tz_iadd (n := 32) (g_at ck_X9_comers 21 rfl) rfl ?_
    refine tz_istore2 (n := 33) (g_at ck_X9_comers 22 rfl) rfl (by decide) g_hpI ?_
    refine tz_iinc3 (n := 36) (g_at ck_X9_comers 23 rfl) rfl (by decide) g_hpI ?_
    refine tz_goto (tgt := 4) (g_at ck_X9_comers 24 rfl) rfl ?_
    exact ihi
theorem sp_comersCost {l : Launch} {γ : Gh} {ρ m : Mm} {c : Int} {ld : Int} {Λ : Mm} {hl tl : List Int} (hL : LY ρ) (hLw : ρ 71 0 = ld) (hS : isS ρ ld) (hR : MR m) (hW : WL Λ) (hG : LandC m ld Λ hl tl) {s : Int → Int} (hV : SvC m Λ s) (hσ : WS Λ 0 (sig0 s)) (hc : 0 ≤ c ∧ c < Λ 0 0) : gE l γ μX9_comersCost 2 0 0 (rI KK fun x ρ9 m9 => ρ = ρ9 ∧ MR m9 ∧ ccN Λ s c (Λ 0 1).toNat = x ∧ m = m9) xN KK ρ m [vR 71, vI c] := by
  refine gE.ofw cl_X9.2 ?_ rfl rfl (Nat.le_of_ble_eq_true rfl)
  show gT l γ μX9_comersCost 2 0 0 _ _ KK ρ m 0 [some (vR 71), some (vI c), none, none, none] []
  have hn := hW.1
  have hn8 := hW.2.1
  have hld := hG.ld9
  refine tz_iconst (n := 1) (g_at ck_X9_comersCost 0 rfl) rfl ?_
  refine tz_istore2 (n := 2) (g_at ck_X9_comersCost 1 rfl) rfl (by decide) g_hpI ?_
  refine tz_iconst (n := 3) (g_at ck_X9_comersCost 2 rfl) rfl ?_
  refine tz_istore3 (n := 4) (g_at ck_X9_comersCost 3 rfl) rfl (by decide) g_hpI ?_
  refine g_for (fun i : Nat => gT l γ μX9_comersCost 2 0 0 _ _ KK ρ m 4 [some (vR 71), some (vI c), some (vI (ccN Λ s c i)), some (vI (i : Int)), none] []) (Λ 0 1).toNat ?_ (fun i hi ihi => ?_) 0 (Nat.zero_le _)
  · skip
    refine tz_iload3 (n := 5) (g_at ck_X9_comersCost 4 rfl) rfl ?_
    refine tz_aload0 (n := 6) (g_at ck_X9_comersCost 5 rfl) rfl (g_ne kd_71) ?_
    refine tz_getOv (n := 9) (a := ld) fk_X9_36 kd_71 hLw (g_at ck_X9_comersCost 6 rfl) rfl ?_
    refine tz_getIw (n := 12) (kz := 1) fk_X9_120 hS.k0 (g_at ck_X9_comersCost 7 rfl) rfl rfl ?_
    rw [hG.n1]
    refine tz_icmp_ge (n := 15) (tgt := 51) (g_at ck_X9_comersCost 8 rfl) rfl rfl ⟨by omega, by omega, by omega, by omega⟩ (fun h12 => ?_) (fun h12 => absurd h12 (by omega))
    refine tz_iload2 (n := 52) (g_at ck_X9_comersCost 28 rfl) rfl ?_
    exact tz_iret (g_at ck_X9_comersCost 29 rfl) rfl (rI_mk ⟨rfl, hR, rfl, rfl⟩)
  · skip
    have hp1 := sig0_WS_n hσ (p := (i : Int)) (by omega)
    have hw1 := (wyW_B hW s).1 (s (1 + (i : Int)) * 9 + c)
    refine tz_iload3 (n := 5) (g_at ck_X9_comersCost 4 rfl) rfl ?_
    refine tz_aload0 (n := 6) (g_at ck_X9_comersCost 5 rfl) rfl (g_ne kd_71) ?_
    refine tz_getOv (n := 9) (a := ld) fk_X9_36 kd_71 hLw (g_at ck_X9_comersCost 6 rfl) rfl ?_
    refine tz_getIw (n := 12) (kz := 1) fk_X9_120 hS.k0 (g_at ck_X9_comersCost 7 rfl) rfl rfl ?_
    rw [hG.n1]
    refine tz_icmp_ge (n := 15) (tgt := 51) (g_at ck_X9_comersCost 8 rfl) rfl rfl ⟨by omega, by omega, by omega, by omega⟩ (fun h12 => absurd h12 (by omega)) (fun h12 => ?_)
    refine tz_aload0 (n := 16) (g_at ck_X9_comersCost 9 rfl) rfl (g_ne kd_71) ?_
    refine tz_aload0 (n := 17) (g_at ck_X9_comersCost 10 rfl) rfl (g_ne kd_71) ?_
    refine tz_getAv (n := 20) (a := 77) fk_X9_27 kd_71 (ly_71_6 hL) (g_at ck_X9_comersCost 11 rfl) rfl ?_
    refine tz_iload3 (n := 21) (g_at ck_X9_comersCost 12 rfl) rfl ?_
    refine tz_iald (n := 22) kd_77 (by omega) (g_at ck_X9_comersCost 13 rfl) rfl ?_
    rw [hV.w (i : Int) (by omega)]
    refine tz_iload1 (n := 23) (g_at ck_X9_comersCost 14 rfl) rfl ?_
    refine tz_cvI2 (n := 26) (μ' := μX9_costFrom) (cb' := 0) (sb' := 0) ml_X9_98 mo_X9_costFrom mv_X9_costFrom np_X9_costFrom kd_71 (g_at ck_X9_comersCost 15 rfl) (sp_costFrom hL hR (by omega) (hV.c _ (by omega))) rfl rfl rfl ⟨by decide, by decide⟩ (Nat.le_of_ble_eq_true rfl) (by decide) (by decide) (fun x23 ρ9 m23 hq => ?_)
    obtain ⟨rfl, hR1, rfl, rfl⟩ := hq
    refine tz_istore4 (n := 28) (g_at ck_X9_comersCost 16 rfl) rfl (by decide) g_hpI ?_
    refine tz_iload2 (n := 29) (g_at ck_X9_comersCost 17 rfl) rfl ?_
    refine tz_iload4 (n := 31) (g_at ck_X9_comersCost 18 rfl) rfl ?_
    refine tz_sipush (n := 34) (g_at ck_X9_comersCost 19 rfl) rfl rfl ?_
    refine tz_icmp_ge (n := 37) (tgt := 42) (g_at ck_X9_comersCost 20 rfl) rfl rfl ⟨by omega, by omega, by decide, by decide⟩ (fun h34 => ?_) (fun h34 => ?_)
    · skip
      refine tz_iconst (n := 43) (g_at ck_X9_comersCost 23 rfl) rfl ?_
      refine tz_iadd (n := 44) (g_at ck_X9_comersCost 24 rfl) rfl ?_
      refine tz_istore2 (n := 45) (g_at ck_X9_comersCost 25 rfl) rfl (by decide) g_hpI ?_
      refine tz_iinc3 (n := 48) (g_at ck_X9_comersCost 26 rfl) rfl (by decide) g_hpI ?_
      refine tz_goto (tgt := 4) (g_at ck_X9_comersCost 27 rfl) rfl ?_
      refine tz_drop4 ?_
      have e9 : ccN Λ s c (i + 1) = ccN Λ s c i + 0 := congrArg (fun z9 => ccN Λ s c i + z9) (if_neg (by omega))
      exact gT_eq ihi rfl (by rw [e9]; rfl)
    · skip
      refine tz_iload4 (n := 39) (g_at ck_X9_comersCost 21 rfl) rfl ?_
      refine tz_goto (tgt := 43) (g_at ck_X9_comersCost 22 rfl) rfl ?_
      refine tz_iadd (n := 44) (g_at ck_X9_comersCost 24 rfl) rfl ?_
      refine tz_istore2 (n := 45) (g_at ck_X9_comersCost 25 rfl) rfl (by decide) g_hpI ?_
      refine tz_iinc3 (n := 48) (g_at ck_X9_comersCost 26 rfl) rfl (by decide) g_hpI ?_
      refine tz_goto (tgt := 4) (g_at ck_X9_comersCost 27 rfl) rfl ?_
      refine tz_drop4 ?_
      have e9 : ccN Λ s c (i + 1) = ccN Λ s c i + wyW Λ s 1 (s (1 + (i : Int)) * 9 + c) := congrArg (fun z9 => ccN Λ s c i + z9) (if_pos (by omega))
      exact gT_eq ihi rfl (by rw [e9]; rfl)
theorem sp_walkOn {l : Launch} {γ : Gh} {ρ m : Mm} {t : Int} {T : Int → Int} {ld : Int} {Λ : Mm} {hl tl : List Int} (hL : LY ρ) (hLw : ρ 71 0 = ld) (hS : isS ρ ld) (hR : MR m) (hW : WL Λ) (hG : LandC m ld Λ hl tl) {s : Int → Int} (hV : SvC m Λ s) (ht : 0 ≤ t ∧ t < ((2 ^ (Λ 0 0).toNat : Nat) : Int)) (hK : ∀ j, 0 ≤ j → j < ((2 ^ (Λ 0 0).toNat : Nat) : Int) → m 79 j = T j) : gE l γ μX9_walkOn 0 0 0 (rV KK fun ρ9 m9 => ρ = ρ9 ∧ MR m9 ∧ Fr [79] m m9 ∧ ∀ j, 0 ≤ j → j < ((2 ^ (Λ 0 0).toNat : Nat) : Int) → m9 79 j = (wkO Λ s t T) j) xN KK ρ m [vR 71, vI t] := by
  refine gE.ofw cl_X9.2 ?_ rfl rfl (Nat.le_of_ble_eq_true rfl)
  show gT l γ μX9_walkOn 0 0 0 _ _ KK ρ m 0 [some (vR 71), some (vI t), none, none] []
  have hn := hW.1
  have hn8 := hW.2.1
  have hld := hG.ld9
  have hsh := shN hn
  refine tz_iconst (n := 1) (g_at ck_X9_walkOn 0 rfl) rfl ?_
  refine tz_istore2 (n := 2) (g_at ck_X9_walkOn 1 rfl) rfl (by decide) g_hpI ?_
  refine tz_iconst (n := 3) (g_at ck_X9_walkOn 2 rfl) rfl ?_
  refine tz_istore3 (n := 4) (g_at ck_X9_walkOn 3 rfl) rfl (by decide) g_hpI ?_
  refine g_for (fun i : Nat => gT l γ μX9_walkOn 0 0 0 _ _ KK ρ m 4 [some (vR 71), some (vI t), some (vI (wkF (wyW Λ s) t (T t) i)), some (vI (i : Int))] []) (Λ 0 0).toNat ?_ (fun i hi ihi => ?_) 0 (Nat.zero_le _)
  · skip
    refine tz_iload3 (n := 5) (g_at ck_X9_walkOn 4 rfl) rfl ?_
    refine tz_aload0 (n := 6) (g_at ck_X9_walkOn 5 rfl) rfl (g_ne kd_71) ?_
    refine tz_getOv (n := 9) (a := ld) fk_X9_36 kd_71 hLw (g_at ck_X9_walkOn 6 rfl) rfl ?_
    refine tz_getIw (n := 12) (kz := 0) fk_X9_53 hS.k0 (g_at ck_X9_walkOn 7 rfl) rfl rfl ?_
    rw [hG.n0]
    refine tz_icmp_ge (n := 15) (tgt := 48) (g_at ck_X9_walkOn 8 rfl) rfl rfl ⟨by omega, by omega, by omega, by omega⟩ (fun h12 => ?_) (fun h12 => absurd h12 (by omega))
    refine tz_iconst (n := 49) (g_at ck_X9_walkOn 32 rfl) rfl ?_
    refine tz_istore3 (n := 50) (g_at ck_X9_walkOn 33 rfl) rfl (by decide) g_hpI ?_
    refine g_for (fun i : Nat => ∀ m2 : Mm, (MR m2 ∧ Fr [79] m m2 ∧ ∀ j, 0 ≤ j → j < ((2 ^ (Λ 0 0).toNat : Nat) : Int) → m2 79 j = (wkT t (wkF (wyW Λ s) t (T t) (Λ 0 0).toNat) T i) j) → gT l γ μX9_walkOn 0 0 0 _ _ KK ρ m2 50 [some (vR 71), some (vI t), some (vI (wkF (wyW Λ s) t (T t) (Λ 0 0).toNat)), some (vI (i : Int))] []) (Λ 0 0).toNat ?_ (fun i hi ihi => ?_) 0 (Nat.zero_le _) _ ⟨hR, Fr.rf, hK⟩
    · intro m2 hinv
      obtain ⟨hR2, hF2, hK2⟩ := hinv
      have hG2 := hG.q (qM_wy (hF2.sub (by decide)))
      refine tz_iload3 (n := 51) (g_at ck_X9_walkOn 34 rfl) rfl ?_
      refine tz_aload0 (n := 52) (g_at ck_X9_walkOn 35 rfl) rfl (g_ne kd_71) ?_
      refine tz_getOv (n := 55) (a := ld) fk_X9_36 kd_71 hLw (g_at ck_X9_walkOn 36 rfl) rfl ?_
      refine tz_getIw (n := 58) (kz := 0) fk_X9_53 hS.k0 (g_at ck_X9_walkOn 37 rfl) rfl rfl ?_
      rw [hG2.n0]
      refine tz_icmp_ge (n := 61) (tgt := 92) (g_at ck_X9_walkOn 38 rfl) rfl rfl ⟨by omega, by omega, by omega, by omega⟩ (fun h58 => ?_) (fun h58 => absurd h58 (by omega))
      exact tz_vret (g_at ck_X9_walkOn 62 rfl) rfl (rV_mk ⟨rfl, hR2, hF2, hK2⟩)
    · intro m2 hinv
      obtain ⟨hR2, hF2, hK2⟩ := hinv
      have hG2 := hG.q (qM_wy (hF2.sub (by decide)))
      have hbo := bor_lt (t := t.toNat) (z := i) (n := (Λ 0 0).toNat) (by omega) (by omega) (by omega)
      rw [show ((t.toNat : Nat) : Int) = t by omega] at hbo
      refine tz_iload3 (n := 51) (g_at ck_X9_walkOn 34 rfl) rfl ?_
      refine tz_aload0 (n := 52) (g_at ck_X9_walkOn 35 rfl) rfl (g_ne kd_71) ?_
      refine tz_getOv (n := 55) (a := ld) fk_X9_36 kd_71 hLw (g_at ck_X9_walkOn 36 rfl) rfl ?_
      refine tz_getIw (n := 58) (kz := 0) fk_X9_53 hS.k0 (g_at ck_X9_walkOn 37 rfl) rfl rfl ?_
      rw [hG2.n0]
      refine tz_icmp_ge (n := 61) (tgt := 92) (g_at ck_X9_walkOn 38 rfl) rfl rfl ⟨by omega, by omega, by omega, by omega⟩ (fun h58 => absurd h58 (by omega)) (fun h58 => ?_)
      refine tz_iload2 (n := 62) (g_at ck_X9_walkOn 39 rfl) rfl ?_
      refine tz_iload3 (n := 63) (g_at ck_X9_walkOn 40 rfl) rfl ?_
      refine tz_ishr (n := 64) (g_at ck_X9_walkOn 41 rfl) rfl ?_
      refine tz_iconst (n := 65) (g_at ck_X9_walkOn 42 rfl) rfl ?_
      refine tz_iand (n := 66) (g_at ck_X9_walkOn 43 rfl) rfl ?_
      refine tz_iconst (n := 67) (g_at ck_X9_walkOn 44 rfl) rfl ?_
      refine tz_icmp_ne (n := 70) (tgt := 86) (g_at ck_X9_walkOn 45 rfl) rfl rfl ⟨(bAnd_rg _ _).1, (bAnd_rg _ _).2, by decide, by decide⟩ (fun h67 => ?_) (fun h67 => ?_)
      · skip
        refine tz_iinc3 (n := 89) (g_at ck_X9_walkOn 60 rfl) rfl (by decide) g_hpI ?_
        refine tz_goto (tgt := 50) (g_at ck_X9_walkOn 61 rfl) rfl ?_
        have e9 : wkT t (wkF (wyW Λ s) t (T t) (Λ 0 0).toNat) T (i + 1) = (wkT t (wkF (wyW Λ s) t (T t) (Λ 0 0).toNat) T i) := if_neg h67
        exact ihi _ ⟨hR2, hF2, by rw [e9]; exact hK2⟩
      · skip
        refine tz_aload0 (n := 71) (g_at ck_X9_walkOn 46 rfl) rfl (g_ne kd_71) ?_
        refine tz_getAv (n := 74) (a := 79) fk_X9_33 kd_71 (ly_71_10 hL) (g_at ck_X9_walkOn 47 rfl) rfl ?_
        refine tz_iload1 (n := 75) (g_at ck_X9_walkOn 48 rfl) rfl ?_
        refine tz_iconst (n := 76) (g_at ck_X9_walkOn 49 rfl) rfl ?_
        refine tz_iload3 (n := 77) (g_at ck_X9_walkOn 50 rfl) rfl ?_
        refine tz_ishl (n := 78) (g_at ck_X9_walkOn 51 rfl) rfl ?_
        refine tz_ior (n := 79) (g_at ck_X9_walkOn 52 rfl) rfl ?_
        refine tz_dup2 (n := 80) (g_at ck_X9_walkOn 53 rfl) rfl ?_
        refine tz_iald (n := 81) kd_79 (by omega) (g_at ck_X9_walkOn 54 rfl) rfl ?_
        rw [hK2 _ (by omega) (by omega)]
        refine tz_iconst (n := 82) (g_at ck_X9_walkOn 55 rfl) rfl ?_
        refine tz_iload3 (n := 83) (g_at ck_X9_walkOn 56 rfl) rfl ?_
        refine tz_ishl (n := 84) (g_at ck_X9_walkOn 57 rfl) rfl ?_
        refine tz_ior (n := 85) (g_at ck_X9_walkOn 58 rfl) rfl ?_
        refine tz_iastr (n := 86) kd_79 (by omega) (g_at ck_X9_walkOn 59 rfl) rfl hR2 ⟨(bOr_rg _ _).1, (bOr_rg _ _).2⟩ (fun hR1 => ?_)
        refine tz_iinc3 (n := 89) (g_at ck_X9_walkOn 60 rfl) rfl (by decide) g_hpI ?_
        refine tz_goto (tgt := 50) (g_at ck_X9_walkOn 61 rfl) rfl ?_
        have e9 : wkT t (wkF (wyW Λ s) t (T t) (Λ 0 0).toNat) T (i + 1) = up (wkT t (wkF (wyW Λ s) t (T t) (Λ 0 0).toNat) T i) (bOr t (bShl 1 (i : Int))) (bOr ((wkT t (wkF (wyW Λ s) t (T t) (Λ 0 0).toNat) T i) (bOr t (bShl 1 (i : Int)))) (bShl 1 (i : Int))) := if_pos h67
        exact ihi _ ⟨hR1, hF2.wrc, by rw [e9]; exact up_row hK2 rfl⟩
  · skip
    refine tz_iload3 (n := 5) (g_at ck_X9_walkOn 4 rfl) rfl ?_
    refine tz_aload0 (n := 6) (g_at ck_X9_walkOn 5 rfl) rfl (g_ne kd_71) ?_
    refine tz_getOv (n := 9) (a := ld) fk_X9_36 kd_71 hLw (g_at ck_X9_walkOn 6 rfl) rfl ?_
    refine tz_getIw (n := 12) (kz := 0) fk_X9_53 hS.k0 (g_at ck_X9_walkOn 7 rfl) rfl rfl ?_
    rw [hG.n0]
    refine tz_icmp_ge (n := 15) (tgt := 48) (g_at ck_X9_walkOn 8 rfl) rfl rfl ⟨by omega, by omega, by omega, by omega⟩ (fun h12 => absurd h12 (by omega)) (fun h12 => ?_)
    refine tz_aload0 (n := 16) (g_at ck_X9_walkOn 9 rfl) rfl (g_ne kd_71) ?_
    refine tz_getAv (n := 19) (a := 79) fk_X9_33 kd_71 (ly_71_10 hL) (g_at ck_X9_walkOn 10 rfl) rfl ?_
    refine tz_iload1 (n := 20) (g_at ck_X9_walkOn 11 rfl) rfl ?_
    refine tz_iald (n := 21) kd_79 (by omega) (g_at ck_X9_walkOn 12 rfl) rfl ?_
    rw [hK t (by omega) (by omega)]
    refine tz_iload3 (n := 22) (g_at ck_X9_walkOn 13 rfl) rfl ?_
    refine tz_ishr (n := 23) (g_at ck_X9_walkOn 14 rfl) rfl ?_
    refine tz_iconst (n := 24) (g_at ck_X9_walkOn 15 rfl) rfl ?_
    refine tz_iand (n := 25) (g_at ck_X9_walkOn 16 rfl) rfl ?_
    refine tz_iconst (n := 26) (g_at ck_X9_walkOn 17 rfl) rfl ?_
    refine tz_icmp_ne (n := 29) (tgt := 42) (g_at ck_X9_walkOn 18 rfl) rfl rfl ⟨(bAnd_rg _ _).1, (bAnd_rg _ _).2, by decide, by decide⟩ (fun h26 => ?_) (fun h26 => ?_)
    · skip
      refine tz_iinc3 (n := 45) (g_at ck_X9_walkOn 30 rfl) rfl (by decide) g_hpI ?_
      refine tz_goto (tgt := 4) (g_at ck_X9_walkOn 31 rfl) rfl ?_
      have e9 : wkF (wyW Λ s) t (T t) (i + 1) = (wkF (wyW Λ s) t (T t) i) := if_neg h26
      exact gT_eq ihi rfl (by rw [e9]; rfl)
    · skip
      refine tz_iload2 (n := 30) (g_at ck_X9_walkOn 19 rfl) rfl ?_
      refine tz_aload0 (n := 31) (g_at ck_X9_walkOn 20 rfl) rfl (g_ne kd_71) ?_
      refine tz_getAv (n := 34) (a := 74) fk_X9_18 kd_71 (ly_71_3 hL) (g_at ck_X9_walkOn 21 rfl) rfl ?_
      refine tz_iload3 (n := 35) (g_at ck_X9_walkOn 22 rfl) rfl ?_
      refine tz_iald (n := 36) kd_74 (by omega) (g_at ck_X9_walkOn 23 rfl) rfl ?_
      rw [hV.n (i : Int) (by omega)]
      refine tz_iload1 (n := 37) (g_at ck_X9_walkOn 24 rfl) rfl ?_
      refine tz_iconst (n := 38) (g_at ck_X9_walkOn 25 rfl) rfl ?_
      refine tz_ixor (n := 39) (g_at ck_X9_walkOn 26 rfl) rfl ?_
      refine tz_iand (n := 40) (g_at ck_X9_walkOn 27 rfl) rfl ?_
      refine tz_ior (n := 41) (g_at ck_X9_walkOn 28 rfl) rfl ?_
      refine tz_istore2 (n := 42) (g_at ck_X9_walkOn 29 rfl) rfl (by decide) g_hpI ?_
      refine tz_iinc3 (n := 45) (g_at ck_X9_walkOn 30 rfl) rfl (by decide) g_hpI ?_
      refine tz_goto (tgt := 4) (g_at ck_X9_walkOn 31 rfl) rfl ?_
      have e9 : wkF (wyW Λ s) t (T t) (i + 1) = bOr (wkF (wyW Λ s) t (T t) i) (bAnd (wyW Λ s 2 (i : Int)) (bXor t (-1))) := if_pos h26
      exact gT_eq ihi rfl (by rw [e9]; rfl)
theorem sp_longest {l : Launch} {γ : Gh} {ρ m : Mm} {c : Int} {ld : Int} {Λ : Mm} {hl tl : List Int} (hL : LY ρ) (hLw : ρ 71 0 = ld) (hS : isS ρ ld) (hR : MR m) (hW : WL Λ) (hG : LandC m ld Λ hl tl) {s : Int → Int} (hV : SvC m Λ s) (hc : 0 ≤ c ∧ c < Λ 0 0) : gE l γ μX9_longest 2 0 0 (rI KK fun x ρ9 m9 => ρ = ρ9 ∧ MR m9 ∧ Fr [79] m m9 ∧ (lgN Λ s c (2 ^ (Λ 0 0).toNat)).1 = x) xN KK ρ m [vR 71, vI c] := by
  refine gE.ofw cl_X9.2 ?_ rfl rfl (Nat.le_of_ble_eq_true rfl)
  show gT l γ μX9_longest 2 0 0 _ _ KK ρ m 0 [some (vR 71), some (vI c), none, none, none] []
  have hn := hW.1
  have hn8 := hW.2.1
  have hld := hG.ld9
  have hsh := shN hn
  have hsc := bor_lt (t := 0) (z := c.toNat) (n := (Λ 0 0).toNat) (by omega) (by omega) (by omega)
  rw [show ((c.toNat : Nat) : Int) = c by omega] at hsc
  have hs2 := shN (n := c) (by omega)
  have hs3 : bShl 1 c < ((2 ^ (Λ 0 0).toNat : Nat) : Int) := by rw [hs2.1]; have : 2 ^ c.toNat < 2 ^ (Λ 0 0).toNat := Nat.pow_lt_pow_right (by decide) (by omega); omega
  refine tz_iconst (n := 1) (g_at ck_X9_longest 0 rfl) rfl ?_
  refine tz_aload0 (n := 2) (g_at ck_X9_longest 1 rfl) rfl (g_ne kd_71) ?_
  refine tz_getOv (n := 5) (a := ld) fk_X9_36 kd_71 hLw (g_at ck_X9_longest 2 rfl) rfl ?_
  refine tz_getIw (n := 8) (kz := 0) fk_X9_53 hS.k0 (g_at ck_X9_longest 3 rfl) rfl rfl ?_
  rw [hG.n0]
  refine tz_ishl (n := 9) (g_at ck_X9_longest 4 rfl) rfl ?_
  refine tz_istore2 (n := 10) (g_at ck_X9_longest 5 rfl) rfl (by decide) g_hpI ?_
  refine tz_iconst (n := 11) (g_at ck_X9_longest 6 rfl) rfl ?_
  refine tz_istore3 (n := 12) (g_at ck_X9_longest 7 rfl) rfl (by decide) g_hpI ?_
  suffices hlp : ∀ i : Nat, i ≤ (2 ^ (Λ 0 0).toNat) → gT l γ μX9_longest 2 0 0 _ _ KK ρ (fil m 79 i 0) 12 [some (vR 71), some (vI c), some (vI (bShl 1 (Λ 0 0))), some (vI (i : Int)), none] [] by
    have h0 := hlp 0 (Nat.zero_le _)
    rw [fil_0] at h0
    exact h0
  refine g_for (fun i : Nat => gT l γ μX9_longest 2 0 0 _ _ KK ρ (fil m 79 i 0) 12 [some (vR 71), some (vI c), some (vI (bShl 1 (Λ 0 0))), some (vI (i : Int)), none] []) (2 ^ (Λ 0 0).toNat) ?_ (fun i hi ihi => ?_)
  · skip
    refine tz_iload3 (n := 13) (g_at ck_X9_longest 8 rfl) rfl ?_
    refine tz_iload2 (n := 14) (g_at ck_X9_longest 9 rfl) rfl ?_
    refine tz_icmp_ge (n := 17) (tgt := 30) (g_at ck_X9_longest 10 rfl) rfl rfl ⟨by omega, by omega, by omega, by omega⟩ (fun h14 => ?_) (fun h14 => absurd h14 (by omega))
    refine tz_aload0 (n := 31) (g_at ck_X9_longest 18 rfl) rfl (g_ne kd_71) ?_
    refine tz_getAv (n := 34) (a := 79) fk_X9_33 kd_71 (ly_71_10 hL) (g_at ck_X9_longest 19 rfl) rfl ?_
    refine tz_iconst (n := 35) (g_at ck_X9_longest 20 rfl) rfl ?_
    refine tz_iload1 (n := 36) (g_at ck_X9_longest 21 rfl) rfl ?_
    refine tz_ishl (n := 37) (g_at ck_X9_longest 22 rfl) rfl ?_
    refine tz_iconst (n := 38) (g_at ck_X9_longest 23 rfl) rfl ?_
    refine tz_iload1 (n := 39) (g_at ck_X9_longest 24 rfl) rfl ?_
    refine tz_ishl (n := 40) (g_at ck_X9_longest 25 rfl) rfl ?_
    refine tz_iastr (n := 41) kd_79 (by omega) (g_at ck_X9_longest 26 rfl) rfl (hR.fil (by decide)) ⟨(bShl_rg _ _).1, (bShl_rg _ _).2⟩ (fun hR1 => ?_)
    refine tz_iconst (n := 42) (g_at ck_X9_longest 27 rfl) rfl ?_
    refine tz_istore3 (n := 43) (g_at ck_X9_longest 28 rfl) rfl (by decide) g_hpI ?_
    refine tz_iconst (n := 44) (g_at ck_X9_longest 29 rfl) rfl ?_
    refine tz_istore4 (n := 46) (g_at ck_X9_longest 30 rfl) rfl (by decide) g_hpI ?_
    refine g_for (fun i : Nat => ∀ m3 : Mm, (MR m3 ∧ Fr [79] m m3 ∧ ∀ j, 0 ≤ j → j < ((2 ^ (Λ 0 0).toNat : Nat) : Int) → m3 79 j = (lgN Λ s c i).2 j) → gT l γ μX9_longest 2 0 0 _ _ KK ρ m3 46 [some (vR 71), some (vI c), some (vI (bShl 1 (Λ 0 0))), some (vI (lgN Λ s c i).1), some (vI (i : Int))] []) (2 ^ (Λ 0 0).toNat) ?_ (fun i hi ihi => ?_) 0 (Nat.zero_le _) _ ⟨hR1, (Fr.rf.fil (by decide)).wr (by decide), up_row (fun j h1 h2 => fil_at (by omega)) rfl⟩
    · intro m3 hinv
      obtain ⟨hR3, hF3, hK3⟩ := hinv
      refine tz_iload4 (n := 48) (g_at ck_X9_longest 31 rfl) rfl ?_
      refine tz_iload2 (n := 49) (g_at ck_X9_longest 32 rfl) rfl ?_
      refine tz_icmp_ge (n := 52) (tgt := 86) (g_at ck_X9_longest 33 rfl) rfl rfl ⟨by omega, by omega, by omega, by omega⟩ (fun h49 => ?_) (fun h49 => absurd h49 (by omega))
      refine tz_iload3 (n := 87) (g_at ck_X9_longest 51 rfl) rfl ?_
      exact tz_iret (g_at ck_X9_longest 52 rfl) rfl (rI_mk ⟨rfl, hR3, hF3, rfl⟩)
    · intro m3 hinv
      obtain ⟨hR3, hF3, hK3⟩ := hinv
      have hG3 := hG.q (qM_wy (hF3.sub (by decide)))
      have hlg := lgN_rg (Λ := Λ) (s := s) (c := c) i (by omega)
      refine tz_iload4 (n := 48) (g_at ck_X9_longest 31 rfl) rfl ?_
      refine tz_iload2 (n := 49) (g_at ck_X9_longest 32 rfl) rfl ?_
      refine tz_icmp_ge (n := 52) (tgt := 86) (g_at ck_X9_longest 33 rfl) rfl rfl ⟨by omega, by omega, by omega, by omega⟩ (fun h49 => absurd h49 (by omega)) (fun h49 => ?_)
      refine tz_aload0 (n := 53) (g_at ck_X9_longest 34 rfl) rfl (g_ne kd_71) ?_
      refine tz_getAv (n := 56) (a := 79) fk_X9_33 kd_71 (ly_71_10 hL) (g_at ck_X9_longest 35 rfl) rfl ?_
      refine tz_iload4 (n := 58) (g_at ck_X9_longest 36 rfl) rfl ?_
      refine tz_iald (n := 59) kd_79 (by omega) (g_at ck_X9_longest 37 rfl) rfl ?_
      rw [hK3 (i : Int) (by omega) (by omega)]
      refine tz_if_eq (n := 62) (tgt := 80) (g_at ck_X9_longest 38 rfl) rfl rfl (by rw [← hK3 (i : Int) (by omega) (by omega)]; exact hR3 _ _) (fun h59 => ?_) (fun h59 => ?_)
      · skip
        refine tz_iinc4 (n := 83) (g_at ck_X9_longest 49 rfl) rfl (by decide) g_hpI ?_
        refine tz_goto (tgt := 46) (g_at ck_X9_longest 50 rfl) rfl ?_
        have e9 : lgN Λ s c (i + 1) = (lgN Λ s c i) := if_pos h59
        exact gT_eq (ihi _ ⟨hR3, hF3, by rw [e9]; exact hK3⟩) rfl (by rw [e9]; rfl)
      · skip
        refine tz_iload3 (n := 63) (g_at ck_X9_longest 39 rfl) rfl ?_
        refine tz_iload4 (n := 65) (g_at ck_X9_longest 40 rfl) rfl ?_
        refine tz_csI1 (n := 68) (μ' := μJ6_bitCount_0f7a4) (cb' := 0) (sb' := 0) ml_X9_105 mo_J6_bitCount_0f7a4 ms_J6_bitCount_0f7a4 np_J6_bitCount_0f7a4 (g_at ck_X9_longest 41 rfl) (sp_bitCount hR3) rfl rfl ⟨by decide, by decide⟩ (Nat.le_of_ble_eq_true rfl) (by decide) (by decide) (fun x65 ρ9 m65 hq => ?_)
        obtain ⟨rfl, hR2, rfl, rfl⟩ := hq
        have hb9 := bcJ_9 i (by omega)
        refine tz_iconst (n := 69) (g_at ck_X9_longest 42 rfl) rfl ?_
        refine tz_isub (n := 70) (g_at ck_X9_longest 43 rfl) rfl ?_
        refine tz_mmax (n := 73) mm_X9_114 mmax_1 mm_i mmax_2 ⟨by omega, by omega, by omega, by omega⟩ (g_at ck_X9_longest 44 rfl) rfl (by decide) (Nat.le_of_ble_eq_true rfl) ?_
        refine tz_istore3 (n := 74) (g_at ck_X9_longest 45 rfl) rfl (by decide) g_hpI ?_
        refine tz_aload0 (n := 75) (g_at ck_X9_longest 46 rfl) rfl (g_ne kd_71) ?_
        refine tz_iload4 (n := 77) (g_at ck_X9_longest 47 rfl) rfl ?_
        refine tz_cvV1 (n := 80) (μ' := μX9_walkOn) (cb' := 0) (sb' := 0) ml_X9_117 mo_X9_walkOn mv_X9_walkOn np_X9_walkOn kd_71 (g_at ck_X9_longest 48 rfl) (sp_walkOn hL hLw hS hR2 hW hG3 (hV.sam (fun a h1 h2 => hF3 a (by simp; omega))) (by omega) hK3) rfl rfl rfl ⟨by decide, by decide⟩ (Nat.le_of_ble_eq_true rfl) (by decide) (by decide) (fun ρ9 m77 hq => ?_)
        obtain ⟨rfl, hR3, hF77, hK77⟩ := hq
        refine tz_iinc4 (n := 83) (g_at ck_X9_longest 49 rfl) rfl (by decide) g_hpI ?_
        refine tz_goto (tgt := 46) (g_at ck_X9_longest 50 rfl) rfl ?_
        have e9 : lgN Λ s c (i + 1) = (if (lgN Λ s c i).1 < bcJ (i : Int) - 1 then bcJ (i : Int) - 1 else (lgN Λ s c i).1, wkO Λ s (i : Int) (lgN Λ s c i).2) := if_neg h59
        exact gT_eq (ihi _ ⟨hR3, hF3.tr hF77, by rw [e9]; exact hK77⟩) rfl (by rw [e9]; rfl)
  · skip
    refine tz_iload3 (n := 13) (g_at ck_X9_longest 8 rfl) rfl ?_
    refine tz_iload2 (n := 14) (g_at ck_X9_longest 9 rfl) rfl ?_
    refine tz_icmp_ge (n := 17) (tgt := 30) (g_at ck_X9_longest 10 rfl) rfl rfl ⟨by omega, by omega, by omega, by omega⟩ (fun h14 => absurd h14 (by omega)) (fun h14 => ?_)
    refine tz_aload0 (n := 18) (g_at ck_X9_longest 11 rfl) rfl (g_ne kd_71) ?_
    refine tz_getAv (n := 21) (a := 79) fk_X9_33 kd_71 (ly_71_10 hL) (g_at ck_X9_longest 12 rfl) rfl ?_
    refine tz_iload3 (n := 22) (g_at ck_X9_longest 13 rfl) rfl ?_
    refine tz_iconst (n := 23) (g_at ck_X9_longest 14 rfl) rfl ?_
    refine tz_iastr (n := 24) kd_79 (by omega) (g_at ck_X9_longest 15 rfl) rfl (hR.fil (by decide)) ⟨(by decide), (by decide)⟩ (fun hR4 => ?_)
    refine tz_iinc3 (n := 27) (g_at ck_X9_longest 16 rfl) rfl (by decide) g_hpI ?_
    refine tz_goto (tgt := 12) (g_at ck_X9_longest 17 rfl) rfl ?_
    rw [fil_s]
    exact ihi
