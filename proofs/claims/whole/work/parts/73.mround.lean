/-! The reference: round, first, the way home. -/
theorem andN (x y : Int) : bAnd x (bXor y (-1)) = bXor x (bAnd x y) := by
  have e : ∀ a b : Int32, a &&& (b ^^^ Int32.ofInt (-1)) = a ^^^ (a &&& b) := fun a b => by
    apply Int32.toBitVec_inj.mp
    rw [Int32.toBitVec_and, Int32.toBitVec_xor, Int32.toBitVec_xor, Int32.toBitVec_and]
    have h1 : (Int32.ofInt (-1)).toBitVec = BitVec.allOnes 32 := rfl
    rw [h1]
    apply BitVec.eq_of_getLsbD_eq
    intro i hi
    simp only [BitVec.getLsbD_and, BitVec.getLsbD_xor, BitVec.getLsbD_allOnes, hi, decide_true]
    cases a.toBitVec.getLsbD i <;> cases b.toBitVec.getLsbD i <;> rfl
  unfold bAnd bXor
  rw [Int32.ofInt_toInt, Int32.ofInt_toInt, e]
theorem andn_bit {a b q : Nat} (ha : a < 256) (hb : b < 256) (hq : q < 8) : bAnd (bShr (bAnd a (bXor b (-1))) q) 1 = if a.testBit q ∧ ¬ b.testBit q then 1 else 0 := by
  have h1 : a &&& b < 256 := Nat.lt_of_le_of_lt Nat.and_le_left ha
  have h2 : a ^^^ (a &&& b) < 256 := Nat.xor_lt_two_pow (n := 8) ha h1
  rw [andN, bAnd_nn (by omega) (by omega), bXor_nn (by omega) (by omega), bBit (by omega) (by omega), Nat.testBit_xor, Nat.testBit_and]
  cases a.testBit q <;> cases b.testBit q <;> rfl
theorem home_andn {Λ σ τ : Mm} (hW : WL Λ) {p : Int} (hp : 0 ≤ p ∧ p < Λ 0 1) : bAnd (bShr (bAnd (homB Λ σ) (bXor (homB Λ τ) (-1))) p) 1 = 1 ↔ (σ 0 (1 + p) = Λ 5 p ∧ ¬ τ 0 (1 + p) = Λ 5 p) := by
  have h8 := hW.2.1
  have r1 := homB_rg (σ := σ) hW
  have r2 := homB_rg (σ := τ) hW
  have b1 := homB_bit (σ := σ) hW hp
  have b2 := homB_bit (σ := τ) hW hp
  obtain ⟨a, ea⟩ : ∃ a : Nat, homB Λ σ = (a : Int) := ⟨(homB Λ σ).toNat, by omega⟩
  obtain ⟨b, eb⟩ : ∃ b : Nat, homB Λ τ = (b : Int) := ⟨(homB Λ τ).toNat, by omega⟩
  obtain ⟨q, eq⟩ : ∃ q : Nat, p = (q : Int) := ⟨p.toNat, by omega⟩
  rw [ea] at r1 b1 ⊢
  rw [eb] at r2 b2 ⊢
  rw [eq] at b1 b2 hp ⊢
  rw [bBit (by omega) (by omega)] at b1 b2
  rw [andn_bit (by omega) (by omega) (by omega)]
  constructor
  · intro h
    have h9 := ite10 (by rw [h]; decide)
    rw [if_pos h9.1] at b1
    rw [if_neg h9.2] at b2
    exact ⟨ite10 (by rw [← b1]; decide), ite10n b2.symm⟩
  · intro h
    rw [if_pos h.1] at b1
    rw [if_neg h.2] at b2
    exact if_pos ⟨ite10 (by rw [b1]; decide), ite10n b2⟩
/-- what no day touches -/
theorem per_out {Λ σ : Mm} {hl tl : List Int} {w p b k : Int} (hW : WL Λ) (hσ : WS Λ b σ) (hp : 0 ≤ p ∧ p < Λ 0 1) (hk : (1 + Λ 0 1 ≤ k ∧ k ≤ 8) ∨ (17 + Λ 0 0 ≤ k ∧ k ≤ 25)) : perP Λ hl tl w p σ 0 k = σ 0 k := by
  have h8 := hW.2.1
  have h9 := hσ.2.1 p hp.1 hp.2
  have hf : folP Λ p (σ 0 (1 + p)) σ 0 k = σ 0 k := by
    unfold folP
    split
    · rfl
    · simp only [wr, true_and, and_true, false_and, if_false, if_true, Int.reduceEq]
      rw [if_neg (by omega), if_neg (by omega)]
  unfold perP
  split
  · rfl
  · unfold takP
    split
    · rfl
    · split
      · exact hf
      · unfold trnP
        split
        · exact hf
        · rw [wr_at, if_neg (by omega)]
          exact hf
theorem dayN_out {Λ σ : Mm} {hl tl : List Int} {w b k : Int} (hW : WL Λ) (hσ : WS Λ b σ) (hb : 0 ≤ b) (hk : (1 + Λ 0 1 ≤ k ∧ k ≤ 8) ∨ (17 + Λ 0 0 ≤ k ∧ k ≤ 25)) : ∀ n : Nat, n ≤ (Λ 0 1).toNat → dayN Λ hl tl w σ n 0 k = σ 0 k
  | 0, _ => rfl
  | n + 1, h => by
    have ih := dayN_out (hl := hl) (tl := tl) (w := w) hW hσ hb hk n (by omega)
    have h1 := dayN_WS (hl := hl) (tl := tl) (w := w) hW hσ hb n (by omega)
    rw [dayN_s, per_out hW h1 (by omega) hk]
    exact ih
theorem days_out {Λ σ : Mm} {hl tl : List Int} {b k : Int} (hW : WL Λ) (hσ : WS Λ b σ) (hb : 0 ≤ b) (hk : (1 + Λ 0 1 ≤ k ∧ k ≤ 8) ∨ (17 + Λ 0 0 ≤ k ∧ k ≤ 25)) : ∀ n : Nat, daysP Λ hl tl σ n 0 k = σ 0 k
  | 0 => rfl
  | n + 1 => by
    have ih := days_out (hl := hl) (tl := tl) hW hσ hb hk n
    have h1 := daysP_WS (hl := hl) (tl := tl) hW hσ hb n
    have h2 := dayN_out (hl := hl) (tl := tl) (w := 1) hW h1 (by omega) hk (Λ 0 1).toNat (Nat.le_refl _)
    have h8 := hW.2.1
    have h0 := hW.1
    show dayP Λ hl tl 1 (daysP Λ hl tl σ n) 0 k = σ 0 k
    unfold dayP
    rw [wr_at, if_neg (by omega), h2]
    exact ih
theorem like_iff {Λ σ : Mm} {hl tl : List Int} {s : Int → Int} {j : Nat} (hW : WL Λ) (hs : WS Λ 0 (sig0 s)) (e : σ = daysP Λ hl tl (sig0 s) j) : likeP σ s ≠ 0 ↔ ((∀ p : Nat, p < (Λ 0 1).toNat → σ 0 (1 + (p : Int)) = s (1 + (p : Int))) ∧ ∀ c : Nat, c < (Λ 0 0).toNat → σ 0 (17 + (c : Int)) = s (17 + (c : Int))) := by
  have h8 := hW.2.1
  have h0 := hW.1
  unfold likeP
  constructor
  · intro h
    have h9 := ite10 h
    exact ⟨fun p hp => h9.2 p (by omega), fun c hc => h9.1 c (by omega)⟩
  · intro h
    rw [if_pos]
    · decide
    · refine ⟨fun c hc => ?_, fun p hp => ?_⟩
      · by_cases e9 : c < (Λ 0 0).toNat
        · exact h.2 c e9
        · rw [e]
          exact days_out hW hs (Int.le_refl 0) (Or.inr (by omega)) j
      · by_cases e9 : p < (Λ 0 1).toNat
        · exact h.1 p e9
        · rw [e]
          exact days_out hW hs (Int.le_refl 0) (Or.inl (by omega)) j
def alF (f g : Int → Int) (v : Int) (n : Nat) : Int := fd (fun p u => if u = 0 then 0 else if f (p : Int) = g (p : Int) then 1 else 0) v n
theorem alF_01 {f g : Int → Int} {v : Int} (hv : v = 0 ∨ v = 1) : ∀ n, alF f g v n = 0 ∨ alF f g v n = 1
  | 0 => hv
  | n + 1 => by
    show (if alF f g v n = 0 then (0 : Int) else if f (n : Int) = g (n : Int) then 1 else 0) = 0 ∨ (if alF f g v n = 0 then (0 : Int) else if f (n : Int) = g (n : Int) then 1 else 0) = 1
    repeat' split
    all_goals simp
theorem alF_i {f g : Int → Int} {v : Int} : ∀ n, alF f g v n ≠ 0 ↔ (v ≠ 0 ∧ ∀ p : Nat, p < n → f (p : Int) = g (p : Int))
  | 0 => ⟨fun h => ⟨h, fun p hp => absurd hp (Nat.not_lt_zero p)⟩, fun h => h.1⟩
  | n + 1 => by
    have ih := alF_i (f := f) (g := g) (v := v) n
    have e : alF f g v (n + 1) = if alF f g v n = 0 then (0 : Int) else if f (n : Int) = g (n : Int) then 1 else 0 := rfl
    rw [e]
    constructor
    · intro h
      split at h
      · exact absurd rfl h
      · rename_i h1
        split at h
        · rename_i h2
          refine ⟨(ih.mp h1).1, fun p hp => ?_⟩
          by_cases e9 : p = n
          · rw [e9]; exact h2
          · exact (ih.mp h1).2 p (by omega)
        · exact absurd rfl h
    · intro h
      rw [if_neg (ih.mpr ⟨h.1, fun p hp => h.2 p (by omega)⟩), if_pos (h.2 n (by omega))]
      decide
def hmX (y : Int) : Int := if y ≤ 60 then y else 9999
theorem homF_rg (Λ : Mm) (hl tl : List Int) (σ : Mm) (p : Int) : 0 ≤ homF Λ hl tl σ p ∧ homF Λ hl tl σ p ≤ 61 := ⟨(homF_is Λ hl tl σ p).1, (homF_is Λ hl tl σ p).2.1⟩
theorem hmX_rg {y : Int} (h : 0 ≤ y ∧ y ≤ 61) : 0 ≤ hmX y ∧ hmX y ≤ 9999 := by unfold hmX; split <;> omega
theorem hmX_i {y : Int} (h : 0 ≤ y ∧ y ≤ 61) : hmX y < 9999 ↔ y ≤ 60 := by unfold hmX; split <;> omega
theorem hmX_lt {x y : Int} (hx : 0 ≤ x ∧ x ≤ 61) (hy : 0 ≤ y ∧ y ≤ 61) : hmX x < hmX y ↔ x < y := by
  unfold hmX
  repeat' split
  all_goals omega
theorem home_M0 {m Λ : Mm} {hl tl : List Int} {s : Int → Int} (hW : WL Λ) (hM : MLand m Λ hl tl) (hs : MRow m s) : bitsH (fun p => m 103 (0 + 1 + p)) (m 89) (m 84 2).toNat = homB Λ (sig0 s) := by
  have h8 := hW.2.1
  rw [hM.2.1]
  exact bitsH_congr fun p hp => ⟨by rw [show (0 : Int) + 1 + (p : Int) = 1 + (p : Int) by omega]; exact hs _ (by omega) (by omega), hM.2.2.2.2.1 p (by omega) (by omega)⟩
theorem mp_isAsNow {l : Launch} {γ : Gh} {ρ m : Mm} (hL : LY ρ) (hR : MR m) (hn : 0 ≤ m 84 2 ∧ m 84 2 ≤ 8) (hc : 0 ≤ m 84 1 ∧ m 84 1 ≤ 9) : gE l γ μX11_isAsNow 0 0 0 (rI KK fun x ρ9 m9 => ρ = ρ9 ∧ MR m9 ∧ (alF (fun c => m 103 (52 + c)) (fun c => m 103 (17 + c)) (alF (fun p => m 103 (36 + p)) (fun p => m 103 (1 + p)) 1 (m 84 2).toNat) (m 84 1).toNat) = x ∧ m = m9) xN KK ρ m [vR 84] := by
  refine gE.ofw cl_X11.2 ?_ rfl rfl (Nat.le_of_ble_eq_true rfl)
  show gT l γ μX11_isAsNow 0 0 0 _ _ KK ρ m 0 [some (vR 84), none, none] []
  refine tz_iconst (n := 1) (g_at ck_X11_isAsNow 0 rfl) rfl ?_
  refine tz_istore1 (n := 2) (g_at ck_X11_isAsNow 1 rfl) rfl (by decide) g_hpR ?_
  refine tz_iconst (n := 3) (g_at ck_X11_isAsNow 2 rfl) rfl ?_
  refine tz_istore2 (n := 4) (g_at ck_X11_isAsNow 3 rfl) rfl (by decide) g_hpI ?_
  refine g_for (fun i : Nat => gT l γ μX11_isAsNow 0 0 0 _ _ KK ρ m 4 [some (vR 84), some (vI (alF (fun p => m 103 (36 + p)) (fun p => m 103 (1 + p)) 1 i)), some (vI (i : Int))] []) (m 84 2).toNat ?_ (fun i hi ihi => ?_) 0 (Nat.zero_le _)
  · skip
    refine tz_iload2 (n := 5) (g_at ck_X11_isAsNow 4 rfl) rfl ?_
    refine tz_aload0 (n := 6) (g_at ck_X11_isAsNow 5 rfl) rfl (g_ne kd_84) ?_
    refine tz_getIw (n := 9) (kz := 2) fk_X11_305 kd_84 (g_at ck_X11_isAsNow 6 rfl) rfl rfl ?_
    refine tz_icmp_ge (n := 12) (tgt := 48) (g_at ck_X11_isAsNow 7 rfl) rfl rfl (by omega) (fun h9 => ?_) (fun h9 => absurd h9 (by omega))
    refine tz_iconst (n := 49) (g_at ck_X11_isAsNow 29 rfl) rfl ?_
    refine tz_istore2 (n := 50) (g_at ck_X11_isAsNow 30 rfl) rfl (by decide) g_hpI ?_
    refine g_for (fun i : Nat => gT l γ μX11_isAsNow 0 0 0 _ _ KK ρ m 50 [some (vR 84), some (vI (alF (fun c => m 103 (52 + c)) (fun c => m 103 (17 + c)) (alF (fun p => m 103 (36 + p)) (fun p => m 103 (1 + p)) 1 (m 84 2).toNat) i)), some (vI (i : Int))] []) (m 84 1).toNat ?_ (fun i hi ihi => ?_) 0 (Nat.zero_le _)
    · skip
      have h01 := alF_01 (f := fun c => m 103 (52 + c)) (g := fun c => m 103 (17 + c)) (alF_01 (f := fun p => m 103 (36 + p)) (g := fun p => m 103 (1 + p)) (Or.inr rfl) (m 84 2).toNat) (m 84 1).toNat
      refine tz_iload2 (n := 51) (g_at ck_X11_isAsNow 31 rfl) rfl ?_
      refine tz_aload0 (n := 52) (g_at ck_X11_isAsNow 32 rfl) rfl (g_ne kd_84) ?_
      refine tz_getIw (n := 55) (kz := 1) fk_X11_302 kd_84 (g_at ck_X11_isAsNow 33 rfl) rfl rfl ?_
      refine tz_icmp_ge (n := 58) (tgt := 95) (g_at ck_X11_isAsNow 34 rfl) rfl rfl (by omega) (fun h55 => ?_) (fun h55 => absurd h55 (by omega))
      refine tz_iload1 (n := 96) (g_at ck_X11_isAsNow 56 rfl) rfl ?_
      exact tz_bret (g_at ck_X11_isAsNow 57 rfl) rfl h01 (rI_mk ⟨rfl, hR, rfl, rfl⟩)
    · skip
      have h01 := alF_01 (f := fun c => m 103 (52 + c)) (g := fun c => m 103 (17 + c)) (alF_01 (f := fun p => m 103 (36 + p)) (g := fun p => m 103 (1 + p)) (Or.inr rfl) (m 84 2).toNat) i
      refine tz_iload2 (n := 51) (g_at ck_X11_isAsNow 31 rfl) rfl ?_
      refine tz_aload0 (n := 52) (g_at ck_X11_isAsNow 32 rfl) rfl (g_ne kd_84) ?_
      refine tz_getIw (n := 55) (kz := 1) fk_X11_302 kd_84 (g_at ck_X11_isAsNow 33 rfl) rfl rfl ?_
      refine tz_icmp_ge (n := 58) (tgt := 95) (g_at ck_X11_isAsNow 34 rfl) rfl rfl (by omega) (fun h55 => absurd h55 (by omega)) (fun h55 => ?_)
      refine tz_iload1 (n := 59) (g_at ck_X11_isAsNow 35 rfl) rfl ?_
      refine tz_if_eq (n := 62) (tgt := 87) (g_at ck_X11_isAsNow 36 rfl) rfl rfl (by omega) (fun h59 => ?_) (fun h59 => ?_)
      · skip
        refine tz_iconst (n := 88) (g_at ck_X11_isAsNow 52 rfl) rfl ?_
        refine tz_istore1 (n := 89) (g_at ck_X11_isAsNow 53 rfl) rfl (by decide) g_hpR ?_
        refine tz_iinc2 (n := 92) (g_at ck_X11_isAsNow 54 rfl) rfl (by decide) g_hpI ?_
        refine tz_goto (tgt := 50) (g_at ck_X11_isAsNow 55 rfl) rfl ?_
        have e9 : (alF (fun c => m 103 (52 + c)) (fun c => m 103 (17 + c)) (alF (fun p => m 103 (36 + p)) (fun p => m 103 (1 + p)) 1 (m 84 2).toNat) (i + 1)) = 0 := if_pos h59
        rw [e9] at ihi
        exact ihi
      · skip
        refine tz_aload0 (n := 63) (g_at ck_X11_isAsNow 37 rfl) rfl (g_ne kd_84) ?_
        refine tz_getAv (n := 66) (a := 103) fk_X11_75 kd_84 (ly_84_43 hL) (g_at ck_X11_isAsNow 38 rfl) rfl ?_
        refine tz_bipush (n := 68) (g_at ck_X11_isAsNow 39 rfl) rfl rfl ?_
        refine tz_iload2 (n := 69) (g_at ck_X11_isAsNow 40 rfl) rfl ?_
        refine tz_iadd (n := 70) (g_at ck_X11_isAsNow 41 rfl) rfl ?_
        refine tz_iald (n := 71) kd_103 (by omega) (g_at ck_X11_isAsNow 42 rfl) rfl ?_
        refine tz_aload0 (n := 72) (g_at ck_X11_isAsNow 43 rfl) rfl (g_ne kd_84) ?_
        refine tz_getAv (n := 75) (a := 103) fk_X11_75 kd_84 (ly_84_43 hL) (g_at ck_X11_isAsNow 44 rfl) rfl ?_
        refine tz_bipush (n := 77) (g_at ck_X11_isAsNow 45 rfl) rfl rfl ?_
        refine tz_iload2 (n := 78) (g_at ck_X11_isAsNow 46 rfl) rfl ?_
        refine tz_iadd (n := 79) (g_at ck_X11_isAsNow 47 rfl) rfl ?_
        refine tz_iald (n := 80) kd_103 (by omega) (g_at ck_X11_isAsNow 48 rfl) rfl ?_
        refine tz_icmp_ne (n := 83) (tgt := 87) (g_at ck_X11_isAsNow 49 rfl) rfl rfl ⟨(hR _ _).1, (hR _ _).2, (hR _ _).1, (hR _ _).2⟩ (fun h80 => ?_) (fun h80 => ?_)
        · skip
          refine tz_iconst (n := 88) (g_at ck_X11_isAsNow 52 rfl) rfl ?_
          refine tz_istore1 (n := 89) (g_at ck_X11_isAsNow 53 rfl) rfl (by decide) g_hpR ?_
          refine tz_iinc2 (n := 92) (g_at ck_X11_isAsNow 54 rfl) rfl (by decide) g_hpI ?_
          refine tz_goto (tgt := 50) (g_at ck_X11_isAsNow 55 rfl) rfl ?_
          have e9 : (alF (fun c => m 103 (52 + c)) (fun c => m 103 (17 + c)) (alF (fun p => m 103 (36 + p)) (fun p => m 103 (1 + p)) 1 (m 84 2).toNat) (i + 1)) = 0 := (if_neg h59).trans (if_neg h80)
          rw [e9] at ihi
          exact ihi
        · skip
          refine tz_iconst (n := 84) (g_at ck_X11_isAsNow 50 rfl) rfl ?_
          refine tz_goto (tgt := 88) (g_at ck_X11_isAsNow 51 rfl) rfl ?_
          refine tz_istore1 (n := 89) (g_at ck_X11_isAsNow 53 rfl) rfl (by decide) g_hpR ?_
          refine tz_iinc2 (n := 92) (g_at ck_X11_isAsNow 54 rfl) rfl (by decide) g_hpI ?_
          refine tz_goto (tgt := 50) (g_at ck_X11_isAsNow 55 rfl) rfl ?_
          have e9 : (alF (fun c => m 103 (52 + c)) (fun c => m 103 (17 + c)) (alF (fun p => m 103 (36 + p)) (fun p => m 103 (1 + p)) 1 (m 84 2).toNat) (i + 1)) = 1 := (if_neg h59).trans (if_pos h80)
          rw [e9] at ihi
          exact ihi
  · skip
    have h01 := alF_01 (f := fun p => m 103 (36 + p)) (g := fun p => m 103 (1 + p)) (Or.inr rfl) i
    refine tz_iload2 (n := 5) (g_at ck_X11_isAsNow 4 rfl) rfl ?_
    refine tz_aload0 (n := 6) (g_at ck_X11_isAsNow 5 rfl) rfl (g_ne kd_84) ?_
    refine tz_getIw (n := 9) (kz := 2) fk_X11_305 kd_84 (g_at ck_X11_isAsNow 6 rfl) rfl rfl ?_
    refine tz_icmp_ge (n := 12) (tgt := 48) (g_at ck_X11_isAsNow 7 rfl) rfl rfl (by omega) (fun h9 => absurd h9 (by omega)) (fun h9 => ?_)
    refine tz_iload1 (n := 13) (g_at ck_X11_isAsNow 8 rfl) rfl ?_
    refine tz_if_eq (n := 16) (tgt := 40) (g_at ck_X11_isAsNow 9 rfl) rfl rfl (by omega) (fun h13 => ?_) (fun h13 => ?_)
    · skip
      refine tz_iconst (n := 41) (g_at ck_X11_isAsNow 25 rfl) rfl ?_
      refine tz_istore1 (n := 42) (g_at ck_X11_isAsNow 26 rfl) rfl (by decide) g_hpR ?_
      refine tz_iinc2 (n := 45) (g_at ck_X11_isAsNow 27 rfl) rfl (by decide) g_hpI ?_
      refine tz_goto (tgt := 4) (g_at ck_X11_isAsNow 28 rfl) rfl ?_
      have e9 : (alF (fun p => m 103 (36 + p)) (fun p => m 103 (1 + p)) 1 (i + 1)) = 0 := if_pos h13
      rw [e9] at ihi
      exact ihi
    · skip
      refine tz_aload0 (n := 17) (g_at ck_X11_isAsNow 10 rfl) rfl (g_ne kd_84) ?_
      refine tz_getAv (n := 20) (a := 103) fk_X11_75 kd_84 (ly_84_43 hL) (g_at ck_X11_isAsNow 11 rfl) rfl ?_
      refine tz_bipush (n := 22) (g_at ck_X11_isAsNow 12 rfl) rfl rfl ?_
      refine tz_iload2 (n := 23) (g_at ck_X11_isAsNow 13 rfl) rfl ?_
      refine tz_iadd (n := 24) (g_at ck_X11_isAsNow 14 rfl) rfl ?_
      refine tz_iald (n := 25) kd_103 (by omega) (g_at ck_X11_isAsNow 15 rfl) rfl ?_
      refine tz_aload0 (n := 26) (g_at ck_X11_isAsNow 16 rfl) rfl (g_ne kd_84) ?_
      refine tz_getAv (n := 29) (a := 103) fk_X11_75 kd_84 (ly_84_43 hL) (g_at ck_X11_isAsNow 17 rfl) rfl ?_
      refine tz_iconst (n := 30) (g_at ck_X11_isAsNow 18 rfl) rfl ?_
      refine tz_iload2 (n := 31) (g_at ck_X11_isAsNow 19 rfl) rfl ?_
      refine tz_iadd (n := 32) (g_at ck_X11_isAsNow 20 rfl) rfl ?_
      refine tz_iald (n := 33) kd_103 (by omega) (g_at ck_X11_isAsNow 21 rfl) rfl ?_
      refine tz_icmp_ne (n := 36) (tgt := 40) (g_at ck_X11_isAsNow 22 rfl) rfl rfl ⟨(hR _ _).1, (hR _ _).2, (hR _ _).1, (hR _ _).2⟩ (fun h33 => ?_) (fun h33 => ?_)
      · skip
        refine tz_iconst (n := 41) (g_at ck_X11_isAsNow 25 rfl) rfl ?_
        refine tz_istore1 (n := 42) (g_at ck_X11_isAsNow 26 rfl) rfl (by decide) g_hpR ?_
        refine tz_iinc2 (n := 45) (g_at ck_X11_isAsNow 27 rfl) rfl (by decide) g_hpI ?_
        refine tz_goto (tgt := 4) (g_at ck_X11_isAsNow 28 rfl) rfl ?_
        have e9 : (alF (fun p => m 103 (36 + p)) (fun p => m 103 (1 + p)) 1 (i + 1)) = 0 := (if_neg h13).trans (if_neg h33)
        rw [e9] at ihi
        exact ihi
      · skip
        refine tz_iconst (n := 37) (g_at ck_X11_isAsNow 23 rfl) rfl ?_
        refine tz_goto (tgt := 41) (g_at ck_X11_isAsNow 24 rfl) rfl ?_
        refine tz_istore1 (n := 42) (g_at ck_X11_isAsNow 26 rfl) rfl (by decide) g_hpR ?_
        refine tz_iinc2 (n := 45) (g_at ck_X11_isAsNow 27 rfl) rfl (by decide) g_hpI ?_
        refine tz_goto (tgt := 4) (g_at ck_X11_isAsNow 28 rfl) rfl ?_
        have e9 : (alF (fun p => m 103 (36 + p)) (fun p => m 103 (1 + p)) 1 (i + 1)) = 1 := (if_neg h13).trans (if_pos h33)
        rw [e9] at ihi
        exact ihi
theorem asNow {m Λ : Mm} {hl tl : List Int} {s : Int → Int} {j : Nat} {e : Mm} (hW : WL Λ) (hM : MLand m Λ hl tl) (hs : MRow m s) (hσ : WS Λ 0 (sig0 s)) (hT : MT m 35 Λ e (daysP Λ hl tl (sig0 s) j)) : alF (fun c => m 103 (52 + c)) (fun c => m 103 (17 + c)) (alF (fun p => m 103 (36 + p)) (fun p => m 103 (1 + p)) 1 (m 84 2).toNat) (m 84 1).toNat ≠ 0 ↔ likeP (daysP Λ hl tl (sig0 s) j) s ≠ 0 := by
  have h8 := hW.2.1
  have h0 := hW.1
  rw [like_iff hW hσ rfl, alF_i, alF_i, hM.1, hM.2.1]
  constructor
  · intro h
    refine ⟨fun p hp => ?_, fun c hc => ?_⟩
    · have h9 : m 103 (36 + (p : Int)) = m 103 (1 + (p : Int)) := h.1.2 p hp
      rw [hT.r (k := 1 + (p : Int)) (by omega) (by omega), hs _ (by omega) (by omega)] at h9
      exact h9
    · have h9 : m 103 (52 + (c : Int)) = m 103 (17 + (c : Int)) := h.2 c hc
      rw [hT.r (k := 17 + (c : Int)) (by omega) (by omega), hs _ (by omega) (by omega)] at h9
      exact h9
  · intro h
    refine ⟨⟨by decide, fun p hp => ?_⟩, fun c hc => ?_⟩
    · show m 103 (36 + (p : Int)) = m 103 (1 + (p : Int))
      rw [hT.r (k := 1 + (p : Int)) (by omega) (by omega), hs _ (by omega) (by omega)]
      exact h.1 p hp
    · show m 103 (52 + (c : Int)) = m 103 (17 + (c : Int))
      rw [hT.r (k := 17 + (c : Int)) (by omega) (by omega), hs _ (by omega) (by omega)]
      exact h.2 c hc
theorem mp_round {l : Launch} {γ : Gh} {ρ m : Mm} {s : Int → Int} {Λ : Mm} {hl tl : List Int} (hL : LY ρ) (hR : MR m) (hW : WL Λ) (hM : MLand m Λ hl tl) (hs : MRow m s) (hσ : WS Λ 0 (sig0 s)) (hz : m 84 51 = 0) : gE l γ μX11_round 6 0 0 (rI KK fun x ρ9 m9 => ρ = ρ9 ∧ MR m9 ∧ mK m m9 ∧ m9 84 0 = 0 ∧ isF1 (fun j => likeP (daysP Λ hl tl (sig0 s) (j + 1)) s ≠ 0) 200 x) xN KK ρ m [vR 84] := by
  refine gE.ofw cl_X11.2 ?_ rfl rfl (Nat.le_of_ble_eq_true rfl)
  show gT l γ μX11_round 6 0 0 _ _ KK ρ m 0 [some (vR 84), none] []
  have hn1 := hW.1
  have hn8 := hW.2.1
  refine tz_aload0 (n := 1) (g_at ck_X11_round 0 rfl) rfl (g_ne kd_84) ?_
  refine tz_iconst (n := 2) (g_at ck_X11_round 1 rfl) rfl ?_
  refine tz_putIr (n := 5) (kz := 0) fk_X11_132 kd_84 (g_at ck_X11_round 2 rfl) rfl hR ⟨(by decide), (by decide)⟩ rfl (fun hR1 => ?_)
  obtain ⟨m0, e0⟩ : ∃ m0, m0 = wr m 84 0 0 := ⟨_, rfl⟩
  rw [← e0] at hR1 ⊢
  have hk0 : mK m m0 := by rw [e0]; exact mK.w0
  have hM0 := hk0.land hM
  have hs0 := hk0.row hs
  have hz0 : m0 84 51 = 0 := hk0.w51.trans hz
  have h00 : m0 84 0 = 0 := by rw [e0, wr_same]
  have hw0 := hw_0 hz0
  refine tz_aload0 (n := 6) (g_at ck_X11_round 3 rfl) rfl (g_ne kd_84) ?_
  refine tz_cvV0 (n := 9) (μ' := μX11_tries) (cb' := 0) (sb' := 0) ml_X11_356 mo_X11_tries mv_X11_tries np_X11_tries kd_84 (g_at ck_X11_round 4 rfl) (mp_tries (Λ := Λ) hL hR1 hs0) rfl rfl rfl ⟨by decide, by decide⟩ (Nat.le_of_ble_eq_true rfl) (by decide) (by decide) (fun ρ9 m6 hq => ?_)
  obtain ⟨rfl, hR2, hT6, hD6⟩ := hq
  refine tz_iconst (n := 10) (g_at ck_X11_round 5 rfl) rfl ?_
  refine tz_istore1 (n := 11) (g_at ck_X11_round 6 rfl) rfl (by decide) g_hpR ?_
  refine g_for (fun i : Nat => ∀ m1 : Mm, (MR m1 ∧ MT m1 35 Λ z00 (daysP Λ hl tl (sig0 s) (i)) ∧ FD 35 m0 m1 ∧ (∀ j : Nat, j < i → ¬ (likeP (daysP Λ hl tl (sig0 s) (j + 1)) s ≠ 0))) → gT l γ μX11_round 6 0 0 _ _ KK ρ m1 11 [some (vR 84), some (vI (1 + (i : Int)))] []) 200 ?_ (fun i hi ihi => ?_) 0 (Nat.zero_le _) _ ⟨hR2, hT6, hD6, fun j h9 => absurd h9 (Nat.not_lt_zero _)⟩
  · intro m1 hinv
    obtain ⟨hRi, hTi, hDi, hno⟩ := hinv
    have hσi := daysP_WS (hl := hl) (tl := tl) hW hσ (Int.le_refl 0) (200)
    refine tz_iload1 (n := 12) (g_at ck_X11_round 7 rfl) rfl ?_
    refine tz_sipush (n := 15) (g_at ck_X11_round 8 rfl) rfl rfl ?_
    refine tz_icmp_gt (n := 18) (tgt := 39) (g_at ck_X11_round 9 rfl) rfl rfl (by omega) (fun h15 => ?_) (fun h15 => absurd h15 (by omega))
    refine tz_iconst (n := 40) (g_at ck_X11_round 20 rfl) rfl ?_
    exact tz_iret (g_at ck_X11_round 21 rfl) rfl (rI_mk ⟨rfl, hRi, hk0.tr (mK.fd hDi), by rw [hDi.1 84 (by decide), h00], Or.inl ⟨rfl, hno⟩⟩)
  · intro m1 hinv
    obtain ⟨hRi, hTi, hDi, hno⟩ := hinv
    have hσi := daysP_WS (hl := hl) (tl := tl) hW hσ (Int.le_refl 0) i
    refine tz_iload1 (n := 12) (g_at ck_X11_round 7 rfl) rfl ?_
    refine tz_sipush (n := 15) (g_at ck_X11_round 8 rfl) rfl rfl ?_
    refine tz_icmp_gt (n := 18) (tgt := 39) (g_at ck_X11_round 9 rfl) rfl rfl (by omega) (fun h15 => absurd h15 (by omega)) (fun h15 => ?_)
    refine tz_aload0 (n := 19) (g_at ck_X11_round 10 rfl) rfl (g_ne kd_84) ?_
    refine tz_bipush (n := 21) (g_at ck_X11_round 11 rfl) rfl rfl ?_
    refine tz_cvV1 (n := 24) (μ' := μX11_dayGoes) (cb' := 0) (sb' := 0) ml_X11_353 mo_X11_dayGoes mv_X11_dayGoes np_X11_dayGoes kd_84 (g_at ck_X11_round 12 rfl) (mp_dayGoes hL hRi hW (hM0.fr hDi.1 mDay_91) hTi hσi (by omega) (Or.inr rfl) (hw_fr hw0 hDi)) rfl rfl rfl ⟨by decide, by decide⟩ (Nat.le_of_ble_eq_true rfl) (by decide) (by decide) (fun ρ9 m21 hq => ?_)
    obtain ⟨rfl, hR3, hT21, hD21⟩ := hq
    have hT9 : MT m21 35 Λ z00 (daysP Λ hl tl (sig0 s) (i + 1)) := hT21
    have hD9 := hDi.tr hD21
    have hσ9 := daysP_WS (hl := hl) (tl := tl) hW hσ (Int.le_refl 0) (i + 1)
    have hM9 := hM0.fr hD9.1 mDay_91
    have hN1 := hM9.1
    have hN2 := hM9.2.1
    have hlk := asNow hW hM9 ((mK.fd hD9).row hs0) hσ hT9
    refine tz_aload0 (n := 25) (g_at ck_X11_round 13 rfl) rfl (g_ne kd_84) ?_
    refine tz_cvI0 (n := 28) (μ' := μX11_isAsNow) (cb' := 0) (sb' := 0) ml_X11_432 mo_X11_isAsNow mv_X11_isAsNow np_X11_isAsNow kd_84 (g_at ck_X11_round 14 rfl) (mp_isAsNow hL hR3 (by rw [hN2]; omega) (by rw [hN1]; omega)) rfl rfl rfl ⟨by decide, by decide⟩ (Nat.le_of_ble_eq_true rfl) (by decide) (by decide) (fun x25 ρ9 m25 hq => ?_)
    obtain ⟨rfl, hR4, rfl, rfl⟩ := hq
    refine tz_if_eq (n := 31) (tgt := 33) (g_at ck_X11_round 15 rfl) rfl rfl (by have h9 := alF_01 (f := fun c => m21 103 (52 + c)) (g := fun c => m21 103 (17 + c)) (alF_01 (f := fun p => m21 103 (36 + p)) (g := fun p => m21 103 (1 + p)) (Or.inr rfl) (m21 84 2).toNat) (m21 84 1).toNat; omega) (fun h28 => ?_) (fun h28 => ?_)
    · skip
      refine tz_iinc1 (n := 36) (g_at ck_X11_round 18 rfl) rfl (by decide) g_hpR ?_
      refine tz_goto (tgt := 11) (g_at ck_X11_round 19 rfl) rfl ?_
      rw [show 1 + (i : Int) + 1 = 1 + ((i + 1 : Nat) : Int) by omega]
      exact ihi _ ⟨hR4, hT9, hD9, no_step hno (fun h9 => hlk.mpr h9 h28)⟩
    · skip
      refine tz_iload1 (n := 32) (g_at ck_X11_round 16 rfl) rfl ?_
      exact tz_iret (g_at ck_X11_round 17 rfl) rfl (rI_mk ⟨rfl, hR4, hk0.tr (mK.fd hD9), by rw [hD9.1 84 (by decide), h00], Or.inr ⟨i, by omega, by omega, hlk.mp h28, hno⟩⟩)
theorem mp_first {l : Launch} {γ : Gh} {ρ m : Mm} {s : Int → Int} {Λ : Mm} {hl tl : List Int} (hL : LY ρ) (hR : MR m) (hW : WL Λ) (hM : MLand m Λ hl tl) (hs : MRow m s) (hσ : WS Λ 0 (sig0 s)) (hz : m 84 51 = 0) : gE l γ μX11_first 6 0 0 (rI KK fun x ρ9 m9 => ρ = ρ9 ∧ MR m9 ∧ mK m m9 ∧ m9 84 0 = 0 ∧ isFF (fun (j q : Nat) => (daysP Λ hl tl (sig0 s) (j + 1)) 0 (1 + (q : Int)) = Λ 5 (q : Int) ∧ ¬ s (1 + (q : Int)) = Λ 5 (q : Int)) 100 (Λ 0 1).toNat x) xN KK ρ m [vR 84] := by
  refine gE.ofw cl_X11.2 ?_ rfl rfl (Nat.le_of_ble_eq_true rfl)
  show gT l γ μX11_first 6 0 0 _ _ KK ρ m 0 [some (vR 84), none, none, none, none] []
  have hn1 := hW.1
  have hn8 := hW.2.1
  refine tz_aload0 (n := 1) (g_at ck_X11_first 0 rfl) rfl (g_ne kd_84) ?_
  refine tz_iconst (n := 2) (g_at ck_X11_first 1 rfl) rfl ?_
  refine tz_putIr (n := 5) (kz := 0) fk_X11_132 kd_84 (g_at ck_X11_first 2 rfl) rfl hR ⟨(by decide), (by decide)⟩ rfl (fun hR1 => ?_)
  obtain ⟨m0, e0⟩ : ∃ m0, m0 = wr m 84 0 0 := ⟨_, rfl⟩
  rw [← e0] at hR1 ⊢
  have hk0 : mK m m0 := by rw [e0]; exact mK.w0
  have hM0 := hk0.land hM
  have hs0 := hk0.row hs
  have hz0 : m0 84 51 = 0 := hk0.w51.trans hz
  have h00 : m0 84 0 = 0 := by rw [e0, wr_same]
  have hw0 := hw_0 hz0
  refine tz_aload0 (n := 6) (g_at ck_X11_first 3 rfl) rfl (g_ne kd_84) ?_
  refine tz_cvV0 (n := 9) (μ' := μX11_tries) (cb' := 0) (sb' := 0) ml_X11_356 mo_X11_tries mv_X11_tries np_X11_tries kd_84 (g_at ck_X11_first 4 rfl) (mp_tries (Λ := Λ) hL hR1 hs0) rfl rfl rfl ⟨by decide, by decide⟩ (Nat.le_of_ble_eq_true rfl) (by decide) (by decide) (fun ρ9 m6 hq => ?_)
  obtain ⟨rfl, hR2, hT6, hD6⟩ := hq
  refine tz_aload0 (n := 10) (g_at ck_X11_first 5 rfl) rfl (g_ne kd_84) ?_
  refine tz_iconst (n := 11) (g_at ck_X11_first 6 rfl) rfl ?_
  refine tz_cvI1 (n := 14) (μ' := μX11_homeOnes) (cb' := 0) (sb' := 0) ml_X11_381 mo_X11_homeOnes mv_X11_homeOnes np_X11_homeOnes kd_84 (g_at ck_X11_first 7 rfl) (mp_homeOnes hL hR2 (by rw [hD6.1 84 (by decide), hM0.2.1]; omega) (Or.inl rfl)) rfl rfl rfl ⟨by decide, by decide⟩ (Nat.le_of_ble_eq_true rfl) (by decide) (by decide) (fun x11 ρ9 m11 hq => ?_)
  obtain ⟨rfl, hR3, rfl, rfl⟩ := hq
  rw [home_M0 hW (hM0.fr hD6.1 mDay_91) ((mK.fd hD6).row hs0)]
  refine tz_istore1 (n := 15) (g_at ck_X11_first 8 rfl) rfl (by decide) g_hpR ?_
  refine tz_iconst (n := 16) (g_at ck_X11_first 9 rfl) rfl ?_
  refine tz_istore2 (n := 17) (g_at ck_X11_first 10 rfl) rfl (by decide) g_hpI ?_
  refine g_for (fun i : Nat => ∀ m1 : Mm, (MR m1 ∧ MT m1 35 Λ z00 (daysP Λ hl tl (sig0 s) (i)) ∧ FD 35 m0 m1 ∧ ∀ j : Nat, j < i → ∀ q : Nat, q < (Λ 0 1).toNat → ¬ (fun (j q : Nat) => (daysP Λ hl tl (sig0 s) (j + 1)) 0 (1 + (q : Int)) = Λ 5 (q : Int) ∧ ¬ s (1 + (q : Int)) = Λ 5 (q : Int)) j q) → gT l γ μX11_first 6 0 0 _ _ KK ρ m1 17 [some (vR 84), some (vI (homB Λ (sig0 s))), some (vI (1 + (i : Int))), none, none] []) 100 ?_ (fun i hi ihi => ?_) 0 (Nat.zero_le _) _ ⟨hR3, hT6, hD6, fun j hj => absurd hj (Nat.not_lt_zero j)⟩
  · intro m1 hinv
    obtain ⟨hRi, hTi, hDi, hno⟩ := hinv
    have hσi := daysP_WS (hl := hl) (tl := tl) hW hσ (Int.le_refl 0) (100)
    refine tz_iload2 (n := 18) (g_at ck_X11_first 11 rfl) rfl ?_
    refine tz_bipush (n := 20) (g_at ck_X11_first 12 rfl) rfl rfl ?_
    refine tz_icmp_gt (n := 23) (tgt := 77) (g_at ck_X11_first 13 rfl) rfl rfl (by omega) (fun h20 => ?_) (fun h20 => absurd h20 (by omega))
    refine tz_iconst (n := 78) (g_at ck_X11_first 44 rfl) rfl ?_
    exact tz_iret (g_at ck_X11_first 45 rfl) rfl (rI_mk ⟨rfl, hRi, hk0.tr (mK.fd hDi), by rw [hDi.1 84 (by decide), h00], Or.inl ⟨rfl, hno⟩⟩)
  · intro m1 hinv
    obtain ⟨hRi, hTi, hDi, hno⟩ := hinv
    have hσi := daysP_WS (hl := hl) (tl := tl) hW hσ (Int.le_refl 0) i
    refine tz_iload2 (n := 18) (g_at ck_X11_first 11 rfl) rfl ?_
    refine tz_bipush (n := 20) (g_at ck_X11_first 12 rfl) rfl rfl ?_
    refine tz_icmp_gt (n := 23) (tgt := 77) (g_at ck_X11_first 13 rfl) rfl rfl (by omega) (fun h20 => absurd h20 (by omega)) (fun h20 => ?_)
    refine tz_aload0 (n := 24) (g_at ck_X11_first 14 rfl) rfl (g_ne kd_84) ?_
    refine tz_bipush (n := 26) (g_at ck_X11_first 15 rfl) rfl rfl ?_
    refine tz_cvV1 (n := 29) (μ' := μX11_dayGoes) (cb' := 0) (sb' := 0) ml_X11_353 mo_X11_dayGoes mv_X11_dayGoes np_X11_dayGoes kd_84 (g_at ck_X11_first 16 rfl) (mp_dayGoes hL hRi hW (hM0.fr hDi.1 mDay_91) hTi hσi (by omega) (Or.inr rfl) (hw_fr hw0 hDi)) rfl rfl rfl ⟨by decide, by decide⟩ (Nat.le_of_ble_eq_true rfl) (by decide) (by decide) (fun ρ9 m26 hq => ?_)
    obtain ⟨rfl, hR4, hT26, hD26⟩ := hq
    have hT9 : MT m26 35 Λ z00 (daysP Λ hl tl (sig0 s) (i + 1)) := hT26
    have hD9 := hDi.tr hD26
    have hσ9 := daysP_WS (hl := hl) (tl := tl) hW hσ (Int.le_refl 0) (i + 1)
    have hM9 := hM0.fr hD9.1 mDay_91
    have hN2 := hM9.2.1
    refine tz_aload0 (n := 30) (g_at ck_X11_first 17 rfl) rfl (g_ne kd_84) ?_
    refine tz_bipush (n := 32) (g_at ck_X11_first 18 rfl) rfl rfl ?_
    refine tz_cvI1 (n := 35) (μ' := μX11_homeOnes) (cb' := 0) (sb' := 0) ml_X11_381 mo_X11_homeOnes mv_X11_homeOnes np_X11_homeOnes kd_84 (g_at ck_X11_first 19 rfl) (mp_homeOnes hL hR4 (by rw [hN2]; omega) (Or.inr rfl)) rfl rfl rfl ⟨by decide, by decide⟩ (Nat.le_of_ble_eq_true rfl) (by decide) (by decide) (fun x32 ρ9 m32 hq => ?_)
    obtain ⟨rfl, hR5, rfl, rfl⟩ := hq
    rw [home_M (b := 35) hW hM9 hT9]
    refine tz_iload1 (n := 36) (g_at ck_X11_first 20 rfl) rfl ?_
    refine tz_iconst (n := 37) (g_at ck_X11_first 21 rfl) rfl ?_
    refine tz_ixor (n := 38) (g_at ck_X11_first 22 rfl) rfl ?_
    refine tz_iand (n := 39) (g_at ck_X11_first 23 rfl) rfl ?_
    refine tz_istore3 (n := 40) (g_at ck_X11_first 24 rfl) rfl (by decide) g_hpI ?_
    refine tz_iconst (n := 41) (g_at ck_X11_first 25 rfl) rfl ?_
    refine tz_istore4 (n := 43) (g_at ck_X11_first 26 rfl) rfl (by decide) g_hpI ?_
    refine g_for (fun j : Nat => (∀ q : Nat, q < j → ¬ (fun (j q : Nat) => (daysP Λ hl tl (sig0 s) (j + 1)) 0 (1 + (q : Int)) = Λ 5 (q : Int) ∧ ¬ s (1 + (q : Int)) = Λ 5 (q : Int)) i q) → gT l γ μX11_first 6 0 0 _ _ KK ρ m26 43 [some (vR 84), some (vI (homB Λ (sig0 s))), some (vI (1 + (i : Int))), some (vI (bAnd (homB Λ (daysP Λ hl tl (sig0 s) (i + 1))) (bXor (homB Λ (sig0 s)) (-1)))), some (vI (j : Int))] []) (Λ 0 1).toNat ?_ (fun j hj ihj => ?_) 0 (Nat.zero_le _) (fun q hq => absurd hq (Nat.not_lt_zero q))
    · intro hinv
      refine tz_iload4 (n := 45) (g_at ck_X11_first 27 rfl) rfl ?_
      refine tz_aload0 (n := 46) (g_at ck_X11_first 28 rfl) rfl (g_ne kd_84) ?_
      refine tz_getIw (n := 49) (kz := 2) fk_X11_305 kd_84 (g_at ck_X11_first 29 rfl) rfl rfl ?_
      rw [hN2]
      refine tz_icmp_ge (n := 52) (tgt := 71) (g_at ck_X11_first 30 rfl) rfl rfl (by omega) (fun h49 => ?_) (fun h49 => absurd h49 (by omega))
      refine tz_iinc2 (n := 74) (g_at ck_X11_first 42 rfl) rfl (by decide) g_hpI ?_
      refine tz_goto (tgt := 17) (g_at ck_X11_first 43 rfl) rfl ?_
      refine tz_drop3 ?_
      refine tz_drop4 ?_
      rw [show 1 + (i : Int) + 1 = 1 + ((i + 1 : Nat) : Int) by omega]
      exact ihi _ ⟨hR5, hT9, hD9, no_step2 hno hinv⟩
    · intro hinv
      have hnj := hinv
      have hbt := home_andn (σ := (daysP Λ hl tl (sig0 s) (i + 1))) (τ := sig0 s) hW (p := (j : Int)) (by omega)
      refine tz_iload4 (n := 45) (g_at ck_X11_first 27 rfl) rfl ?_
      refine tz_aload0 (n := 46) (g_at ck_X11_first 28 rfl) rfl (g_ne kd_84) ?_
      refine tz_getIw (n := 49) (kz := 2) fk_X11_305 kd_84 (g_at ck_X11_first 29 rfl) rfl rfl ?_
      rw [hN2]
      refine tz_icmp_ge (n := 52) (tgt := 71) (g_at ck_X11_first 30 rfl) rfl rfl (by omega) (fun h49 => absurd h49 (by omega)) (fun h49 => ?_)
      refine tz_iload3 (n := 53) (g_at ck_X11_first 31 rfl) rfl ?_
      refine tz_iload4 (n := 55) (g_at ck_X11_first 32 rfl) rfl ?_
      refine tz_ishr (n := 56) (g_at ck_X11_first 33 rfl) rfl ?_
      refine tz_iconst (n := 57) (g_at ck_X11_first 34 rfl) rfl ?_
      refine tz_iand (n := 58) (g_at ck_X11_first 35 rfl) rfl ?_
      refine tz_iconst (n := 59) (g_at ck_X11_first 36 rfl) rfl ?_
      refine tz_icmp_ne (n := 62) (tgt := 65) (g_at ck_X11_first 37 rfl) rfl rfl ⟨(bAnd_rg _ _).1, (bAnd_rg _ _).2, by decide, by decide⟩ (fun h59 => ?_) (fun h59 => ?_)
      · skip
        refine tz_iinc4 (n := 68) (g_at ck_X11_first 40 rfl) rfl (by decide) g_hpI ?_
        refine tz_goto (tgt := 43) (g_at ck_X11_first 41 rfl) rfl ?_
        refine ihj fun q hq => ?_
        by_cases e9 : q = j
        · rw [e9]; exact fun h9 => h59 (hbt.mpr h9)
        · exact hnj q (by omega)
      · skip
        refine tz_iload4 (n := 64) (g_at ck_X11_first 38 rfl) rfl ?_
        exact tz_iret (g_at ck_X11_first 39 rfl) rfl (rI_mk ⟨rfl, hR5, hk0.tr (mK.fd hD9), by rw [hD9.1 84 (by decide), h00], Or.inr ⟨i, j, by omega, by omega, hbt.mp h59, rfl, hno, hnj⟩⟩)
theorem mp_homeIn {l : Launch} {γ : Gh} {ρ m : Mm} {p B : Int} {Λ e σ : Mm} {hl tl : List Int} (hL : LY ρ) (hR : MR m) (hW : WL Λ) (hM : MLand m Λ hl tl) (hT : MT m 35 Λ e σ) (hσ : WS Λ B σ) (hB : 0 ≤ B ∧ B < 2000) (hp : 0 ≤ p ∧ p < Λ 0 1) (hz : m 84 51 = 0) : gE l γ μX11_homeIn 4 0 0 (rI KK fun x ρ9 m9 => ρ = ρ9 ∧ MR m9 ∧ FD 35 m m9 ∧ hmX (homF Λ hl tl σ p) = x) xN KK ρ m [vR 84, vI p] := by
  refine gE.ofw cl_X11.2 ?_ rfl rfl (Nat.le_of_ble_eq_true rfl)
  show gT l γ μX11_homeIn 4 0 0 _ _ KK ρ m 0 [some (vR 84), some (vI p), none] []
  have hn8 := hW.2.1
  refine tz_iconst (n := 1) (g_at ck_X11_homeIn 0 rfl) rfl ?_
  refine tz_istore2 (n := 2) (g_at ck_X11_homeIn 1 rfl) rfl (by decide) g_hpI ?_
  refine g_for (fun i : Nat => ∀ m1 : Mm, (MR m1 ∧ MT m1 35 Λ e (daysP Λ hl tl σ i) ∧ FD 35 m m1 ∧ ∀ j : Nat, j < i → ¬ homeAt Λ hl tl σ p j) → gT l γ μX11_homeIn 4 0 0 _ _ KK ρ m1 2 [some (vR 84), some (vI p), some (vI (i : Int))] []) 61 ?_ (fun i hi ihi => ?_) 0 (Nat.zero_le _) _ ⟨hR, hT, FD.rf, fun j h9 => absurd h9 (Nat.not_lt_zero _)⟩
  · intro m1 hinv
    obtain ⟨hRi, hTi, hDi, hno⟩ := hinv
    refine tz_iload2 (n := 3) (g_at ck_X11_homeIn 2 rfl) rfl ?_
    refine tz_bipush (n := 5) (g_at ck_X11_homeIn 3 rfl) rfl rfl ?_
    refine tz_icmp_gt (n := 8) (tgt := 32) (g_at ck_X11_homeIn 4 rfl) rfl rfl ⟨(by omega), (by omega), (by decide), (by decide)⟩ (fun h5 => ?_) (fun h5 => absurd h5 (by omega))
    refine tz_sipush (n := 35) (g_at ck_X11_homeIn 17 rfl) rfl rfl ?_
    exact tz_iret (g_at ck_X11_homeIn 18 rfl) rfl (rI_mk ⟨rfl, hRi, hDi, by rw [isFst_eq (homF_is Λ hl tl σ p) (isFst_no hno)]; rfl⟩)
  · intro m1 hinv
    obtain ⟨hRi, hTi, hDi, hno⟩ := hinv
    have hσi := daysP_WS (hl := hl) (tl := tl) hW hσ hB.1 i
    have hM1 := hM.fr hDi.1 mDay_91
    refine tz_iload2 (n := 3) (g_at ck_X11_homeIn 2 rfl) rfl ?_
    refine tz_bipush (n := 5) (g_at ck_X11_homeIn 3 rfl) rfl rfl ?_
    refine tz_icmp_gt (n := 8) (tgt := 32) (g_at ck_X11_homeIn 4 rfl) rfl rfl ⟨(by omega), (by omega), (by decide), (by decide)⟩ (fun h5 => absurd h5 (by omega)) (fun h5 => ?_)
    refine tz_aload0 (n := 9) (g_at ck_X11_homeIn 5 rfl) rfl (g_ne kd_84) ?_
    refine tz_bipush (n := 11) (g_at ck_X11_homeIn 6 rfl) rfl rfl ?_
    refine tz_iload1 (n := 12) (g_at ck_X11_homeIn 7 rfl) rfl ?_
    refine tz_cvI2 (n := 15) (μ' := μX11_isHome) (cb' := 0) (sb' := 0) ml_X11_345 mo_X11_isHome mv_X11_isHome np_X11_isHome kd_84 (g_at ck_X11_homeIn 8 rfl) (mp_isHome hL hRi (Or.inr rfl) (by omega)) rfl rfl rfl ⟨by decide, by decide⟩ (Nat.le_of_ble_eq_true rfl) (by decide) (by decide) (fun x12 ρ9 m12 hq => ?_)
    obtain ⟨rfl, hR1, rfl, rfl⟩ := hq
    rw [hTi.r (k := 1 + p) (by omega) (by omega), hM1.2.2.2.2.1 p hp.1 hp.2]
    have h01 := hmB_01 (daysP Λ hl tl σ i 0 (1 + p)) (Λ 5 p)
    refine tz_if_eq (n := 18) (tgt := 20) (g_at ck_X11_homeIn 9 rfl) rfl rfl (by omega) (fun h15 => ?_) (fun h15 => ?_)
    · skip
      refine tz_aload0 (n := 21) (g_at ck_X11_homeIn 12 rfl) rfl (g_ne kd_84) ?_
      refine tz_bipush (n := 23) (g_at ck_X11_homeIn 13 rfl) rfl rfl ?_
      refine tz_cvV1 (n := 26) (μ' := μX11_dayGoes) (cb' := 0) (sb' := 0) ml_X11_353 mo_X11_dayGoes mv_X11_dayGoes np_X11_dayGoes kd_84 (g_at ck_X11_homeIn 14 rfl) (mp_dayGoes hL hR1 hW hM1 hTi hσi (by omega) (Or.inr rfl) (hw_fr (hw_0 hz) hDi)) rfl rfl rfl ⟨by decide, by decide⟩ (Nat.le_of_ble_eq_true rfl) (by decide) (by decide) (fun ρ9 m23 hq => ?_)
      obtain ⟨rfl, hR2, hT23, hD23⟩ := hq
      refine tz_iinc2 (n := 29) (g_at ck_X11_homeIn 15 rfl) rfl (by decide) g_hpI ?_
      refine tz_goto (tgt := 2) (g_at ck_X11_homeIn 16 rfl) rfl ?_
      exact ihi _ ⟨hR2, hT23, hDi.tr hD23, no_step hno (hmB_0 h15)⟩
    · skip
      refine tz_iload2 (n := 19) (g_at ck_X11_homeIn 10 rfl) rfl ?_
      exact tz_iret (g_at ck_X11_homeIn 11 rfl) rfl (rI_mk ⟨rfl, hR1, hDi, by rw [isFst_eq (homF_is Λ hl tl σ p) (isFst_at hno hi (hmB_1 h15)), hmX, if_pos (by omega)]⟩)
