/-! The reference: the longest walk. -/
theorem bOr_idem (x y : Int) : bOr (bOr x y) y = bOr x y := by
  unfold bOr
  rw [Int32.ofInt_toInt, Int32.or_assoc, Int32.or_self]
theorem or_inj {t y z : Nat} (ht : t < 512) (hy : y < 9) (hz : z < 9) (by_ : t.testBit y = false) (e : bOr (t : Int) (bShl 1 (y : Int)) = bOr (t : Int) (bShl 1 (z : Int))) : y = z := by
  have p1 : 2 ^ y ≤ 2 ^ 8 := Nat.pow_le_pow_right (by decide) (by omega)
  have p2 : 2 ^ z ≤ 2 ^ 8 := Nat.pow_le_pow_right (by decide) (by omega)
  rw [bShl_1 y (by omega), bShl_1 z (by omega), bOr_nn (by omega) (by omega), bOr_nn (by omega) (by omega)] at e
  have e' : t ||| 2 ^ y = t ||| 2 ^ z := by omega
  have k : (t ||| 2 ^ z).testBit y = true := by rw [← e', Nat.testBit_or, Nat.testBit_two_pow_self, Bool.or_true]
  rw [Nat.testBit_or, by_, Bool.false_or, Nat.testBit_two_pow] at k
  exact (of_decide_eq_true k).symm
theorem or_ne {t z : Nat} (ht : t < 512) (hz : z < 9) (hb : t.testBit z = false) : (t : Int) ≠ bOr (t : Int) (bShl 1 (z : Int)) := fun e => by
  have p2 : 2 ^ z ≤ 2 ^ 8 := Nat.pow_le_pow_right (by decide) (by omega)
  rw [bShl_1 z (by omega), bOr_nn (by omega) (by omega)] at e
  have e' : t ||| 2 ^ z = t := by omega
  have k : (t ||| 2 ^ z).testBit z = true := by rw [Nat.testBit_or, Nat.testBit_two_pow_self, Bool.or_true]
  rw [e', hb] at k
  exact absurd k (by decide)
/-- U is T, and each z of Q added where t and z are -/
def Ch (t : Nat) (T U : Int → Int) (Q : Nat → Prop) : Prop := (∀ z : Nat, Q z → z < 9 ∧ t.testBit z = false) ∧ ∀ j : Int, (∃ z : Nat, Q z ∧ j = bOr (t : Int) (bShl 1 (z : Int)) ∧ U j = bOr (T j) (bShl 1 (z : Int))) ∨ ((∀ z : Nat, Q z → j ≠ bOr (t : Int) (bShl 1 (z : Int))) ∧ U j = T j)
theorem Ch.no {t : Nat} {T : Int → Int} {Q : Nat → Prop} (h : ∀ z, ¬ Q z) : Ch t T T Q := ⟨fun z h9 => absurd h9 (h z), fun j => Or.inr ⟨fun z h9 => absurd h9 (h z), rfl⟩⟩
theorem Ch.co {t : Nat} {T U : Int → Int} {Q Q' : Nat → Prop} (h : Ch t T U Q) (e : ∀ z, Q z ↔ Q' z) : Ch t T U Q' := by
  have : Q = Q' := funext fun z => propext (e z)
  rw [← this]
  exact h
theorem Ch.add {t z : Nat} {T U : Int → Int} {Q : Nat → Prop} (ht : t < 512) (h : Ch t T U Q) (hz : z < 9) (hb : t.testBit z = false) : Ch t T (up U (bOr (t : Int) (bShl 1 (z : Int))) (bOr (U (bOr (t : Int) (bShl 1 (z : Int)))) (bShl 1 (z : Int)))) (fun y => Q y ∨ y = z) := by
  refine ⟨fun y hy => ?_, fun j => ?_⟩
  · rcases hy with hy | hy
    · exact h.1 y hy
    · rw [hy]; exact ⟨hz, hb⟩
  · by_cases ej : j = bOr (t : Int) (bShl 1 (z : Int))
    · refine Or.inl ⟨z, Or.inr rfl, ej, ?_⟩
      rw [← ej, up_at]
      rcases h.2 j with ⟨y, h1, h2, h3⟩ | ⟨_, h3⟩
      · have : y = z := or_inj ht (h.1 y h1).1 hz (h.1 y h1).2 (h2.symm.trans ej)
        rw [h3, this, bOr_idem]
      · rw [h3]
    · rw [up_ne ej]
      rcases h.2 j with ⟨y, h1, h2, h3⟩ | ⟨h1, h3⟩
      · exact Or.inl ⟨y, Or.inl h1, h2, h3⟩
      · refine Or.inr ⟨fun y hy => ?_, h3⟩
        rcases hy with hy | hy
        · exact h1 y hy
        · rw [hy]; exact ej
theorem Ch.uq {t : Nat} {T U V : Int → Int} {Q : Nat → Prop} (ht : t < 512) (h : Ch t T U Q) (k : Ch t T V Q) : U = V := funext fun j => by
  rcases h.2 j with ⟨y, h1, h2, h3⟩ | ⟨h1, h3⟩
  · rcases k.2 j with ⟨z, k1, k2, k3⟩ | ⟨k1, k3⟩
    · have : y = z := or_inj ht (h.1 y h1).1 (h.1 z k1).1 (h.1 y h1).2 (h2.symm.trans k2)
      rw [h3, k3, this]
    · exact absurd h2 (k1 y h1)
  · rcases k.2 j with ⟨z, k1, k2, k3⟩ | ⟨k1, k3⟩
    · exact absurd k2 (h1 z k1)
    · rw [h3, k3]
theorem Ch.t {t : Nat} {T U : Int → Int} {Q : Nat → Prop} (ht : t < 512) (h : Ch t T U Q) : U (t : Int) = T (t : Int) := by
  rcases h.2 (t : Int) with ⟨y, h1, h2, h3⟩ | ⟨h1, h3⟩
  · exact absurd h2 (or_ne ht (h.1 y h1).1 (h.1 y h1).2)
  · exact h3
def mkZ (Λ : Mm) (s : Int → Int) (t a : Int) (U : Int → Int) (n : Nat) : Int → Int := fd (fun z U => if bAnd (bShr t (z : Int)) 1 = 0 then (if bAnd (bShr (wyW Λ s 2 a) (z : Int)) 1 = 0 then U else up U (bOr t (bShl 1 (z : Int))) (bOr (U (bOr t (bShl 1 (z : Int)))) (bShl 1 (z : Int)))) else U) U n
def mkA (Λ : Mm) (s : Int → Int) (t : Int) (U : Int → Int) (n : Nat) : Int → Int := fd (fun a U => if bAnd (bShr (U t) (a : Int)) 1 = 0 then U else mkZ Λ s t (a : Int) U (Λ 0 0).toNat) U n
theorem bit_f {t z : Nat} (ht : t < 512) (hz : z < 9) : bAnd (bShr (t : Int) (z : Int)) 1 = 0 ↔ t.testBit z = false := by
  rw [bBit (by omega) (by omega)]
  cases t.testBit z <;> decide
theorem mkZ_ch {Λ : Mm} {s : Int → Int} {t : Nat} {a : Int} {T U : Int → Int} {Q : Nat → Prop} (ht : t < 512) (h : Ch t T U Q) : ∀ n : Nat, n ≤ 9 → Ch t T (mkZ Λ s (t : Int) a U n) (fun z => Q z ∨ (z < n ∧ t.testBit z = false ∧ ¬ bAnd (bShr (wyW Λ s 2 a) (z : Int)) 1 = 0))
  | 0, _ => h.co fun z => ⟨Or.inl, fun k => k.elim id fun k => absurd k.1 (Nat.not_lt_zero z)⟩
  | n + 1, hn => by
    have ih := mkZ_ch (Λ := Λ) (s := s) (a := a) ht h n (by omega)
    have e : mkZ Λ s (t : Int) a U (n + 1) = if bAnd (bShr (t : Int) (n : Int)) 1 = 0 then (if bAnd (bShr (wyW Λ s 2 a) (n : Int)) 1 = 0 then mkZ Λ s (t : Int) a U n else up (mkZ Λ s (t : Int) a U n) (bOr (t : Int) (bShl 1 (n : Int))) (bOr (mkZ Λ s (t : Int) a U n (bOr (t : Int) (bShl 1 (n : Int)))) (bShl 1 (n : Int)))) else mkZ Λ s (t : Int) a U n := rfl
    rw [e]
    have bf := bit_f (t := t) (z := n) ht (by omega)
    by_cases h1 : bAnd (bShr (t : Int) (n : Int)) 1 = 0
    · rw [if_pos h1]
      by_cases h2 : bAnd (bShr (wyW Λ s 2 a) (n : Int)) 1 = 0
      · rw [if_pos h2]
        refine ih.co fun z => ⟨fun k => k.imp_right fun k => ⟨by omega, k.2⟩, fun k => k.imp_right fun k => ⟨?_, k.2⟩⟩
        by_cases ez : z = n
        · rw [ez] at k; exact absurd h2 k.2.2
        · omega
      · rw [if_neg h2]
        refine (ih.add ht (by omega) (bf.mp h1)).co fun z => ⟨?_, ?_⟩
        · rintro ((k | k) | k)
          · exact Or.inl k
          · exact Or.inr ⟨by omega, k.2⟩
          · rw [k]; exact Or.inr ⟨by omega, bf.mp h1, h2⟩
        · rintro (k | k)
          · exact Or.inl (Or.inl k)
          · by_cases ez : z = n
            · exact Or.inr ez
            · exact Or.inl (Or.inr ⟨by omega, k.2⟩)
    · rw [if_neg h1]
      refine ih.co fun z => ⟨fun k => k.imp_right fun k => ⟨by omega, k.2⟩, fun k => k.imp_right fun k => ⟨?_, k.2⟩⟩
      by_cases ez : z = n
      · rw [ez] at k; exact absurd (bf.mpr k.2.1) h1
      · omega
theorem mkA_ch {Λ : Mm} {s : Int → Int} {t : Nat} {T : Int → Int} (hW : WL Λ) (ht : t < 512) : ∀ n : Nat, Ch t T (mkA Λ s (t : Int) T n) (fun z => ∃ a : Nat, a < n ∧ ¬ bAnd (bShr (T (t : Int)) (a : Int)) 1 = 0 ∧ z < (Λ 0 0).toNat ∧ t.testBit z = false ∧ ¬ bAnd (bShr (wyW Λ s 2 (a : Int)) (z : Int)) 1 = 0)
  | 0 => Ch.no fun z ⟨a, h, _⟩ => absurd h (Nat.not_lt_zero a)
  | n + 1 => by
    have h0 := hW.1
    have ih := mkA_ch (s := s) (T := T) hW ht n
    have e : mkA Λ s (t : Int) T (n + 1) = if bAnd (bShr (mkA Λ s (t : Int) T n (t : Int)) (n : Int)) 1 = 0 then mkA Λ s (t : Int) T n else mkZ Λ s (t : Int) (n : Int) (mkA Λ s (t : Int) T n) (Λ 0 0).toNat := rfl
    rw [e, ih.t ht]
    by_cases h1 : bAnd (bShr (T (t : Int)) (n : Int)) 1 = 0
    · rw [if_pos h1]
      refine ih.co fun z => ⟨fun ⟨a, k1, k2⟩ => ⟨a, by omega, k2⟩, fun ⟨a, k1, k2⟩ => ⟨a, ?_, k2⟩⟩
      by_cases ea : a = n
      · rw [ea] at k2; exact absurd h1 k2.1
      · omega
    · rw [if_neg h1]
      refine (mkZ_ch ht ih (Λ 0 0).toNat (by omega)).co fun z => ⟨?_, ?_⟩
      · rintro (⟨a, k1, k2⟩ | k)
        · exact ⟨a, by omega, k2⟩
        · exact ⟨n, by omega, h1, k⟩
      · rintro ⟨a, k1, k2⟩
        by_cases ea : a = n
        · rw [ea] at k2; exact Or.inr k2.2
        · exact Or.inl ⟨a, by omega, k2⟩
theorem wkF_bit {Λ : Mm} {s : Int → Int} {t : Nat} {v : Int} (hW : WL Λ) (ht : t < 512) : ∀ n : Nat, (n : Int) ≤ Λ 0 0 → ∃ f : Nat, f < 512 ∧ wkF (wyW Λ s) (t : Int) v n = (f : Int) ∧ ∀ z : Nat, f.testBit z = true ↔ ∃ a : Nat, a < n ∧ bAnd (bShr v (a : Int)) 1 = 1 ∧ t.testBit z = false ∧ ∃ w : Nat, w < 512 ∧ wyW Λ s 2 (a : Int) = (w : Int) ∧ w.testBit z = true
  | 0, _ => ⟨0, by decide, rfl, fun z => by
    rw [Nat.zero_testBit]
    exact ⟨fun h => absurd h (by decide), fun ⟨a, h, _⟩ => absurd h (Nat.not_lt_zero a)⟩⟩
  | n + 1, hn => by
    obtain ⟨f, hf, e, hb⟩ := wkF_bit (s := s) (v := v) hW ht n (by omega)
    have hc : 0 ≤ (n : Int) ∧ (n : Int) < Λ 0 0 := by omega
    have hcw := hW.2.2.1 (n : Int) hc.1 hc.2
    obtain ⟨w, hw, ew, _⟩ := nx_bit (s := s) hW hc (Λ 3 (n : Int)).toNat (by omega)
    rw [← wyW_2 hc] at ew
    have e2 : wkF (wyW Λ s) (t : Int) v (n + 1) = if bAnd (bShr v (n : Int)) 1 = 1 then bOr (wkF (wyW Λ s) (t : Int) v n) (bAnd (wyW Λ s 2 (n : Int)) (bXor (t : Int) (-1))) else wkF (wyW Λ s) (t : Int) v n := rfl
    by_cases h1 : bAnd (bShr v (n : Int)) 1 = 1
    · have g1 : w &&& t < 512 := Nat.lt_of_le_of_lt Nat.and_le_left hw
      have g2 : w ^^^ (w &&& t) < 512 := Nat.xor_lt_two_pow (n := 9) hw g1
      refine ⟨f ||| (w ^^^ (w &&& t)), Nat.or_lt_two_pow (n := 9) hf g2, ?_, fun z => ?_⟩
      · rw [e2, if_pos h1, e, ew, andN, bAnd_nn (by omega) (by omega), bXor_nn (by omega) (by omega), bOr_nn (by omega) (by omega)]
      · rw [Nat.testBit_or, Bool.or_eq_true, hb z, Nat.testBit_xor, Nat.testBit_and]
        constructor
        · rintro (⟨a, k1, k2⟩ | k)
          · exact ⟨a, by omega, k2⟩
          · refine ⟨n, by omega, h1, ?_, w, hw, ew, ?_⟩
            · revert k
              cases w.testBit z <;> cases t.testBit z <;> decide
            · revert k
              cases w.testBit z <;> cases t.testBit z <;> decide
        · rintro ⟨a, k1, k2, k3, w', k4, k5, k6⟩
          by_cases ea : a = n
          · right
            rw [ea, ew] at k5
            have : w = w' := by omega
            rw [this, k6, k3]
            rfl
          · left
            exact ⟨a, by omega, k2, k3, w', k4, k5, k6⟩
    · refine ⟨f, hf, by rw [e2, if_neg h1]; exact e, fun z => ?_⟩
      rw [hb z]
      constructor
      · rintro ⟨a, k1, k2⟩
        exact ⟨a, by omega, k2⟩
      · rintro ⟨a, k1, k2⟩
        by_cases ea : a = n
        · rw [ea] at k2; exact absurd k2.1 h1
        · exact ⟨a, by omega, k2⟩
theorem wkT_ch {t f : Nat} {T : Int → Int} (ht : t < 512) (hf : ∀ z : Nat, f.testBit z = true → t.testBit z = false) (hf5 : f < 512) : ∀ n : Nat, n ≤ 9 → Ch t T (wkT (t : Int) (f : Int) T n) (fun z => z < n ∧ f.testBit z = true)
  | 0, _ => Ch.no fun z h => absurd h.1 (Nat.not_lt_zero z)
  | n + 1, hn => by
    have ih := wkT_ch (T := T) ht hf hf5 n (by omega)
    have e : wkT (t : Int) (f : Int) T (n + 1) = if bAnd (bShr (f : Int) (n : Int)) 1 = 1 then up (wkT (t : Int) (f : Int) T n) (bOr (t : Int) (bShl 1 (n : Int))) (bOr (wkT (t : Int) (f : Int) T n (bOr (t : Int) (bShl 1 (n : Int)))) (bShl 1 (n : Int))) else wkT (t : Int) (f : Int) T n := rfl
    have bf : bAnd (bShr (f : Int) (n : Int)) 1 = 1 ↔ f.testBit n = true := by
      rw [bBit (by omega) (by omega)]
      cases f.testBit n <;> decide
    rw [e]
    by_cases h1 : bAnd (bShr (f : Int) (n : Int)) 1 = 1
    · rw [if_pos h1]
      refine (ih.add ht (by omega) (hf n (bf.mp h1))).co fun z => ⟨?_, fun k => ?_⟩
      · rintro (k | k)
        · exact ⟨by omega, k.2⟩
        · rw [k]; exact ⟨by omega, bf.mp h1⟩
      · by_cases ez : z = n
        · exact Or.inr ez
        · exact Or.inl ⟨by omega, k.2⟩
    · rw [if_neg h1]
      refine ih.co fun z => ⟨fun k => ⟨by omega, k.2⟩, fun k => ⟨?_, k.2⟩⟩
      by_cases ez : z = n
      · rw [ez] at k; exact absurd (bf.mpr k.2) h1
      · omega
theorem mk_wk {Λ : Mm} {s : Int → Int} {t : Nat} {T : Int → Int} (hW : WL Λ) (ht : t < 512) : mkA Λ s (t : Int) T (Λ 0 0).toNat = wkO Λ s (t : Int) T := by
  have h0 := hW.1
  have h1 := mkA_ch (s := s) (T := T) hW ht (Λ 0 0).toNat
  obtain ⟨f, hf, e, hb⟩ := wkF_bit (s := s) (t := t) (v := T (t : Int)) hW ht (Λ 0 0).toNat (by omega)
  have h2 := wkT_ch (T := T) ht (fun z hz => ((hb z).mp hz).choose_spec.2.2.1) hf (Λ 0 0).toNat (by omega)
  unfold wkO
  rw [e]
  refine h1.uq ht (h2.co fun z => ?_)
  rw [hb z]
  constructor
  · rintro ⟨k0, a, k1, k2, k3, w, k4, k5, k6⟩
    refine ⟨a, k1, by omega, k0, k3, ?_⟩
    rw [k5, bBit (by omega) (by omega), k6]
    decide
  · rintro ⟨a, k1, k2, k0, k3, k4⟩
    have hc : 0 ≤ (a : Int) ∧ (a : Int) < Λ 0 0 := by omega
    have hcw := hW.2.2.1 (a : Int) hc.1 hc.2
    obtain ⟨w, hw, ew, _⟩ := nx_bit (s := s) hW hc (Λ 3 (a : Int)).toNat (by omega)
    rw [← wyW_2 hc] at ew
    have b1 := bt01 (T (t : Int)) a
    refine ⟨k0, a, k1, by omega, k3, w, hw, ew, ?_⟩
    rw [ew, bBit (by omega) (by omega)] at k4
    revert k4
    cases w.testBit z <;> decide
theorem mp_longest {l : Launch} {γ : Gh} {ρ m : Mm} {c : Int} {s : Int → Int} {Λ : Mm} {hl tl : List Int} (hL : LY ρ) (hR : MR m) (hW : WL Λ) (hM : MLand m Λ hl tl) (hs : MRow m s) (hσ : WS Λ 0 (sig0 s)) (hc : 0 ≤ c ∧ c < Λ 0 0) : gE l γ μX11_longest 2 0 0 (rI KK fun x ρ9 m9 => ρ = ρ9 ∧ MR m9 ∧ Fr [114] m m9 ∧ (lgN Λ s c (2 ^ (Λ 0 0).toNat)).1 = x) xN KK ρ m [vR 84, vI c] := by
  refine gE.ofw cl_X11.2 ?_ rfl rfl (Nat.le_of_ble_eq_true rfl)
  show gT l γ μX11_longest 2 0 0 _ _ KK ρ m 0 [some (vR 84), some (vI c), none, none, none, none] []
  have hn1 := hW.1
  have hsh := shN hn1
  have hs2 := shN (n := c) (by omega)
  have hs3 : bShl 1 c < ((2 ^ (Λ 0 0).toNat : Nat) : Int) := by rw [hs2.1]; have : 2 ^ c.toNat < 2 ^ (Λ 0 0).toNat := Nat.pow_lt_pow_right (by decide) (by omega); omega
  refine tz_iconst (n := 1) (g_at ck_X11_longest 0 rfl) rfl ?_
  refine tz_istore2 (n := 2) (g_at ck_X11_longest 1 rfl) rfl (by decide) g_hpI ?_
  refine tz_iconst (n := 3) (g_at ck_X11_longest 2 rfl) rfl ?_
  refine tz_istore3 (n := 4) (g_at ck_X11_longest 3 rfl) rfl (by decide) g_hpI ?_
  suffices hlp : ∀ i : Nat, i ≤ 512 → gT l γ μX11_longest 2 0 0 _ _ KK ρ (fil m 114 i 0) 4 [some (vR 84), some (vI c), some (vI 0), some (vI (i : Int)), none, none] [] by
    have h0 := hlp 0 (Nat.zero_le _)
    rw [fil_0] at h0
    exact h0
  refine g_for (fun i : Nat => gT l γ μX11_longest 2 0 0 _ _ KK ρ (fil m 114 i 0) 4 [some (vR 84), some (vI c), some (vI 0), some (vI (i : Int)), none, none] []) 512 ?_ (fun i hi ihi => ?_)
  · skip
    refine tz_iload3 (n := 5) (g_at ck_X11_longest 4 rfl) rfl ?_
    refine tz_sipush (n := 8) (g_at ck_X11_longest 5 rfl) rfl rfl ?_
    refine tz_icmp_ge (n := 11) (tgt := 24) (g_at ck_X11_longest 6 rfl) rfl rfl (by omega) (fun h8 => ?_) (fun h8 => absurd h8 (by omega))
    refine tz_aload0 (n := 25) (g_at ck_X11_longest 14 rfl) rfl (g_ne kd_84) ?_
    refine tz_getAv (n := 28) (a := 114) fk_X11_108 kd_84 (ly_84_56 hL) (g_at ck_X11_longest 15 rfl) rfl ?_
    refine tz_iconst (n := 29) (g_at ck_X11_longest 16 rfl) rfl ?_
    refine tz_iload1 (n := 30) (g_at ck_X11_longest 17 rfl) rfl ?_
    refine tz_ishl (n := 31) (g_at ck_X11_longest 18 rfl) rfl ?_
    refine tz_iconst (n := 32) (g_at ck_X11_longest 19 rfl) rfl ?_
    refine tz_iload1 (n := 33) (g_at ck_X11_longest 20 rfl) rfl ?_
    refine tz_ishl (n := 34) (g_at ck_X11_longest 21 rfl) rfl ?_
    refine tz_iastr (n := 35) kd_114 (by omega) (g_at ck_X11_longest 22 rfl) rfl (hR.fil (by decide)) ⟨(bShl_rg _ _).1, (bShl_rg _ _).2⟩ (fun hR1 => ?_)
    refine tz_iconst (n := 36) (g_at ck_X11_longest 23 rfl) rfl ?_
    refine tz_istore3 (n := 37) (g_at ck_X11_longest 24 rfl) rfl (by decide) g_hpI ?_
    refine g_for (fun i : Nat => ∀ m3 : Mm, (MR m3 ∧ Fr [114] m m3 ∧ ∀ y, 0 ≤ y → y < ((2 ^ (Λ 0 0).toNat : Nat) : Int) → m3 114 y = (lgN Λ s c i).2 y) → gT l γ μX11_longest 2 0 0 _ _ KK ρ m3 37 [some (vR 84), some (vI c), some (vI (lgN Λ s c i).1), some (vI (i : Int)), none, none] []) (2 ^ (Λ 0 0).toNat) ?_ (fun i hi ihi => ?_) 0 (Nat.zero_le _) _ ⟨hR1, (Fr.rf.fil (by decide)).wr (by decide), up_row (fun j h1 h2 => fil_at (by omega)) rfl⟩
    · intro m3 hinv
      obtain ⟨hR3, hF3, hK3⟩ := hinv
      have hM3 := hM.fr hF3 (by decide)
      refine tz_iload3 (n := 38) (g_at ck_X11_longest 25 rfl) rfl ?_
      refine tz_iconst (n := 39) (g_at ck_X11_longest 26 rfl) rfl ?_
      refine tz_aload0 (n := 40) (g_at ck_X11_longest 27 rfl) rfl (g_ne kd_84) ?_
      refine tz_getIw (n := 43) (kz := 1) fk_X11_302 kd_84 (g_at ck_X11_longest 28 rfl) rfl rfl ?_
      refine tz_ishl (n := 44) (g_at ck_X11_longest 29 rfl) rfl ?_
      rw [hM3.1]
      refine tz_icmp_ge (n := 47) (tgt := 177) (g_at ck_X11_longest 30 rfl) rfl rfl ⟨by omega, by omega, by omega, by omega⟩ (fun h44 => ?_) (fun h44 => absurd h44 (by omega))
      refine tz_iload2 (n := 178) (g_at ck_X11_longest 103 rfl) rfl ?_
      exact tz_iret (g_at ck_X11_longest 104 rfl) rfl (rI_mk ⟨rfl, hR3, hF3, rfl⟩)
    · intro m3 hinv
      obtain ⟨hR3, hF3, hK3⟩ := hinv
      have hM3 := hM.fr hF3 (by decide)
      have hlg := lgN_rg (Λ := Λ) (s := s) (c := c) i (by omega)
      refine tz_iload3 (n := 38) (g_at ck_X11_longest 25 rfl) rfl ?_
      refine tz_iconst (n := 39) (g_at ck_X11_longest 26 rfl) rfl ?_
      refine tz_aload0 (n := 40) (g_at ck_X11_longest 27 rfl) rfl (g_ne kd_84) ?_
      refine tz_getIw (n := 43) (kz := 1) fk_X11_302 kd_84 (g_at ck_X11_longest 28 rfl) rfl rfl ?_
      refine tz_ishl (n := 44) (g_at ck_X11_longest 29 rfl) rfl ?_
      rw [hM3.1]
      refine tz_icmp_ge (n := 47) (tgt := 177) (g_at ck_X11_longest 30 rfl) rfl rfl ⟨by omega, by omega, by omega, by omega⟩ (fun h44 => absurd h44 (by omega)) (fun h44 => ?_)
      refine tz_aload0 (n := 48) (g_at ck_X11_longest 31 rfl) rfl (g_ne kd_84) ?_
      refine tz_getAv (n := 51) (a := 114) fk_X11_108 kd_84 (ly_84_56 hL) (g_at ck_X11_longest 32 rfl) rfl ?_
      refine tz_iload3 (n := 52) (g_at ck_X11_longest 33 rfl) rfl ?_
      refine tz_iald (n := 53) kd_114 (by omega) (g_at ck_X11_longest 34 rfl) rfl ?_
      rw [hK3 (i : Int) (by omega) (by omega)]
      refine tz_if_ne (n := 56) (tgt := 59) (g_at ck_X11_longest 35 rfl) rfl rfl (by rw [← hK3 (i : Int) (by omega) (by omega)]; exact hR3 _ _) (fun h53 => ?_) (fun h53 => ?_)
      · skip
        refine tz_iload3 (n := 60) (g_at ck_X11_longest 37 rfl) rfl ?_
        refine tz_csI1 (n := 63) (μ' := μX11_bits) (cb' := 0) (sb' := 0) ml_X11_329 mo_X11_bits ms_X11_bits np_X11_bits (g_at ck_X11_longest 38 rfl) (mp_bits hR3) rfl rfl ⟨by decide, by decide⟩ (Nat.le_of_ble_eq_true rfl) (by decide) (by decide) (fun x60 ρ9 m60 hq => ?_)
        obtain ⟨rfl, hR2, rfl, rfl⟩ := hq
        rw [bitsM_bc i (by omega)]
        have hb9 := bcJ_9 i (by omega)
        refine tz_iconst (n := 64) (g_at ck_X11_longest 39 rfl) rfl ?_
        refine tz_isub (n := 65) (g_at ck_X11_longest 40 rfl) rfl ?_
        refine tz_iload2 (n := 66) (g_at ck_X11_longest 41 rfl) rfl ?_
        refine tz_icmp_le (n := 69) (tgt := 78) (g_at ck_X11_longest 42 rfl) rfl rfl (by omega) (fun h66 => ?_) (fun h66 => ?_)
        · skip
          refine tz_iload2 (n := 79) (g_at ck_X11_longest 48 rfl) rfl ?_
          refine tz_istore2 (n := 80) (g_at ck_X11_longest 49 rfl) rfl (by decide) g_hpI ?_
          refine tz_iconst (n := 81) (g_at ck_X11_longest 50 rfl) rfl ?_
          refine tz_istore4 (n := 83) (g_at ck_X11_longest 51 rfl) rfl (by decide) g_hpI ?_
          refine g_for (fun j : Nat => ∀ m4 : Mm, (MR m4 ∧ Fr [114] m m4 ∧ ∀ y, 0 ≤ y → y < ((2 ^ (Λ 0 0).toNat : Nat) : Int) → m4 114 y = (mkA Λ s (i : Int) (lgN Λ s c i).2 j) y) → gT l γ μX11_longest 2 0 0 _ _ KK ρ m4 83 [some (vR 84), some (vI c), some (vI (lgN Λ s c i).1), some (vI (i : Int)), some (vI (j : Int)), none] []) (Λ 0 0).toNat ?_ (fun j hj ihj => ?_) 0 (Nat.zero_le _) _ ⟨hR2, hF3, hK3⟩
          · intro m4 hinv
            obtain ⟨hR4, hF4, hK4⟩ := hinv
            have hM4 := hM.fr hF4 (by decide)
            refine tz_iload4 (n := 85) (g_at ck_X11_longest 52 rfl) rfl ?_
            refine tz_aload0 (n := 86) (g_at ck_X11_longest 53 rfl) rfl (g_ne kd_84) ?_
            refine tz_getIw (n := 89) (kz := 1) fk_X11_302 kd_84 (g_at ck_X11_longest 54 rfl) rfl rfl ?_
            rw [hM4.1]
            refine tz_icmp_ge (n := 92) (tgt := 171) (g_at ck_X11_longest 55 rfl) rfl rfl (by omega) (fun h89 => ?_) (fun h89 => absurd h89 (by omega))
            refine tz_iinc3 (n := 174) (g_at ck_X11_longest 101 rfl) rfl (by decide) g_hpI ?_
            refine tz_goto (tgt := 37) (g_at ck_X11_longest 102 rfl) rfl ?_
            refine tz_drop4 ?_
            have e9 : lgN Λ s c (i + 1) = ((if (lgN Λ s c i).1 < bcJ (i : Int) - 1 then bcJ (i : Int) - 1 else (lgN Λ s c i).1), wkO Λ s (i : Int) (lgN Λ s c i).2) := if_neg h53
            exact gT_eq (ihi _ ⟨hR4, hF4, by rw [e9, ← mk_wk hW (by omega)]; exact hK4⟩) rfl (by rw [e9, show (if (lgN Λ s c i).1 < bcJ (i : Int) - 1 then bcJ (i : Int) - 1 else (lgN Λ s c i).1) = (lgN Λ s c i).1 from if_neg (by omega)]; rfl)
          · intro m4 hinv
            obtain ⟨hR4, hF4, hK4⟩ := hinv
            have hM4 := hM.fr hF4 (by decide)
            refine tz_iload4 (n := 85) (g_at ck_X11_longest 52 rfl) rfl ?_
            refine tz_aload0 (n := 86) (g_at ck_X11_longest 53 rfl) rfl (g_ne kd_84) ?_
            refine tz_getIw (n := 89) (kz := 1) fk_X11_302 kd_84 (g_at ck_X11_longest 54 rfl) rfl rfl ?_
            rw [hM4.1]
            refine tz_icmp_ge (n := 92) (tgt := 171) (g_at ck_X11_longest 55 rfl) rfl rfl (by omega) (fun h89 => absurd h89 (by omega)) (fun h89 => ?_)
            refine tz_aload0 (n := 93) (g_at ck_X11_longest 56 rfl) rfl (g_ne kd_84) ?_
            refine tz_getAv (n := 96) (a := 114) fk_X11_108 kd_84 (ly_84_56 hL) (g_at ck_X11_longest 57 rfl) rfl ?_
            refine tz_iload3 (n := 97) (g_at ck_X11_longest 58 rfl) rfl ?_
            refine tz_iald (n := 98) kd_114 (by omega) (g_at ck_X11_longest 59 rfl) rfl ?_
            rw [hK4 (i : Int) (by omega) (by omega)]
            refine tz_iload4 (n := 100) (g_at ck_X11_longest 60 rfl) rfl ?_
            refine tz_ishr (n := 101) (g_at ck_X11_longest 61 rfl) rfl ?_
            refine tz_iconst (n := 102) (g_at ck_X11_longest 62 rfl) rfl ?_
            refine tz_iand (n := 103) (g_at ck_X11_longest 63 rfl) rfl ?_
            refine tz_if_ne (n := 106) (tgt := 109) (g_at ck_X11_longest 64 rfl) rfl rfl (bAnd_rg _ _) (fun h103 => ?_) (fun h103 => ?_)
            · skip
              refine tz_iconst (n := 110) (g_at ck_X11_longest 66 rfl) rfl ?_
              refine tz_istore5 (n := 112) (g_at ck_X11_longest 67 rfl) rfl (by decide) g_hpI ?_
              refine g_for (fun k : Nat => ∀ m5 : Mm, (MR m5 ∧ Fr [114] m m5 ∧ ∀ y, 0 ≤ y → y < ((2 ^ (Λ 0 0).toNat : Nat) : Int) → m5 114 y = (mkZ Λ s (i : Int) (j : Int) (mkA Λ s (i : Int) (lgN Λ s c i).2 j) k) y) → gT l γ μX11_longest 2 0 0 _ _ KK ρ m5 112 [some (vR 84), some (vI c), some (vI (lgN Λ s c i).1), some (vI (i : Int)), some (vI (j : Int)), some (vI (k : Int))] []) (Λ 0 0).toNat ?_ (fun k hk ihk => ?_) 0 (Nat.zero_le _) _ ⟨hR4, hF4, hK4⟩
              · intro m5 hinv
                obtain ⟨hR5, hF5, hK5⟩ := hinv
                have hM5 := hM.fr hF5 (by decide)
                refine tz_iload5 (n := 114) (g_at ck_X11_longest 68 rfl) rfl ?_
                refine tz_aload0 (n := 115) (g_at ck_X11_longest 69 rfl) rfl (g_ne kd_84) ?_
                refine tz_getIw (n := 118) (kz := 1) fk_X11_302 kd_84 (g_at ck_X11_longest 70 rfl) rfl rfl ?_
                rw [hM5.1]
                refine tz_icmp_ge (n := 121) (tgt := 165) (g_at ck_X11_longest 71 rfl) rfl rfl (by omega) (fun h118 => ?_) (fun h118 => absurd h118 (by omega))
                refine tz_iinc4 (n := 168) (g_at ck_X11_longest 99 rfl) rfl (by decide) g_hpI ?_
                refine tz_goto (tgt := 83) (g_at ck_X11_longest 100 rfl) rfl ?_
                refine tz_drop5 ?_
                have e9 : mkA Λ s (i : Int) (lgN Λ s c i).2 (j + 1) = mkZ Λ s (i : Int) (j : Int) (mkA Λ s (i : Int) (lgN Λ s c i).2 j) (Λ 0 0).toNat := if_neg h103
                exact ihj _ ⟨hR5, hF5, by rw [e9]; exact hK5⟩
              · intro m5 hinv
                obtain ⟨hR5, hF5, hK5⟩ := hinv
                have hM5 := hM.fr hF5 (by decide)
                have hs5 := (mK.l hF5 (by decide)).row hs
                have hbo := bor_lt (t := i) (z := k) (n := (Λ 0 0).toNat) (by omega) (by omega) (by omega)
                refine tz_iload5 (n := 114) (g_at ck_X11_longest 68 rfl) rfl ?_
                refine tz_aload0 (n := 115) (g_at ck_X11_longest 69 rfl) rfl (g_ne kd_84) ?_
                refine tz_getIw (n := 118) (kz := 1) fk_X11_302 kd_84 (g_at ck_X11_longest 70 rfl) rfl rfl ?_
                rw [hM5.1]
                refine tz_icmp_ge (n := 121) (tgt := 165) (g_at ck_X11_longest 71 rfl) rfl rfl (by omega) (fun h118 => absurd h118 (by omega)) (fun h118 => ?_)
                refine tz_iload3 (n := 122) (g_at ck_X11_longest 72 rfl) rfl ?_
                refine tz_iload5 (n := 124) (g_at ck_X11_longest 73 rfl) rfl ?_
                refine tz_ishr (n := 125) (g_at ck_X11_longest 74 rfl) rfl ?_
                refine tz_iconst (n := 126) (g_at ck_X11_longest 75 rfl) rfl ?_
                refine tz_iand (n := 127) (g_at ck_X11_longest 76 rfl) rfl ?_
                refine tz_if_ne (n := 130) (tgt := 159) (g_at ck_X11_longest 77 rfl) rfl rfl (bAnd_rg _ _) (fun h127 => ?_) (fun h127 => ?_)
                · skip
                  refine tz_iinc5 (n := 162) (g_at ck_X11_longest 97 rfl) rfl (by decide) g_hpI ?_
                  refine tz_goto (tgt := 112) (g_at ck_X11_longest 98 rfl) rfl ?_
                  have e9 : mkZ Λ s (i : Int) (j : Int) (mkA Λ s (i : Int) (lgN Λ s c i).2 j) (k + 1) = (mkZ Λ s (i : Int) (j : Int) (mkA Λ s (i : Int) (lgN Λ s c i).2 j) k) := if_neg h127
                  exact ihk _ ⟨hR5, hF5, by rw [e9]; exact hK5⟩
                · skip
                  refine tz_aload0 (n := 131) (g_at ck_X11_longest 78 rfl) rfl (g_ne kd_84) ?_
                  refine tz_iload4 (n := 133) (g_at ck_X11_longest 79 rfl) rfl ?_
                  refine tz_iload5 (n := 135) (g_at ck_X11_longest 80 rfl) rfl ?_
                  refine tz_cvI2 (n := 138) (μ' := μX11_doesLead) (cb' := 0) (sb' := 0) ml_X11_447 mo_X11_doesLead mv_X11_doesLead np_X11_doesLead kd_84 (g_at ck_X11_longest 81 rfl) (mp_doesLead hL hR5 hW hM5 hs5 hσ (by omega) (by omega)) rfl rfl rfl ⟨by decide, by decide⟩ (Nat.le_of_ble_eq_true rfl) (by decide) (by decide) (fun x135 ρ9 m135 hq => ?_)
                  obtain ⟨rfl, hR3, rfl, rfl⟩ := hq
                  have d01 := bt01 (wyW Λ s 2 (j : Int)) k
                  refine tz_if_eq (n := 141) (tgt := 159) (g_at ck_X11_longest 82 rfl) rfl rfl (by omega) (fun h138 => ?_) (fun h138 => ?_)
                  · skip
                    refine tz_iinc5 (n := 162) (g_at ck_X11_longest 97 rfl) rfl (by decide) g_hpI ?_
                    refine tz_goto (tgt := 112) (g_at ck_X11_longest 98 rfl) rfl ?_
                    have e9 : mkZ Λ s (i : Int) (j : Int) (mkA Λ s (i : Int) (lgN Λ s c i).2 j) (k + 1) = (mkZ Λ s (i : Int) (j : Int) (mkA Λ s (i : Int) (lgN Λ s c i).2 j) k) := (if_pos h127).trans (if_pos h138)
                    exact ihk _ ⟨hR3, hF5, by rw [e9]; exact hK5⟩
                  · skip
                    refine tz_aload0 (n := 142) (g_at ck_X11_longest 83 rfl) rfl (g_ne kd_84) ?_
                    refine tz_getAv (n := 145) (a := 114) fk_X11_108 kd_84 (ly_84_56 hL) (g_at ck_X11_longest 84 rfl) rfl ?_
                    refine tz_iload3 (n := 146) (g_at ck_X11_longest 85 rfl) rfl ?_
                    refine tz_iconst (n := 147) (g_at ck_X11_longest 86 rfl) rfl ?_
                    refine tz_iload5 (n := 149) (g_at ck_X11_longest 87 rfl) rfl ?_
                    refine tz_ishl (n := 150) (g_at ck_X11_longest 88 rfl) rfl ?_
                    refine tz_ior (n := 151) (g_at ck_X11_longest 89 rfl) rfl ?_
                    refine tz_dup2 (n := 152) (g_at ck_X11_longest 90 rfl) rfl ?_
                    refine tz_iald (n := 153) kd_114 (by omega) (g_at ck_X11_longest 91 rfl) rfl ?_
                    rw [hK5 _ (by omega) (by omega)]
                    refine tz_iconst (n := 154) (g_at ck_X11_longest 92 rfl) rfl ?_
                    refine tz_iload5 (n := 156) (g_at ck_X11_longest 93 rfl) rfl ?_
                    refine tz_ishl (n := 157) (g_at ck_X11_longest 94 rfl) rfl ?_
                    refine tz_ior (n := 158) (g_at ck_X11_longest 95 rfl) rfl ?_
                    refine tz_iastr (n := 159) kd_114 (by omega) (g_at ck_X11_longest 96 rfl) rfl hR3 ⟨(bOr_rg _ _).1, (bOr_rg _ _).2⟩ (fun hR4 => ?_)
                    refine tz_iinc5 (n := 162) (g_at ck_X11_longest 97 rfl) rfl (by decide) g_hpI ?_
                    refine tz_goto (tgt := 112) (g_at ck_X11_longest 98 rfl) rfl ?_
                    have e9 : mkZ Λ s (i : Int) (j : Int) (mkA Λ s (i : Int) (lgN Λ s c i).2 j) (k + 1) = up (mkZ Λ s (i : Int) (j : Int) (mkA Λ s (i : Int) (lgN Λ s c i).2 j) k) (bOr (i : Int) (bShl 1 (k : Int))) (bOr ((mkZ Λ s (i : Int) (j : Int) (mkA Λ s (i : Int) (lgN Λ s c i).2 j) k) (bOr (i : Int) (bShl 1 (k : Int)))) (bShl 1 (k : Int))) := (if_pos h127).trans (if_neg h138)
                    exact ihk _ ⟨hR4, hF5.wrc, by rw [e9]; exact up_row hK5 rfl⟩
            · skip
              refine tz_goto (tgt := 165) (g_at ck_X11_longest 65 rfl) rfl ?_
              refine tz_iinc4 (n := 168) (g_at ck_X11_longest 99 rfl) rfl (by decide) g_hpI ?_
              refine tz_goto (tgt := 83) (g_at ck_X11_longest 100 rfl) rfl ?_
              have e9 : mkA Λ s (i : Int) (lgN Λ s c i).2 (j + 1) = (mkA Λ s (i : Int) (lgN Λ s c i).2 j) := if_pos h103
              exact ihj _ ⟨hR4, hF4, by rw [e9]; exact hK4⟩
        · skip
          refine tz_iload3 (n := 70) (g_at ck_X11_longest 43 rfl) rfl ?_
          refine tz_csI1 (n := 73) (μ' := μX11_bits) (cb' := 0) (sb' := 0) ml_X11_329 mo_X11_bits ms_X11_bits np_X11_bits (g_at ck_X11_longest 44 rfl) (mp_bits hR2) rfl rfl ⟨by decide, by decide⟩ (Nat.le_of_ble_eq_true rfl) (by decide) (by decide) (fun x70 ρ9 m70 hq => ?_)
          obtain ⟨rfl, hR5, rfl, rfl⟩ := hq
          rw [bitsM_bc i (by omega)]
          refine tz_iconst (n := 74) (g_at ck_X11_longest 45 rfl) rfl ?_
          refine tz_isub (n := 75) (g_at ck_X11_longest 46 rfl) rfl ?_
          refine tz_goto (tgt := 79) (g_at ck_X11_longest 47 rfl) rfl ?_
          refine tz_istore2 (n := 80) (g_at ck_X11_longest 49 rfl) rfl (by decide) g_hpI ?_
          refine tz_iconst (n := 81) (g_at ck_X11_longest 50 rfl) rfl ?_
          refine tz_istore4 (n := 83) (g_at ck_X11_longest 51 rfl) rfl (by decide) g_hpI ?_
          refine g_for (fun j : Nat => ∀ m4 : Mm, (MR m4 ∧ Fr [114] m m4 ∧ ∀ y, 0 ≤ y → y < ((2 ^ (Λ 0 0).toNat : Nat) : Int) → m4 114 y = (mkA Λ s (i : Int) (lgN Λ s c i).2 j) y) → gT l γ μX11_longest 2 0 0 _ _ KK ρ m4 83 [some (vR 84), some (vI c), some (vI (bcJ (i : Int) - 1)), some (vI (i : Int)), some (vI (j : Int)), none] []) (Λ 0 0).toNat ?_ (fun j hj ihj => ?_) 0 (Nat.zero_le _) _ ⟨hR5, hF3, hK3⟩
          · intro m4 hinv
            obtain ⟨hR4, hF4, hK4⟩ := hinv
            have hM4 := hM.fr hF4 (by decide)
            refine tz_iload4 (n := 85) (g_at ck_X11_longest 52 rfl) rfl ?_
            refine tz_aload0 (n := 86) (g_at ck_X11_longest 53 rfl) rfl (g_ne kd_84) ?_
            refine tz_getIw (n := 89) (kz := 1) fk_X11_302 kd_84 (g_at ck_X11_longest 54 rfl) rfl rfl ?_
            rw [hM4.1]
            refine tz_icmp_ge (n := 92) (tgt := 171) (g_at ck_X11_longest 55 rfl) rfl rfl (by omega) (fun h89 => ?_) (fun h89 => absurd h89 (by omega))
            refine tz_iinc3 (n := 174) (g_at ck_X11_longest 101 rfl) rfl (by decide) g_hpI ?_
            refine tz_goto (tgt := 37) (g_at ck_X11_longest 102 rfl) rfl ?_
            refine tz_drop4 ?_
            have e9 : lgN Λ s c (i + 1) = ((if (lgN Λ s c i).1 < bcJ (i : Int) - 1 then bcJ (i : Int) - 1 else (lgN Λ s c i).1), wkO Λ s (i : Int) (lgN Λ s c i).2) := if_neg h53
            exact gT_eq (ihi _ ⟨hR4, hF4, by rw [e9, ← mk_wk hW (by omega)]; exact hK4⟩) rfl (by rw [e9, show (if (lgN Λ s c i).1 < bcJ (i : Int) - 1 then bcJ (i : Int) - 1 else (lgN Λ s c i).1) = bcJ (i : Int) - 1 from if_pos (by omega)]; rfl)
          · intro m4 hinv
            obtain ⟨hR4, hF4, hK4⟩ := hinv
            have hM4 := hM.fr hF4 (by decide)
            refine tz_iload4 (n := 85) (g_at ck_X11_longest 52 rfl) rfl ?_
            refine tz_aload0 (n := 86) (g_at ck_X11_longest 53 rfl) rfl (g_ne kd_84) ?_
            refine tz_getIw (n := 89) (kz := 1) fk_X11_302 kd_84 (g_at ck_X11_longest 54 rfl) rfl rfl ?_
            rw [hM4.1]
            refine tz_icmp_ge (n := 92) (tgt := 171) (g_at ck_X11_longest 55 rfl) rfl rfl (by omega) (fun h89 => absurd h89 (by omega)) (fun h89 => ?_)
            refine tz_aload0 (n := 93) (g_at ck_X11_longest 56 rfl) rfl (g_ne kd_84) ?_
            refine tz_getAv (n := 96) (a := 114) fk_X11_108 kd_84 (ly_84_56 hL) (g_at ck_X11_longest 57 rfl) rfl ?_
            refine tz_iload3 (n := 97) (g_at ck_X11_longest 58 rfl) rfl ?_
            refine tz_iald (n := 98) kd_114 (by omega) (g_at ck_X11_longest 59 rfl) rfl ?_
            rw [hK4 (i : Int) (by omega) (by omega)]
            refine tz_iload4 (n := 100) (g_at ck_X11_longest 60 rfl) rfl ?_
            refine tz_ishr (n := 101) (g_at ck_X11_longest 61 rfl) rfl ?_
            refine tz_iconst (n := 102) (g_at ck_X11_longest 62 rfl) rfl ?_
            refine tz_iand (n := 103) (g_at ck_X11_longest 63 rfl) rfl ?_
            refine tz_if_ne (n := 106) (tgt := 109) (g_at ck_X11_longest 64 rfl) rfl rfl (bAnd_rg _ _) (fun h103 => ?_) (fun h103 => ?_)
            · skip
              refine tz_iconst (n := 110) (g_at ck_X11_longest 66 rfl) rfl ?_
              refine tz_istore5 (n := 112) (g_at ck_X11_longest 67 rfl) rfl (by decide) g_hpI ?_
              refine g_for (fun k : Nat => ∀ m5 : Mm, (MR m5 ∧ Fr [114] m m5 ∧ ∀ y, 0 ≤ y → y < ((2 ^ (Λ 0 0).toNat : Nat) : Int) → m5 114 y = (mkZ Λ s (i : Int) (j : Int) (mkA Λ s (i : Int) (lgN Λ s c i).2 j) k) y) → gT l γ μX11_longest 2 0 0 _ _ KK ρ m5 112 [some (vR 84), some (vI c), some (vI (bcJ (i : Int) - 1)), some (vI (i : Int)), some (vI (j : Int)), some (vI (k : Int))] []) (Λ 0 0).toNat ?_ (fun k hk ihk => ?_) 0 (Nat.zero_le _) _ ⟨hR4, hF4, hK4⟩
              · intro m5 hinv
                obtain ⟨hR5, hF5, hK5⟩ := hinv
                have hM5 := hM.fr hF5 (by decide)
                refine tz_iload5 (n := 114) (g_at ck_X11_longest 68 rfl) rfl ?_
                refine tz_aload0 (n := 115) (g_at ck_X11_longest 69 rfl) rfl (g_ne kd_84) ?_
                refine tz_getIw (n := 118) (kz := 1) fk_X11_302 kd_84 (g_at ck_X11_longest 70 rfl) rfl rfl ?_
                rw [hM5.1]
                refine tz_icmp_ge (n := 121) (tgt := 165) (g_at ck_X11_longest 71 rfl) rfl rfl (by omega) (fun h118 => ?_) (fun h118 => absurd h118 (by omega))
                refine tz_iinc4 (n := 168) (g_at ck_X11_longest 99 rfl) rfl (by decide) g_hpI ?_
                refine tz_goto (tgt := 83) (g_at ck_X11_longest 100 rfl) rfl ?_
                refine tz_drop5 ?_
                have e9 : mkA Λ s (i : Int) (lgN Λ s c i).2 (j + 1) = mkZ Λ s (i : Int) (j : Int) (mkA Λ s (i : Int) (lgN Λ s c i).2 j) (Λ 0 0).toNat := if_neg h103
                exact ihj _ ⟨hR5, hF5, by rw [e9]; exact hK5⟩
              · intro m5 hinv
                obtain ⟨hR5, hF5, hK5⟩ := hinv
                have hM5 := hM.fr hF5 (by decide)
                have hs5 := (mK.l hF5 (by decide)).row hs
                have hbo := bor_lt (t := i) (z := k) (n := (Λ 0 0).toNat) (by omega) (by omega) (by omega)
                refine tz_iload5 (n := 114) (g_at ck_X11_longest 68 rfl) rfl ?_
                refine tz_aload0 (n := 115) (g_at ck_X11_longest 69 rfl) rfl (g_ne kd_84) ?_
                refine tz_getIw (n := 118) (kz := 1) fk_X11_302 kd_84 (g_at ck_X11_longest 70 rfl) rfl rfl ?_
                rw [hM5.1]
                refine tz_icmp_ge (n := 121) (tgt := 165) (g_at ck_X11_longest 71 rfl) rfl rfl (by omega) (fun h118 => absurd h118 (by omega)) (fun h118 => ?_)
                refine tz_iload3 (n := 122) (g_at ck_X11_longest 72 rfl) rfl ?_
                refine tz_iload5 (n := 124) (g_at ck_X11_longest 73 rfl) rfl ?_
                refine tz_ishr (n := 125) (g_at ck_X11_longest 74 rfl) rfl ?_
                refine tz_iconst (n := 126) (g_at ck_X11_longest 75 rfl) rfl ?_
                refine tz_iand (n := 127) (g_at ck_X11_longest 76 rfl) rfl ?_
                refine tz_if_ne (n := 130) (tgt := 159) (g_at ck_X11_longest 77 rfl) rfl rfl (bAnd_rg _ _) (fun h127 => ?_) (fun h127 => ?_)
                · skip
                  refine tz_iinc5 (n := 162) (g_at ck_X11_longest 97 rfl) rfl (by decide) g_hpI ?_
                  refine tz_goto (tgt := 112) (g_at ck_X11_longest 98 rfl) rfl ?_
                  have e9 : mkZ Λ s (i : Int) (j : Int) (mkA Λ s (i : Int) (lgN Λ s c i).2 j) (k + 1) = (mkZ Λ s (i : Int) (j : Int) (mkA Λ s (i : Int) (lgN Λ s c i).2 j) k) := if_neg h127
                  exact ihk _ ⟨hR5, hF5, by rw [e9]; exact hK5⟩
                · skip
                  refine tz_aload0 (n := 131) (g_at ck_X11_longest 78 rfl) rfl (g_ne kd_84) ?_
                  refine tz_iload4 (n := 133) (g_at ck_X11_longest 79 rfl) rfl ?_
                  refine tz_iload5 (n := 135) (g_at ck_X11_longest 80 rfl) rfl ?_
                  refine tz_cvI2 (n := 138) (μ' := μX11_doesLead) (cb' := 0) (sb' := 0) ml_X11_447 mo_X11_doesLead mv_X11_doesLead np_X11_doesLead kd_84 (g_at ck_X11_longest 81 rfl) (mp_doesLead hL hR5 hW hM5 hs5 hσ (by omega) (by omega)) rfl rfl rfl ⟨by decide, by decide⟩ (Nat.le_of_ble_eq_true rfl) (by decide) (by decide) (fun x135 ρ9 m135 hq => ?_)
                  obtain ⟨rfl, hR6, rfl, rfl⟩ := hq
                  have d01 := bt01 (wyW Λ s 2 (j : Int)) k
                  refine tz_if_eq (n := 141) (tgt := 159) (g_at ck_X11_longest 82 rfl) rfl rfl (by omega) (fun h138 => ?_) (fun h138 => ?_)
                  · skip
                    refine tz_iinc5 (n := 162) (g_at ck_X11_longest 97 rfl) rfl (by decide) g_hpI ?_
                    refine tz_goto (tgt := 112) (g_at ck_X11_longest 98 rfl) rfl ?_
                    have e9 : mkZ Λ s (i : Int) (j : Int) (mkA Λ s (i : Int) (lgN Λ s c i).2 j) (k + 1) = (mkZ Λ s (i : Int) (j : Int) (mkA Λ s (i : Int) (lgN Λ s c i).2 j) k) := (if_pos h127).trans (if_pos h138)
                    exact ihk _ ⟨hR6, hF5, by rw [e9]; exact hK5⟩
                  · skip
                    refine tz_aload0 (n := 142) (g_at ck_X11_longest 83 rfl) rfl (g_ne kd_84) ?_
                    refine tz_getAv (n := 145) (a := 114) fk_X11_108 kd_84 (ly_84_56 hL) (g_at ck_X11_longest 84 rfl) rfl ?_
                    refine tz_iload3 (n := 146) (g_at ck_X11_longest 85 rfl) rfl ?_
                    refine tz_iconst (n := 147) (g_at ck_X11_longest 86 rfl) rfl ?_
                    refine tz_iload5 (n := 149) (g_at ck_X11_longest 87 rfl) rfl ?_
                    refine tz_ishl (n := 150) (g_at ck_X11_longest 88 rfl) rfl ?_
                    refine tz_ior (n := 151) (g_at ck_X11_longest 89 rfl) rfl ?_
                    refine tz_dup2 (n := 152) (g_at ck_X11_longest 90 rfl) rfl ?_
                    refine tz_iald (n := 153) kd_114 (by omega) (g_at ck_X11_longest 91 rfl) rfl ?_
                    rw [hK5 _ (by omega) (by omega)]
                    refine tz_iconst (n := 154) (g_at ck_X11_longest 92 rfl) rfl ?_
                    refine tz_iload5 (n := 156) (g_at ck_X11_longest 93 rfl) rfl ?_
                    refine tz_ishl (n := 157) (g_at ck_X11_longest 94 rfl) rfl ?_
                    refine tz_ior (n := 158) (g_at ck_X11_longest 95 rfl) rfl ?_
                    refine tz_iastr (n := 159) kd_114 (by omega) (g_at ck_X11_longest 96 rfl) rfl hR6 ⟨(bOr_rg _ _).1, (bOr_rg _ _).2⟩ (fun hR7 => ?_)
                    refine tz_iinc5 (n := 162) (g_at ck_X11_longest 97 rfl) rfl (by decide) g_hpI ?_
                    refine tz_goto (tgt := 112) (g_at ck_X11_longest 98 rfl) rfl ?_
                    have e9 : mkZ Λ s (i : Int) (j : Int) (mkA Λ s (i : Int) (lgN Λ s c i).2 j) (k + 1) = up (mkZ Λ s (i : Int) (j : Int) (mkA Λ s (i : Int) (lgN Λ s c i).2 j) k) (bOr (i : Int) (bShl 1 (k : Int))) (bOr ((mkZ Λ s (i : Int) (j : Int) (mkA Λ s (i : Int) (lgN Λ s c i).2 j) k) (bOr (i : Int) (bShl 1 (k : Int)))) (bShl 1 (k : Int))) := (if_pos h127).trans (if_neg h138)
                    exact ihk _ ⟨hR7, hF5.wrc, by rw [e9]; exact up_row hK5 rfl⟩
            · skip
              refine tz_goto (tgt := 165) (g_at ck_X11_longest 65 rfl) rfl ?_
              refine tz_iinc4 (n := 168) (g_at ck_X11_longest 99 rfl) rfl (by decide) g_hpI ?_
              refine tz_goto (tgt := 83) (g_at ck_X11_longest 100 rfl) rfl ?_
              have e9 : mkA Λ s (i : Int) (lgN Λ s c i).2 (j + 1) = (mkA Λ s (i : Int) (lgN Λ s c i).2 j) := if_pos h103
              exact ihj _ ⟨hR4, hF4, by rw [e9]; exact hK4⟩
      · skip
        refine tz_goto (tgt := 171) (g_at ck_X11_longest 36 rfl) rfl ?_
        refine tz_iinc3 (n := 174) (g_at ck_X11_longest 101 rfl) rfl (by decide) g_hpI ?_
        refine tz_goto (tgt := 37) (g_at ck_X11_longest 102 rfl) rfl ?_
        have e9 : lgN Λ s c (i + 1) = (lgN Λ s c i) := if_pos h53
        exact gT_eq (ihi _ ⟨hR3, hF3, by rw [e9]; exact hK3⟩) rfl (by rw [e9]; rfl)
  · skip
    refine tz_iload3 (n := 5) (g_at ck_X11_longest 4 rfl) rfl ?_
    refine tz_sipush (n := 8) (g_at ck_X11_longest 5 rfl) rfl rfl ?_
    refine tz_icmp_ge (n := 11) (tgt := 24) (g_at ck_X11_longest 6 rfl) rfl rfl (by omega) (fun h8 => absurd h8 (by omega)) (fun h8 => ?_)
    refine tz_aload0 (n := 12) (g_at ck_X11_longest 7 rfl) rfl (g_ne kd_84) ?_
    refine tz_getAv (n := 15) (a := 114) fk_X11_108 kd_84 (ly_84_56 hL) (g_at ck_X11_longest 8 rfl) rfl ?_
    refine tz_iload3 (n := 16) (g_at ck_X11_longest 9 rfl) rfl ?_
    refine tz_iconst (n := 17) (g_at ck_X11_longest 10 rfl) rfl ?_
    refine tz_iastr (n := 18) kd_114 (by omega) (g_at ck_X11_longest 11 rfl) rfl (hR.fil (by decide)) ⟨(by decide), (by decide)⟩ (fun hR8 => ?_)
    refine tz_iinc3 (n := 21) (g_at ck_X11_longest 12 rfl) rfl (by decide) g_hpI ?_
    refine tz_goto (tgt := 4) (g_at ck_X11_longest 13 rfl) rfl ?_
    rw [fil_s]
    exact ihi
theorem mp_walk {l : Launch} {γ : Gh} {ρ m : Mm} {c w : Int} (hc : -2147483648 ≤ c ∧ c < 2147483648) (hw : -2147483648 ≤ w ∧ w < 2147483648) {s : Int → Int} {Λ : Mm} {hl tl : List Int} (hL : LY ρ) (hR : MR m) (hW : WL Λ) (hM : MLand m Λ hl tl) (hs : MRow m s) (hσ : WS Λ 0 (sig0 s)) (hz : m 84 51 = 0) : gE l γ μX11_walk 3 0 0 (rI KK fun x ρ9 m9 => ρ = ρ9 ∧ MR m9 ∧ mK m m9 ∧ m9 84 0 = sq (cdC Λ c) (cdW w 2) ∧ (sq (cdC Λ c) (cdW w 2) = 0 → (if w = 0 then orN (lpN Λ s c (Λ 0 0).toNat) else if w = 1 then (lgN Λ s c (2 ^ (Λ 0 0).toNat)).1 else wyW Λ s 3 c) = x)) xN KK ρ m [vR 84, vI c, vI w] := by
  refine gE.ofw cl_X11.2 ?_ rfl rfl (Nat.le_of_ble_eq_true rfl)
  show gT l γ μX11_walk 3 0 0 _ _ KK ρ m 0 [some (vR 84), some (vI c), some (vI w)] []
  have hn1 := hW.1
  have hn8 := hW.2.1
  refine tz_aload0 (n := 1) (g_at ck_X11_walk 0 rfl) rfl (g_ne kd_84) ?_
  refine tz_iconst (n := 2) (g_at ck_X11_walk 1 rfl) rfl ?_
  refine tz_putIr (n := 5) (kz := 0) fk_X11_132 kd_84 (g_at ck_X11_walk 2 rfl) rfl hR ⟨(by decide), (by decide)⟩ rfl (fun hR1 => ?_)
  obtain ⟨m0, e0⟩ : ∃ m0, m0 = wr m 84 0 0 := ⟨_, rfl⟩
  rw [← e0] at hR1 ⊢
  have hk0 : mK m m0 := by rw [e0]; exact mK.w0
  have hM0 := hk0.land hM
  have hs0 := hk0.row hs
  have hz0 : m0 84 51 = 0 := hk0.w51.trans hz
  have h00 : m0 84 0 = 0 := by rw [e0, wr_same]
  have hw0 := hw_0 hz0
  refine tz_aload0 (n := 6) (g_at ck_X11_walk 3 rfl) rfl (g_ne kd_84) ?_
  refine tz_iload1 (n := 7) (g_at ck_X11_walk 4 rfl) rfl ?_
  refine tz_cvI1 (n := 10) (μ' := μX11_isCrossing) (cb' := 0) (sb' := 0) ml_X11_393 mo_X11_isCrossing mv_X11_isCrossing np_X11_isCrossing kd_84 (g_at ck_X11_walk 5 rfl) (mp_isCrossing hc hL hR1 hW hM0 h00) rfl rfl rfl ⟨by decide, by decide⟩ (Nat.le_of_ble_eq_true rfl) (by decide) (by decide) (fun x7 ρ9 m7 hq => ?_)
  obtain ⟨rfl, hR2, hq7⟩ := hq
  refine tz_if_eq (n := 13) (tgt := 22) (g_at ck_X11_walk 6 rfl) rfl rfl (by rcases hq7.b01 with h9 | h9 <;> omega) (fun h10 => ?_) (fun h10 => ?_)
  · skip
    refine tz_iconst (n := 23) (g_at ck_X11_walk 12 rfl) rfl ?_
    exact tz_iret (g_at ck_X11_walk 13 rfl) rfl (rI_mk ⟨rfl, hR2, by rw [(hq7.no h10).2]; exact hk0.tr mK.w0, by rw [(hq7.no h10).2, wr_same, sqn (hq7.no h10).1], fun h9 => absurd h9 (by rw [sqn (hq7.no h10).1]; exact (hq7.no h10).1)⟩)
  · skip
    obtain ⟨hc0, rfl⟩ := hq7.ok h10
    have hi0 := cdC_i hc0
    refine tz_aload0 (n := 14) (g_at ck_X11_walk 7 rfl) rfl (g_ne kd_84) ?_
    refine tz_iload2 (n := 15) (g_at ck_X11_walk 8 rfl) rfl ?_
    refine tz_iconst (n := 16) (g_at ck_X11_walk 9 rfl) rfl ?_
    refine tz_cvI2 (n := 19) (μ' := μX11_isWhat) (cb' := 0) (sb' := 0) ml_X11_396 mo_X11_isWhat mv_X11_isWhat np_X11_isWhat kd_84 (g_at ck_X11_walk 10 rfl) (mp_isWhat hw (by decide) hL hR2 h00) rfl rfl rfl ⟨by decide, by decide⟩ (Nat.le_of_ble_eq_true rfl) (by decide) (by decide) (fun x16 ρ9 m16 hq => ?_)
    obtain ⟨rfl, hR3, hq16⟩ := hq
    refine tz_if_ne (n := 22) (tgt := 24) (g_at ck_X11_walk 11 rfl) rfl rfl (by rcases hq16.b01 with h9 | h9 <;> omega) (fun h19 => ?_) (fun h19 => ?_)
    · skip
      obtain ⟨hc1, rfl⟩ := hq16.ok h19
      have hi1 := cdW_i hc1
      refine tz_iload2 (n := 25) (g_at ck_X11_walk 14 rfl) rfl ?_
      refine tz_if_ne (n := 28) (tgt := 36) (g_at ck_X11_walk 15 rfl) rfl rfl hw (fun h25 => ?_) (fun h25 => ?_)
      · skip
        refine tz_iload2 (n := 37) (g_at ck_X11_walk 20 rfl) rfl ?_
        refine tz_iconst (n := 38) (g_at ck_X11_walk 21 rfl) rfl ?_
        refine tz_icmp_ne (n := 41) (tgt := 49) (g_at ck_X11_walk 22 rfl) rfl rfl (by omega) (fun h38 => ?_) (fun h38 => ?_)
        · skip
          refine tz_aload0 (n := 50) (g_at ck_X11_walk 27 rfl) rfl (g_ne kd_84) ?_
          refine tz_iload1 (n := 51) (g_at ck_X11_walk 28 rfl) rfl ?_
          refine tz_cvI1 (n := 54) (μ' := μX11_balance) (cb' := 0) (sb' := 0) ml_X11_456 mo_X11_balance mv_X11_balance np_X11_balance kd_84 (g_at ck_X11_walk 29 rfl) (mp_balance hL hR3 hW hM0 hs0 hσ hi0) rfl rfl rfl ⟨by decide, by decide⟩ (Nat.le_of_ble_eq_true rfl) (by decide) (by decide) (fun x51 ρ9 m51 hq => ?_)
          obtain ⟨rfl, hR4, rfl, rfl⟩ := hq
          exact tz_iret (g_at ck_X11_walk 30 rfl) rfl (rI_mk ⟨rfl, hR4, hk0, by rw [h00, hc0, hc1]; rfl, fun _ => (if_neg h25).trans (if_neg h38)⟩)
        · skip
          refine tz_aload0 (n := 42) (g_at ck_X11_walk 23 rfl) rfl (g_ne kd_84) ?_
          refine tz_iload1 (n := 43) (g_at ck_X11_walk 24 rfl) rfl ?_
          refine tz_cvI1 (n := 46) (μ' := μX11_longest) (cb' := 0) (sb' := 0) ml_X11_453 mo_X11_longest mv_X11_longest np_X11_longest kd_84 (g_at ck_X11_walk 25 rfl) (mp_longest hL hR3 hW hM0 hs0 hσ hi0) rfl rfl rfl ⟨by decide, by decide⟩ (Nat.le_of_ble_eq_true rfl) (by decide) (by decide) (fun x43 ρ9 m43 hq => ?_)
          obtain ⟨rfl, hR5, hF43, hx43⟩ := hq
          refine tz_goto (tgt := 54) (g_at ck_X11_walk 26 rfl) rfl ?_
          exact tz_iret (g_at ck_X11_walk 30 rfl) rfl (rI_mk ⟨rfl, hR5, hk0.tr (mK.l hF43 (by decide)), by rw [hF43 84 (by decide), h00, hc0, hc1]; rfl, fun _ => ((if_neg h25).trans (if_pos h38)).trans hx43⟩)
      · skip
        refine tz_aload0 (n := 29) (g_at ck_X11_walk 16 rfl) rfl (g_ne kd_84) ?_
        refine tz_iload1 (n := 30) (g_at ck_X11_walk 17 rfl) rfl ?_
        refine tz_cvI1 (n := 33) (μ' := μX11_loop) (cb' := 0) (sb' := 0) ml_X11_450 mo_X11_loop mv_X11_loop np_X11_loop kd_84 (g_at ck_X11_walk 18 rfl) (mp_loop hL hR3 hW hM0 hs0 hσ hz0 hi0) rfl rfl rfl ⟨by decide, by decide⟩ (Nat.le_of_ble_eq_true rfl) (by decide) (by decide) (fun x30 ρ9 m30 hq => ?_)
        obtain ⟨rfl, hR6, hF30, hx30⟩ := hq
        refine tz_goto (tgt := 54) (g_at ck_X11_walk 19 rfl) rfl ?_
        exact tz_iret (g_at ck_X11_walk 30 rfl) rfl (rI_mk ⟨rfl, hR6, hk0.tr (mK.l hF30 (by decide)), by rw [hF30 84 (by decide), h00, hc0, hc1]; rfl, fun _ => (if_pos h25).trans hx30⟩)
    · skip
      refine tz_iconst (n := 23) (g_at ck_X11_walk 12 rfl) rfl ?_
      exact tz_iret (g_at ck_X11_walk 13 rfl) rfl (rI_mk ⟨rfl, hR3, by rw [(hq16.no h19).2]; exact hk0.tr mK.w0, by rw [(hq16.no h19).2, wr_same, hc0, sq0], fun h9 => absurd h9 (by rw [hc0, sq0]; exact (hq16.no h19).1)⟩)
