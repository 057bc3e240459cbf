/-! Beds. -/
def abI (Λ : Mm) (n : Nat) : Int := fd (fun c v => bOr v (bShl (Λ 2 (c : Int)) (c : Int))) 0 n
def abN (Λ : Mm) (n : Nat) : Nat := bmN (fun c => Λ 2 (c : Int) = 1) n
theorem bShl_0 : ∀ k : Nat, k < 31 → bShl 0 (k : Int) = 0 := by decide
theorem bOr_0 {v : Nat} (h : v < 2147483648) : bOr (v : Int) 0 = (v : Int) := by
  have := bOr_nn (a := v) (b := 0) h (by decide)
  rw [Nat.or_zero] at this
  exact this
theorem abI_N {Λ : Mm} (hW : WL Λ) : ∀ n : Nat, (n : Int) ≤ Λ 0 0 → abI Λ n = (abN Λ n : Int)
  | 0, _ => rfl
  | n + 1, hn => by
    have hn9 := hW.1
    have h := abI_N hW n (by omega)
    have h2 := hW.2.2.1 (n : Int) (by omega) (by omega)
    have h1 := bmN_lt (fun c => Λ 2 (c : Int) = 1) n
    have h3 : 2 ^ n ≤ 2 ^ 30 := Nat.pow_le_pow_right (by decide) (by omega)
    show bOr (abI Λ n) (bShl (Λ 2 (n : Int)) (n : Int)) = ((if Λ 2 (n : Int) = 1 then abN Λ n ||| 2 ^ n else abN Λ n : Nat) : Int)
    have hN : abN Λ n < 2 ^ n := h1
    rw [h]
    split
    · rename_i e
      rw [e, bShl_1 n (by omega), bOr_nn (by omega) (by omega)]
    · rw [show Λ 2 (n : Int) = 0 by omega, bShl_0 n (by omega), bOr_0 (by omega)]
theorem abI_rg {Λ : Mm} (hW : WL Λ) : 0 ≤ abI Λ (Λ 0 0).toNat ∧ abI Λ (Λ 0 0).toNat < 512 := by
  have hn9 := hW.1
  have h1 := bmN_lt (fun c => Λ 2 (c : Int) = 1) (Λ 0 0).toNat
  have h3 : 2 ^ (Λ 0 0).toNat ≤ 2 ^ 9 := Nat.pow_le_pow_right (by decide) (by omega)
  have hN : abN Λ (Λ 0 0).toNat < 2 ^ (Λ 0 0).toNat := h1
  rw [abI_N hW _ (by omega)]
  omega
theorem i32_bit {a : Nat} (h : a < 2147483648) (i : Nat) : (Int32.ofInt (a : Int)).toBitVec.getLsbD i = a.testBit i := by
  unfold BitVec.getLsbD
  rw [i32n h]
theorem ok_and {t A : Nat} (ht : t < 2147483648) (hA : A < 2147483648) : bAnd (t : Int) (bXor (A : Int) (-1)) = 0 ↔ t &&& A = t := by
  have e0 : Int32.ofInt (bXor (A : Int) (-1)) = Int32.ofInt (A : Int) ^^^ Int32.ofInt (-1) := Int32.ofInt_toInt _
  unfold bAnd
  rw [e0]
  have e1 : (Int32.ofInt (t : Int) &&& (Int32.ofInt (A : Int) ^^^ Int32.ofInt (-1))).toInt = 0 ↔ (Int32.ofInt (t : Int) &&& (Int32.ofInt (A : Int) ^^^ Int32.ofInt (-1))).toBitVec = 0#32 := by
    constructor
    · intro h
      have h9 : (Int32.ofInt (t : Int) &&& (Int32.ofInt (A : Int) ^^^ Int32.ofInt (-1))).toBitVec.toInt = (0#32).toInt := h
      exact BitVec.eq_of_toInt_eq h9
    · intro h
      show BitVec.toInt _ = 0
      rw [h]
      rfl
  rw [e1, Int32.toBitVec_and, Int32.toBitVec_xor]
  have em : (Int32.ofInt (-1)).toBitVec = BitVec.allOnes 32 := by decide
  rw [em, BitVec.xor_allOnes]
  constructor
  · intro h
    apply Nat.eq_of_testBit_eq
    intro i
    rw [Nat.testBit_and]
    by_cases hi : i < 32
    · have hb : ((Int32.ofInt (t : Int)).toBitVec &&& ~~~(Int32.ofInt (A : Int)).toBitVec).getLsbD i = false := by rw [h]; exact BitVec.getLsbD_zero
      rw [BitVec.getLsbD_and, BitVec.getLsbD_not, i32_bit ht, i32_bit hA] at hb
      simp only [hi, decide_true, Bool.true_and] at hb
      revert hb
      cases t.testBit i <;> cases A.testBit i <;> simp
    · have : t.testBit i = false := Nat.testBit_lt_two_pow (Nat.lt_of_lt_of_le ht (by have := Nat.pow_le_pow_right (n := 2) (by decide) (show 31 ≤ i by omega); omega))
      rw [this]
      rfl
  · intro h
    apply BitVec.eq_of_getLsbD_eq
    intro i hi
    rw [BitVec.getLsbD_and, BitVec.getLsbD_not, i32_bit ht, i32_bit hA, BitVec.getLsbD_zero]
    have h9 : (t &&& A).testBit i = t.testBit i := by rw [h]
    rw [Nat.testBit_and] at h9
    simp only [hi, decide_true, Bool.true_and]
    revert h9
    cases t.testBit i <;> cases A.testBit i <;> simp
def okS (Λ : Mm) (t : Int) : Prop := bAnd t (bXor (abI Λ (Λ 0 0).toNat) (-1)) = 0
theorem okS_bed {Λ : Mm} (hW : WL Λ) {t b : Int} (ht : 0 ≤ t ∧ t < 512) (h : okS Λ t) (hb : 0 ≤ b ∧ b < Λ 0 0) (h1 : Λ 2 b = 1) : okS Λ (bOr t (bShl 1 b)) ∧ 0 ≤ bOr t (bShl 1 b) ∧ bOr t (bShl 1 b) ≤ abI Λ (Λ 0 0).toNat := by
  have hn9 := hW.1
  have hN : abN Λ (Λ 0 0).toNat < 2 ^ (Λ 0 0).toNat := bmN_lt _ _
  have h3 : 2 ^ (Λ 0 0).toNat ≤ 2 ^ 9 := Nat.pow_le_pow_right (by decide) (by omega)
  have hb9 : 2 ^ b.toNat ≤ 2 ^ 9 := Nat.pow_le_pow_right (by decide) (by omega)
  unfold okS at h ⊢
  rw [abI_N hW _ (by omega)] at h ⊢
  have et : t = ((t.toNat : Nat) : Int) := by omega
  have eb := bShl_1 b.toNat (by omega)
  rw [show ((b.toNat : Nat) : Int) = b by omega] at eb
  rw [et] at h ⊢
  rw [eb, bOr_nn (by omega) (by omega)]
  have k := (ok_and (by omega) (by omega)).mp h
  have hor : t.toNat ||| 2 ^ b.toNat < 2 ^ 31 := Nat.or_lt_two_pow (by omega) (by omega)
  have hbit : (abN Λ (Λ 0 0).toNat).testBit b.toNat = true := by
    unfold abN
    rw [bmN_bit, show ((b.toNat : Nat) : Int) = b by omega, h1]
    simp
    omega
  have kb : 2 ^ b.toNat &&& abN Λ (Λ 0 0).toNat = 2 ^ b.toNat := by
    apply Nat.eq_of_testBit_eq
    intro i
    rw [Nat.testBit_and]
    by_cases e : b.toNat = i
    · subst e
      rw [hbit, Bool.and_true]
    · rw [Nat.testBit_two_pow_of_ne e, Bool.false_and]
  have k2 : (t.toNat ||| 2 ^ b.toNat) &&& abN Λ (Λ 0 0).toNat = t.toNat ||| 2 ^ b.toNat := by rw [Nat.and_or_distrib_right, k, kb]
  refine ⟨(ok_and (by omega) (by omega)).mpr k2, by omega, ?_⟩
  have : (t.toNat ||| 2 ^ b.toNat) &&& abN Λ (Λ 0 0).toNat ≤ abN Λ (Λ 0 0).toNat := Nat.and_le_right
  rw [k2] at this
  omega
theorem okS_0 {Λ : Mm} (hW : WL Λ) : okS Λ 0 := by
  have hn9 := hW.1
  have hN : abN Λ (Λ 0 0).toNat < 2 ^ (Λ 0 0).toNat := bmN_lt _ _
  have h3 : 2 ^ (Λ 0 0).toNat ≤ 2 ^ 9 := Nat.pow_le_pow_right (by decide) (by omega)
  unfold okS
  rw [abI_N hW _ (by omega)]
  exact (ok_and (t := 0) (by decide) (by omega)).mpr (Nat.zero_and _)
def canS (Λ : Mm) (s : Int → Int) (p t b : Int) : Prop := Λ 2 b = 1 ∧ bAnd (bShr t b) 1 = 0 ∧ wyW Λ s 0 (s (1 + p) * 9 + b) < 10000
def csP (Λ : Mm) (s : Int → Int) (p t b : Int) : Int := if Λ 2 b = 1 ∧ bAnd (bShr t b) 1 = 0 ∧ wyW Λ s 0 (s (1 + p) * 9 + b) < 10000 then 1 else 0
theorem csP_01 {Λ : Mm} {s : Int → Int} {p t b : Int} : csP Λ s p t b = 0 ∨ csP Λ s p t b = 1 := by
  unfold csP
  split <;> simp
def bbG (Λ : Mm) (s : Int → Int) (T : Int → Int) (p t b : Int) : Int := 1000 - wyW Λ s 1 (s (1 + p) * 9 + b) + T ((p + 1) * 512 + bOr t (bShl 1 b))
def bbS (Λ : Mm) (s : Int → Int) (T : Int → Int) (p t b : Int) (q : Int × Int) : Int × Int := if csP Λ s p t b = 0 then q else if bbG Λ s T p t b < q.2 then q else (b, bbG Λ s T p t b)
def bbN (Λ : Mm) (s : Int → Int) (T : Int → Int) (p t : Int) (n : Nat) : Int × Int := fd (fun i q => bbS Λ s T p t (Λ 0 0 - 1 - (i : Int)) q) (-1, T ((p + 1) * 512 + t)) n
/-- the entries of the row behind p that are looked at lie within bounds -/
def rwB (Λ : Mm) (T : Int → Int) (p : Int) : Prop := ∀ t, 0 ≤ t → t ≤ abI Λ (Λ 0 0).toNat → okS Λ t → 0 ≤ T ((p + 1) * 512 + t) ∧ T ((p + 1) * 512 + t) ≤ 1000 * (Λ 0 1 - (p + 1))
section
variable {Λ : Mm} {s : Int → Int} {T T' : Int → Int} {p t b : Int}
theorem cs_1 (h : ¬ csP Λ s p t b = 0) : Λ 2 b = 1 ∧ bAnd (bShr t b) 1 = 0 ∧ wyW Λ s 0 (s (1 + p) * 9 + b) < 10000 := ite10 h
theorem bbG_rg (hW : WL Λ) (hr : rwB Λ T p) (ht : 0 ≤ t ∧ t ≤ abI Λ (Λ 0 0).toNat) (ho : okS Λ t) (hb : 0 ≤ b ∧ b < Λ 0 0) (hc : ¬ csP Λ s p t b = 0) : -9000 ≤ bbG Λ s T p t b ∧ bbG Λ s T p t b ≤ 1000 * (Λ 0 1 - p) := by
  have ha := abI_rg hW
  have h1 := okS_bed hW (by omega) ho hb (cs_1 hc).1
  have h2 := hr _ h1.2.1 h1.2.2 h1.1
  have h3 := (wyW_B hW s).1 (s (1 + p) * 9 + b)
  unfold bbG
  omega
theorem bbN_rg (hW : WL Λ) (hr : rwB Λ T p) (ht : 0 ≤ t ∧ t ≤ abI Λ (Λ 0 0).toNat) (ho : okS Λ t) : ∀ n : Nat, (n : Int) ≤ Λ 0 0 → (0 ≤ (bbN Λ s T p t n).2 ∧ (bbN Λ s T p t n).2 ≤ 1000 * (Λ 0 1 - p)) ∧ ((bbN Λ s T p t n).1 = -1 ∧ (bbN Λ s T p t n).2 = T ((p + 1) * 512 + t) ∨ (0 ≤ (bbN Λ s T p t n).1 ∧ (bbN Λ s T p t n).1 < Λ 0 0) ∧ csP Λ s p t (bbN Λ s T p t n).1 = 1 ∧ (bbN Λ s T p t n).2 = bbG Λ s T p t (bbN Λ s T p t n).1)
  | 0, _ => by
    have := hr t ht.1 ht.2 ho
    exact ⟨⟨this.1, by show T ((p + 1) * 512 + t) ≤ _; omega⟩, Or.inl ⟨rfl, rfl⟩⟩
  | n + 1, hn => by
    have ih := bbN_rg hW hr ht ho n (by omega)
    have e : bbN Λ s T p t (n + 1) = bbS Λ s T p t (Λ 0 0 - 1 - (n : Int)) (bbN Λ s T p t n) := rfl
    rw [e]
    unfold bbS
    split
    · exact ih
    · rename_i hc
      have hg := bbG_rg hW hr ht ho (show 0 ≤ Λ 0 0 - 1 - (n : Int) ∧ Λ 0 0 - 1 - (n : Int) < Λ 0 0 by omega) hc
      split
      · exact ih
      · have h01 := csP_01 (Λ := Λ) (s := s) (p := p) (t := t) (b := Λ 0 0 - 1 - (n : Int))
        exact ⟨⟨by simp only []; omega, by simp only []; omega⟩, Or.inr ⟨⟨by simp only []; omega, by simp only []; omega⟩, by simp only []; omega, rfl⟩⟩
theorem bbN_congr (hn9 : Λ 0 0 ≤ 9) (h : ∀ t', 0 ≤ t' → t' < 512 → T ((p + 1) * 512 + t') = T' ((p + 1) * 512 + t')) (ht : 0 ≤ t ∧ t < 512) : ∀ n : Nat, (n : Int) ≤ Λ 0 0 → bbN Λ s T p t n = bbN Λ s T' p t n
  | 0, _ => by
    show ((-1 : Int), T ((p + 1) * 512 + t)) = (-1, T' ((p + 1) * 512 + t))
    rw [h t ht.1 ht.2]
  | n + 1, hn => by
    have ih := bbN_congr hn9 h ht n (by omega)
    show bbS Λ s T p t (Λ 0 0 - 1 - (n : Int)) (bbN Λ s T p t n) = bbS Λ s T' p t (Λ 0 0 - 1 - (n : Int)) (bbN Λ s T' p t n)
    rw [ih]
    have hb := bor_lt (t := t.toNat) (z := (Λ 0 0 - 1 - (n : Int)).toNat) (n := 9) (by omega) (by omega) (by decide)
    rw [show ((t.toNat : Nat) : Int) = t by omega, show (((Λ 0 0 - 1 - (n : Int)).toNat : Nat) : Int) = Λ 0 0 - 1 - (n : Int) by omega] at hb
    unfold bbS bbG
    rw [h (bOr t (bShl 1 (Λ 0 0 - 1 - (n : Int)))) hb.1 (by have := hb.2; omega)]
end
/-- entry (p, t) is what is best there -/
def LE (Λ : Mm) (s : Int → Int) (T : Int → Int) (p t : Int) : Prop := T (p * 512 + t) = (if p = Λ 0 1 then 0 else (bbN Λ s T p t (Λ 0 0).toNat).2) ∧ 0 ≤ T (p * 512 + t) ∧ T (p * 512 + t) ≤ 1000 * (Λ 0 1 - p)
theorem LE.keep {Λ : Mm} {s : Int → Int} {T T' : Int → Int} {p t : Int} (hn9 : 0 ≤ Λ 0 0 ∧ Λ 0 0 ≤ 9) (ht : 0 ≤ t ∧ t < 512) (h : LE Λ s T p t) (h1 : T' (p * 512 + t) = T (p * 512 + t)) (h2 : ∀ t', 0 ≤ t' → t' < 512 → T' ((p + 1) * 512 + t') = T ((p + 1) * 512 + t')) : LE Λ s T' p t := by
  unfold LE at h ⊢
  rw [h1, bbN_congr hn9.2 h2 ht _ (by omega)]
  exact h
def LodgeOK (Λ : Mm) (s : Int → Int) (T : Int → Int) : Prop := ∀ p, 0 ≤ p → p ≤ Λ 0 1 → ∀ t, 0 ≤ t → t ≤ abI Λ (Λ 0 0).toNat → okS Λ t → LE Λ s T p t
theorem LodgeOK.rw {Λ : Mm} {s : Int → Int} {T : Int → Int} (h : LodgeOK Λ s T) {p : Int} (hp : 0 ≤ p ∧ p < Λ 0 1) : rwB Λ T p := fun t h1 h2 h3 => (h (p + 1) (by omega) (by omega) t h1 h2 h3).2
def tkS (Λ : Mm) (s : Int → Int) (T : Int → Int) (p : Int) (q : Int × Int × Int) : Int × Int × Int := if (bbN Λ s T p q.1 (Λ 0 0).toNat).1 = -1 then q else (bOr q.1 (bShl 1 (bbN Λ s T p q.1 (Λ 0 0).toNat).1), q.2.1 + 1, q.2.2 + wyW Λ s 1 (s (1 + p) * 9 + (bbN Λ s T p q.1 (Λ 0 0).toNat).1))
def tbN (Λ : Mm) (s : Int → Int) (T : Int → Int) (n : Nat) : Int × Int × Int := fd (fun p q => tkS Λ s T (p : Int) q) (0, 0, 0) n
def bdP (Λ : Mm) (s : Int → Int) (T : Int → Int) (p : Int) : Int := (bbN Λ s T p (tbN Λ s T p.toNat).1 (Λ 0 0).toNat).1
theorem tbN_rg {Λ : Mm} (hW : WL Λ) {s : Int → Int} {T : Int → Int} (h : LodgeOK Λ s T) : ∀ n : Nat, (n : Int) ≤ Λ 0 1 → ((0 ≤ (tbN Λ s T n).1 ∧ (tbN Λ s T n).1 ≤ abI Λ (Λ 0 0).toNat) ∧ okS Λ (tbN Λ s T n).1) ∧ (0 ≤ (tbN Λ s T n).2.1 ∧ (tbN Λ s T n).2.1 ≤ n) ∧ 0 ≤ (tbN Λ s T n).2.2 ∧ (tbN Λ s T n).2.2 ≤ 10000 * n
  | 0, _ => by
    have := abI_rg hW
    exact ⟨⟨⟨Int.le_refl 0, this.1⟩, okS_0 hW⟩, ⟨Int.le_refl 0, by show (0 : Int) ≤ ((0 : Nat) : Int); decide⟩, Int.le_refl 0, by show (0 : Int) ≤ 10000 * ((0 : Nat) : Int); decide⟩
  | n + 1, hn => by
    have hn9 := hW.1
    have ih := tbN_rg hW h n (by omega)
    have ha := abI_rg hW
    have hb := (bbN_rg (s := s) hW (h.rw (p := (n : Int)) (by omega)) ih.1.1 ih.1.2 (Λ 0 0).toNat (by omega)).2
    have e : tbN Λ s T (n + 1) = tkS Λ s T (n : Int) (tbN Λ s T n) := rfl
    rw [e]
    unfold tkS
    split
    · exact ⟨ih.1, by omega, by omega⟩
    · rename_i hne
      rcases hb with hb | hb
      · exact absurd hb.1 hne
      · have hc := cs_1 (show ¬ csP Λ s (n : Int) (tbN Λ s T n).1 (bbN Λ s T (n : Int) (tbN Λ s T n).1 (Λ 0 0).toNat).1 = 0 by omega)
        have ho := okS_bed hW (by omega) ih.1.2 hb.1 hc.1
        have hw := (wyW_B hW s).1 (s (1 + (n : Int)) * 9 + (bbN Λ s T (n : Int) (tbN Λ s T n).1 (Λ 0 0).toNat).1)
        exact ⟨⟨ho.2, ho.1⟩, by simp only []; omega, by simp only []; omega⟩
theorem sp_lodging {l : Launch} {γ : Gh} {ρ m : Mm} {a z : Int} (hR : MR m) : gE l γ μX9_lodging 0 0 0 (rI KK fun x ρ9 m9 => ρ = ρ9 ∧ MR m9 ∧ a * 512 + z = x ∧ m = m9) xN KK ρ m [vI a, vI z] := by
  refine gE.ofw cl_X9.2 ?_ rfl rfl (Nat.le_of_ble_eq_true rfl)
  show gT l γ μX9_lodging 0 0 0 _ _ KK ρ m 0 [some (vI a), some (vI z)] []
  refine tz_iload0 (n := 1) (g_at ck_X9_lodging 0 rfl) rfl ?_
  refine tz_sipush (n := 4) (g_at ck_X9_lodging 1 rfl) rfl rfl ?_
  refine tz_imul (n := 5) (g_at ck_X9_lodging 2 rfl) rfl ?_
  refine tz_iload1 (n := 6) (g_at ck_X9_lodging 3 rfl) rfl ?_
  refine tz_iadd (n := 7) (g_at ck_X9_lodging 4 rfl) rfl ?_
  exact tz_iret (g_at ck_X9_lodging 5 rfl) rfl (rI_mk ⟨rfl, hR, rfl, rfl⟩)
theorem sp_allBeds {l : Launch} {γ : Gh} {ρ m : Mm} {ld : Int} {Λ : Mm} {hl tl : List Int} (hL : LY ρ) (hLw : ρ 71 0 = ld) (hS : isS ρ ld) (hR : MR m) (hW : WL Λ) (hG : LandC m ld Λ hl tl) : gE l γ μX9_allBeds 0 0 0 (rI KK fun x ρ9 m9 => ρ = ρ9 ∧ MR m9 ∧ abI Λ (Λ 0 0).toNat = x ∧ m = m9) xN KK ρ m [vR 71] := by
  refine gE.ofw cl_X9.2 ?_ rfl rfl (Nat.le_of_ble_eq_true rfl)
  show gT l γ μX9_allBeds 0 0 0 _ _ KK ρ m 0 [some (vR 71), none, none] []
  have hn := hW.1
  have hn8 := hW.2.1
  have hld := hG.ld9
  refine tz_iconst (n := 1) (g_at ck_X9_allBeds 0 rfl) rfl ?_
  refine tz_istore1 (n := 2) (g_at ck_X9_allBeds 1 rfl) rfl (by decide) g_hpR ?_
  refine tz_iconst (n := 3) (g_at ck_X9_allBeds 2 rfl) rfl ?_
  refine tz_istore2 (n := 4) (g_at ck_X9_allBeds 3 rfl) rfl (by decide) g_hpI ?_
  refine g_for (fun i : Nat => gT l γ μX9_allBeds 0 0 0 _ _ KK ρ m 4 [some (vR 71), some (vI (abI Λ i)), some (vI (i : Int))] []) (Λ 0 0).toNat ?_ (fun i hi ihi => ?_) 0 (Nat.zero_le _)
  · skip
    refine tz_iload2 (n := 5) (g_at ck_X9_allBeds 4 rfl) rfl ?_
    refine tz_aload0 (n := 6) (g_at ck_X9_allBeds 5 rfl) rfl (g_ne kd_71) ?_
    refine tz_getOv (n := 9) (a := ld) fk_X9_36 kd_71 hLw (g_at ck_X9_allBeds 6 rfl) rfl ?_
    refine tz_getIw (n := 12) (kz := 0) fk_X9_53 hS.k0 (g_at ck_X9_allBeds 7 rfl) rfl rfl ?_
    rw [hG.n0]
    refine tz_icmp_ge (n := 15) (tgt := 35) (g_at ck_X9_allBeds 8 rfl) rfl rfl ⟨by omega, by omega, by omega, by omega⟩ (fun h12 => ?_) (fun h12 => absurd h12 (by omega))
    refine tz_iload1 (n := 36) (g_at ck_X9_allBeds 21 rfl) rfl ?_
    exact tz_iret (g_at ck_X9_allBeds 22 rfl) rfl (rI_mk ⟨rfl, hR, rfl, rfl⟩)
  · skip
    refine tz_iload2 (n := 5) (g_at ck_X9_allBeds 4 rfl) rfl ?_
    refine tz_aload0 (n := 6) (g_at ck_X9_allBeds 5 rfl) rfl (g_ne kd_71) ?_
    refine tz_getOv (n := 9) (a := ld) fk_X9_36 kd_71 hLw (g_at ck_X9_allBeds 6 rfl) rfl ?_
    refine tz_getIw (n := 12) (kz := 0) fk_X9_53 hS.k0 (g_at ck_X9_allBeds 7 rfl) rfl rfl ?_
    rw [hG.n0]
    refine tz_icmp_ge (n := 15) (tgt := 35) (g_at ck_X9_allBeds 8 rfl) rfl rfl ⟨by omega, by omega, by omega, by omega⟩ (fun h12 => absurd h12 (by omega)) (fun h12 => ?_)
    refine tz_iload1 (n := 16) (g_at ck_X9_allBeds 9 rfl) rfl ?_
    refine tz_aload0 (n := 17) (g_at ck_X9_allBeds 10 rfl) rfl (g_ne kd_71) ?_
    refine tz_getOv (n := 20) (a := ld) fk_X9_36 kd_71 hLw (g_at ck_X9_allBeds 11 rfl) rfl ?_
    refine tz_getAv (n := 23) (a := (ld + 2)) fk_X9_140 hS.k0 hS.r0_3 (g_at ck_X9_allBeds 12 rfl) rfl ?_
    refine tz_iload2 (n := 24) (g_at ck_X9_allBeds 13 rfl) rfl ?_
    refine tz_iald (n := 25) hS.k2 (by omega) (g_at ck_X9_allBeds 14 rfl) rfl ?_
    rw [hG.bed (i : Int) (by omega)]
    refine tz_iload2 (n := 26) (g_at ck_X9_allBeds 15 rfl) rfl ?_
    refine tz_ishl (n := 27) (g_at ck_X9_allBeds 16 rfl) rfl ?_
    refine tz_ior (n := 28) (g_at ck_X9_allBeds 17 rfl) rfl ?_
    refine tz_istore1 (n := 29) (g_at ck_X9_allBeds 18 rfl) rfl (by decide) g_hpR ?_
    refine tz_iinc2 (n := 32) (g_at ck_X9_allBeds 19 rfl) rfl (by decide) g_hpI ?_
    refine tz_goto (tgt := 4) (g_at ck_X9_allBeds 20 rfl) rfl ?_
    exact ihi
theorem sp_canSleep {l : Launch} {γ : Gh} {ρ m : Mm} {p t b : Int} {ld : Int} {Λ : Mm} {hl tl : List Int} (hL : LY ρ) (hLw : ρ 71 0 = ld) (hS : isS ρ ld) (hR : MR m) (hW : WL Λ) (hG : LandC m ld Λ hl tl) {s : Int → Int} (hV : SvC m Λ s) (hσ : WS Λ 0 (sig0 s)) (hp : 0 ≤ p ∧ p < Λ 0 1) (hb : 0 ≤ b ∧ b < Λ 0 0) : gE l γ μX9_canSleep 0 0 0 (rI KK fun x ρ9 m9 => ρ = ρ9 ∧ MR m9 ∧ csP Λ s p t b = x ∧ m = m9) xN KK ρ m [vR 71, vI p, vI t, vI b] := by
  refine gE.ofw cl_X9.2 ?_ rfl rfl (Nat.le_of_ble_eq_true rfl)
  show gT l γ μX9_canSleep 0 0 0 _ _ KK ρ m 0 [some (vR 71), some (vI p), some (vI t), some (vI b)] []
  have hn := hW.1
  have hn8 := hW.2.1
  have hld := hG.ld9
  have hp1 := sig0_WS_n hσ hp
  have hbd := hW.2.2.1 b hb.1 hb.2
  have hrc := rc_bit (s := s) hW (a := s (1 + p)) hb
  refine tz_aload0 (n := 1) (g_at ck_X9_canSleep 0 rfl) rfl (g_ne kd_71) ?_
  refine tz_getOv (n := 4) (a := ld) fk_X9_36 kd_71 hLw (g_at ck_X9_canSleep 1 rfl) rfl ?_
  refine tz_getAv (n := 7) (a := (ld + 2)) fk_X9_140 hS.k0 hS.r0_3 (g_at ck_X9_canSleep 2 rfl) rfl ?_
  refine tz_iload3 (n := 8) (g_at ck_X9_canSleep 3 rfl) rfl ?_
  refine tz_iald (n := 9) hS.k2 (by omega) (g_at ck_X9_canSleep 4 rfl) rfl ?_
  rw [hG.bed b hb]
  refine tz_iconst (n := 10) (g_at ck_X9_canSleep 5 rfl) rfl ?_
  refine tz_icmp_ne (n := 13) (tgt := 44) (g_at ck_X9_canSleep 6 rfl) rfl rfl ⟨by omega, by omega, by decide, by decide⟩ (fun h10 => ?_) (fun h10 => ?_)
  · skip
    refine tz_iconst (n := 45) (g_at ck_X9_canSleep 28 rfl) rfl ?_
    exact tz_bret (g_at ck_X9_canSleep 29 rfl) rfl (by decide) (rI_mk ⟨rfl, hR, if_neg (fun h9 => h10 h9.1), rfl⟩)
  · skip
    refine tz_iload2 (n := 14) (g_at ck_X9_canSleep 7 rfl) rfl ?_
    refine tz_iload3 (n := 15) (g_at ck_X9_canSleep 8 rfl) rfl ?_
    refine tz_ishr (n := 16) (g_at ck_X9_canSleep 9 rfl) rfl ?_
    refine tz_iconst (n := 17) (g_at ck_X9_canSleep 10 rfl) rfl ?_
    refine tz_iand (n := 18) (g_at ck_X9_canSleep 11 rfl) rfl ?_
    refine tz_if_ne (n := 21) (tgt := 44) (g_at ck_X9_canSleep 12 rfl) rfl rfl (bAnd_rg _ _) (fun h18 => ?_) (fun h18 => ?_)
    · skip
      refine tz_iconst (n := 45) (g_at ck_X9_canSleep 28 rfl) rfl ?_
      exact tz_bret (g_at ck_X9_canSleep 29 rfl) rfl (by decide) (rI_mk ⟨rfl, hR, if_neg (fun h9 => h18 h9.2.1), rfl⟩)
    · skip
      refine tz_aload0 (n := 22) (g_at ck_X9_canSleep 13 rfl) rfl (g_ne kd_71) ?_
      refine tz_getAv (n := 25) (a := 75) fk_X9_21 kd_71 (ly_71_4 hL) (g_at ck_X9_canSleep 14 rfl) rfl ?_
      refine tz_aload0 (n := 26) (g_at ck_X9_canSleep 15 rfl) rfl (g_ne kd_71) ?_
      refine tz_getAv (n := 29) (a := 77) fk_X9_27 kd_71 (ly_71_6 hL) (g_at ck_X9_canSleep 16 rfl) rfl ?_
      refine tz_iload1 (n := 30) (g_at ck_X9_canSleep 17 rfl) rfl ?_
      refine tz_iald (n := 31) kd_77 (by omega) (g_at ck_X9_canSleep 18 rfl) rfl ?_
      rw [hV.w p (by omega)]
      refine tz_iald (n := 32) kd_75 (by omega) (g_at ck_X9_canSleep 19 rfl) rfl ?_
      rw [hV.r (s (1 + p)) (by omega)]
      refine tz_iload3 (n := 33) (g_at ck_X9_canSleep 20 rfl) rfl ?_
      refine tz_ishr (n := 34) (g_at ck_X9_canSleep 21 rfl) rfl ?_
      refine tz_iconst (n := 35) (g_at ck_X9_canSleep 22 rfl) rfl ?_
      refine tz_iand (n := 36) (g_at ck_X9_canSleep 23 rfl) rfl ?_
      refine tz_iconst (n := 37) (g_at ck_X9_canSleep 24 rfl) rfl ?_
      refine tz_icmp_ne (n := 40) (tgt := 44) (g_at ck_X9_canSleep 25 rfl) rfl rfl ⟨(bAnd_rg _ _).1, (bAnd_rg _ _).2, by decide, by decide⟩ (fun h37 => ?_) (fun h37 => ?_)
      · skip
        refine tz_iconst (n := 45) (g_at ck_X9_canSleep 28 rfl) rfl ?_
        exact tz_bret (g_at ck_X9_canSleep 29 rfl) rfl (by decide) (rI_mk ⟨rfl, hR, if_neg (fun h9 => h37 (hrc.trans (if_pos h9.2.2))), rfl⟩)
      · skip
        refine tz_iconst (n := 41) (g_at ck_X9_canSleep 26 rfl) rfl ?_
        refine tz_goto (tgt := 45) (g_at ck_X9_canSleep 27 rfl) rfl ?_
        exact tz_bret (g_at ck_X9_canSleep 29 rfl) rfl (by decide) (rI_mk ⟨rfl, hR, if_pos ⟨h10, h18, ite1 (hrc.symm.trans h37)⟩, rfl⟩)
theorem sp_worth {l : Launch} {γ : Gh} {ρ m : Mm} {p t b : Int} {ld : Int} {Λ : Mm} {hl tl : List Int} (hL : LY ρ) (hLw : ρ 71 0 = ld) (hS : isS ρ ld) (hR : MR m) (hW : WL Λ) (hG : LandC m ld Λ hl tl) {s : Int → Int} (hV : SvC m Λ s) (hσ : WS Λ 0 (sig0 s)) (hp : 0 ≤ p ∧ p < Λ 0 1) (ht : 0 ≤ t ∧ t < 512) (hb : b = -1 ∨ (0 ≤ b ∧ b < Λ 0 0)) : gE l γ μX9_worth 2 0 0 (rI KK fun x ρ9 m9 => ρ = ρ9 ∧ MR m9 ∧ (if b = -1 then m 79 ((p + 1) * 512 + t) else bbG Λ s (m 79) p t b) = x ∧ m = m9) xN KK ρ m [vR 71, vI p, vI t, vI b] := by
  refine gE.ofw cl_X9.2 ?_ rfl rfl (Nat.le_of_ble_eq_true rfl)
  show gT l γ μX9_worth 2 0 0 _ _ KK ρ m 0 [some (vR 71), some (vI p), some (vI t), some (vI b)] []
  have hn := hW.1
  have hn8 := hW.2.1
  have hld := hG.ld9
  have hp1 := sig0_WS_n hσ hp
  refine tz_iload3 (n := 1) (g_at ck_X9_worth 0 rfl) rfl ?_
  refine tz_iconst (n := 2) (g_at ck_X9_worth 1 rfl) rfl ?_
  refine tz_icmp_ne (n := 5) (tgt := 18) (g_at ck_X9_worth 2 rfl) rfl rfl ⟨(by omega), (by omega), (by decide), (by decide)⟩ (fun h2 => ?_) (fun h2 => ?_)
  · skip
    refine tz_sipush (n := 21) (g_at ck_X9_worth 12 rfl) rfl rfl ?_
    refine tz_aload0 (n := 22) (g_at ck_X9_worth 13 rfl) rfl (g_ne kd_71) ?_
    refine tz_aload0 (n := 23) (g_at ck_X9_worth 14 rfl) rfl (g_ne kd_71) ?_
    refine tz_getAv (n := 26) (a := 77) fk_X9_27 kd_71 (ly_71_6 hL) (g_at ck_X9_worth 15 rfl) rfl ?_
    refine tz_iload1 (n := 27) (g_at ck_X9_worth 16 rfl) rfl ?_
    refine tz_iald (n := 28) kd_77 (by omega) (g_at ck_X9_worth 17 rfl) rfl ?_
    rw [hV.w p (by omega)]
    refine tz_iload3 (n := 29) (g_at ck_X9_worth 18 rfl) rfl ?_
    refine tz_cvI2 (n := 32) (μ' := μX9_costFrom) (cb' := 0) (sb' := 0) ml_X9_98 mo_X9_costFrom mv_X9_costFrom np_X9_costFrom kd_71 (g_at ck_X9_worth 19 rfl) (sp_costFrom hL hR (by omega) (hV.c _ (by omega))) rfl rfl rfl ⟨by decide, by decide⟩ (Nat.le_of_ble_eq_true rfl) (by decide) (by decide) (fun x29 ρ9 m29 hq => ?_)
    obtain ⟨rfl, hR1, rfl, rfl⟩ := hq
    refine tz_isub (n := 33) (g_at ck_X9_worth 20 rfl) rfl ?_
    have hbo := bor_lt (t := t.toNat) (z := b.toNat) (n := 9) (by omega) (by omega) (by decide)
    rw [show ((t.toNat : Nat) : Int) = t by omega, show ((b.toNat : Nat) : Int) = b by omega] at hbo
    have hbo2 : bOr t (bShl 1 b) < 512 := hbo.2
    refine tz_aload0 (n := 34) (g_at ck_X9_worth 21 rfl) rfl (g_ne kd_71) ?_
    refine tz_getAv (n := 37) (a := 79) fk_X9_33 kd_71 (ly_71_10 hL) (g_at ck_X9_worth 22 rfl) rfl ?_
    refine tz_iload1 (n := 38) (g_at ck_X9_worth 23 rfl) rfl ?_
    refine tz_iconst (n := 39) (g_at ck_X9_worth 24 rfl) rfl ?_
    refine tz_iadd (n := 40) (g_at ck_X9_worth 25 rfl) rfl ?_
    refine tz_iload2 (n := 41) (g_at ck_X9_worth 26 rfl) rfl ?_
    refine tz_iconst (n := 42) (g_at ck_X9_worth 27 rfl) rfl ?_
    refine tz_iload3 (n := 43) (g_at ck_X9_worth 28 rfl) rfl ?_
    refine tz_ishl (n := 44) (g_at ck_X9_worth 29 rfl) rfl ?_
    refine tz_ior (n := 45) (g_at ck_X9_worth 30 rfl) rfl ?_
    refine tz_csI2 (n := 48) (μ' := μX9_lodging) (cb' := 0) (sb' := 0) ml_X9_127 mo_X9_lodging ms_X9_lodging np_X9_lodging (g_at ck_X9_worth 31 rfl) (sp_lodging hR1) rfl rfl ⟨by decide, by decide⟩ (Nat.le_of_ble_eq_true rfl) (by decide) (by decide) (fun x45 ρ9 m45 hq => ?_)
    obtain ⟨rfl, hR2, rfl, rfl⟩ := hq
    refine tz_iald (n := 49) kd_79 (by omega) (g_at ck_X9_worth 32 rfl) rfl ?_
    refine tz_iadd (n := 50) (g_at ck_X9_worth 33 rfl) rfl ?_
    exact tz_iret (g_at ck_X9_worth 34 rfl) rfl (rI_mk ⟨rfl, hR2, if_neg h2, rfl⟩)
  · skip
    refine tz_aload0 (n := 6) (g_at ck_X9_worth 3 rfl) rfl (g_ne kd_71) ?_
    refine tz_getAv (n := 9) (a := 79) fk_X9_33 kd_71 (ly_71_10 hL) (g_at ck_X9_worth 4 rfl) rfl ?_
    skip
    refine tz_iload1 (n := 10) (g_at ck_X9_worth 5 rfl) rfl ?_
    refine tz_iconst (n := 11) (g_at ck_X9_worth 6 rfl) rfl ?_
    refine tz_iadd (n := 12) (g_at ck_X9_worth 7 rfl) rfl ?_
    refine tz_iload2 (n := 13) (g_at ck_X9_worth 8 rfl) rfl ?_
    refine tz_csI2 (n := 16) (μ' := μX9_lodging) (cb' := 0) (sb' := 0) ml_X9_127 mo_X9_lodging ms_X9_lodging np_X9_lodging (g_at ck_X9_worth 9 rfl) (sp_lodging hR) rfl rfl ⟨by decide, by decide⟩ (Nat.le_of_ble_eq_true rfl) (by decide) (by decide) (fun x13 ρ9 m13 hq => ?_)
    obtain ⟨rfl, hR3, rfl, rfl⟩ := hq
    refine tz_iald (n := 17) kd_79 (by omega) (g_at ck_X9_worth 10 rfl) rfl ?_
    exact tz_iret (g_at ck_X9_worth 11 rfl) rfl (rI_mk ⟨rfl, hR3, if_pos h2, rfl⟩)
theorem sp_bestBed {l : Launch} {γ : Gh} {ρ m : Mm} {p t : Int} {ld : Int} {Λ : Mm} {hl tl : List Int} (hL : LY ρ) (hLw : ρ 71 0 = ld) (hS : isS ρ ld) (hR : MR m) (hW : WL Λ) (hG : LandC m ld Λ hl tl) {s : Int → Int} (hV : SvC m Λ s) (hσ : WS Λ 0 (sig0 s)) (hp : 0 ≤ p ∧ p < Λ 0 1) (ht : 0 ≤ t ∧ t ≤ abI Λ (Λ 0 0).toNat) (ho : okS Λ t) (hr : rwB Λ (m 79) p) : gE l γ μX9_bestBed 3 0 0 (rI KK fun x ρ9 m9 => ρ = ρ9 ∧ MR m9 ∧ (bbN Λ s (m 79) p t (Λ 0 0).toNat).1 = x ∧ m = m9) xN KK ρ m [vR 71, vI p, vI t] := by
  refine gE.ofw cl_X9.2 ?_ rfl rfl (Nat.le_of_ble_eq_true rfl)
  show gT l γ μX9_bestBed 3 0 0 _ _ KK ρ m 0 [some (vR 71), some (vI p), some (vI t), none, none, none, none] []
  have hn := hW.1
  have hn8 := hW.2.1
  have hld := hG.ld9
  have ha := abI_rg hW
  refine tz_iconst (n := 1) (g_at ck_X9_bestBed 0 rfl) rfl ?_
  refine tz_istore3 (n := 2) (g_at ck_X9_bestBed 1 rfl) rfl (by decide) g_hpI ?_
  refine tz_aload0 (n := 3) (g_at ck_X9_bestBed 2 rfl) rfl (g_ne kd_71) ?_
  refine tz_iload1 (n := 4) (g_at ck_X9_bestBed 3 rfl) rfl ?_
  refine tz_iload2 (n := 5) (g_at ck_X9_bestBed 4 rfl) rfl ?_
  refine tz_iconst (n := 6) (g_at ck_X9_bestBed 5 rfl) rfl ?_
  refine tz_cvI3 (n := 9) (μ' := μX9_worth) (cb' := 0) (sb' := 0) ml_X9_133 mo_X9_worth mv_X9_worth np_X9_worth kd_71 (g_at ck_X9_bestBed 6 rfl) (sp_worth hL hLw hS hR hW hG hV hσ (by omega) (by omega) (by omega)) rfl rfl rfl ⟨by decide, by decide⟩ (Nat.le_of_ble_eq_true rfl) (by decide) (by decide) (fun x6 ρ9 m6 hq => ?_)
  obtain ⟨rfl, hR1, rfl, rfl⟩ := hq
  rw [if_pos rfl]
  refine tz_istore4 (n := 11) (g_at ck_X9_bestBed 7 rfl) rfl (by decide) g_hpI ?_
  refine tz_aload0 (n := 12) (g_at ck_X9_bestBed 8 rfl) rfl (g_ne kd_71) ?_
  refine tz_getOv (n := 15) (a := ld) fk_X9_36 kd_71 hLw (g_at ck_X9_bestBed 9 rfl) rfl ?_
  refine tz_getIw (n := 18) (kz := 0) fk_X9_53 hS.k0 (g_at ck_X9_bestBed 10 rfl) rfl rfl ?_
  rw [hG.n0]
  refine tz_iconst (n := 19) (g_at ck_X9_bestBed 11 rfl) rfl ?_
  refine tz_isub (n := 20) (g_at ck_X9_bestBed 12 rfl) rfl ?_
  refine tz_istore5 (n := 22) (g_at ck_X9_bestBed 13 rfl) rfl (by decide) g_hpI ?_
  suffices hlp : ∀ i : Nat, i ≤ (Λ 0 0).toNat → gT l γ μX9_bestBed 3 0 0 _ _ KK ρ m 22 [some (vR 71), some (vI p), some (vI t), some (vI (bbN Λ s (m 79) p t i).1), some (vI (bbN Λ s (m 79) p t i).2), some (vI (Λ 0 0 - 1 - (i : Int))), none] [] by
    have h0 := hlp 0 (Nat.zero_le _)
    rw [show Λ 0 0 - 1 - ((0 : Nat) : Int) = Λ 0 0 - 1 by omega] at h0
    exact h0
  refine g_for (fun i : Nat => gT l γ μX9_bestBed 3 0 0 _ _ KK ρ m 22 [some (vR 71), some (vI p), some (vI t), some (vI (bbN Λ s (m 79) p t i).1), some (vI (bbN Λ s (m 79) p t i).2), some (vI (Λ 0 0 - 1 - (i : Int))), none] []) (Λ 0 0).toNat ?_ (fun i hi ihi => ?_)
  · skip
    refine tz_iload5 (n := 24) (g_at ck_X9_bestBed 14 rfl) rfl ?_
    refine tz_if_lt (n := 27) (tgt := 72) (g_at ck_X9_bestBed 15 rfl) rfl rfl (by omega) (fun h24 => ?_) (fun h24 => absurd h24 (by omega))
    refine tz_iload3 (n := 73) (g_at ck_X9_bestBed 39 rfl) rfl ?_
    exact tz_iret (g_at ck_X9_bestBed 40 rfl) rfl (rI_mk ⟨rfl, hR1, rfl, rfl⟩)
  · skip
    have hq9 := (bbN_rg (s := s) hW hr ht ho i (by omega)).1
    refine tz_iload5 (n := 24) (g_at ck_X9_bestBed 14 rfl) rfl ?_
    refine tz_if_lt (n := 27) (tgt := 72) (g_at ck_X9_bestBed 15 rfl) rfl rfl (by omega) (fun h24 => absurd h24 (by omega)) (fun h24 => ?_)
    refine tz_aload0 (n := 28) (g_at ck_X9_bestBed 16 rfl) rfl (g_ne kd_71) ?_
    refine tz_iload1 (n := 29) (g_at ck_X9_bestBed 17 rfl) rfl ?_
    refine tz_iload2 (n := 30) (g_at ck_X9_bestBed 18 rfl) rfl ?_
    refine tz_iload5 (n := 32) (g_at ck_X9_bestBed 19 rfl) rfl ?_
    refine tz_cvI3 (n := 35) (μ' := μX9_canSleep) (cb' := 0) (sb' := 0) ml_X9_149 mo_X9_canSleep mv_X9_canSleep np_X9_canSleep kd_71 (g_at ck_X9_bestBed 20 rfl) (sp_canSleep hL hLw hS hR1 hW hG hV hσ (by omega) (by omega)) rfl rfl rfl ⟨by decide, by decide⟩ (Nat.le_of_ble_eq_true rfl) (by decide) (by decide) (fun x32 ρ9 m32 hq => ?_)
    obtain ⟨rfl, hR2, rfl, rfl⟩ := hq
    have h01 := csP_01 (Λ := Λ) (s := s) (p := p) (t := t) (b := Λ 0 0 - 1 - (i : Int))
    refine tz_if_eq (n := 38) (tgt := 49) (g_at ck_X9_bestBed 21 rfl) rfl rfl (by omega) (fun h35 => ?_) (fun h35 => ?_)
    · skip
      refine tz_iconst (n := 50) (g_at ck_X9_bestBed 28 rfl) rfl ?_
      refine tz_istore6 (n := 52) (g_at ck_X9_bestBed 29 rfl) rfl (by decide) g_hpI ?_
      refine tz_iload6 (n := 54) (g_at ck_X9_bestBed 30 rfl) rfl ?_
      refine tz_iload4 (n := 56) (g_at ck_X9_bestBed 31 rfl) rfl ?_
      refine tz_icmp_lt (n := 59) (tgt := 66) (g_at ck_X9_bestBed 32 rfl) rfl rfl ⟨by omega, by omega, by omega, by omega⟩ (fun h56 => ?_) (fun h56 => absurd h56 (by omega))
      refine tz_iinc5 (n := 69) (g_at ck_X9_bestBed 37 rfl) rfl (by decide) g_hpI ?_
      refine tz_goto (tgt := 22) (g_at ck_X9_bestBed 38 rfl) rfl ?_
      refine tz_drop6 ?_
      have e9 : bbN Λ s (m 79) p t (i + 1) = (bbN Λ s (m 79) p t i) := if_pos h35
      exact gT_eq ihi rfl (by rw [e9, show Λ 0 0 - 1 - ((i + 1 : Nat) : Int) = Λ 0 0 - 1 - (i : Int) + -1 by omega])
    · skip
      refine tz_aload0 (n := 39) (g_at ck_X9_bestBed 22 rfl) rfl (g_ne kd_71) ?_
      refine tz_iload1 (n := 40) (g_at ck_X9_bestBed 23 rfl) rfl ?_
      refine tz_iload2 (n := 41) (g_at ck_X9_bestBed 24 rfl) rfl ?_
      refine tz_iload5 (n := 43) (g_at ck_X9_bestBed 25 rfl) rfl ?_
      refine tz_cvI3 (n := 46) (μ' := μX9_worth) (cb' := 0) (sb' := 0) ml_X9_133 mo_X9_worth mv_X9_worth np_X9_worth kd_71 (g_at ck_X9_bestBed 26 rfl) (sp_worth hL hLw hS hR2 hW hG hV hσ (by omega) (by omega) (by omega)) rfl rfl rfl ⟨by decide, by decide⟩ (Nat.le_of_ble_eq_true rfl) (by decide) (by decide) (fun x43 ρ9 m43 hq => ?_)
      obtain ⟨rfl, hR3, rfl, rfl⟩ := hq
      rw [if_neg (by omega)]
      have hg9 := bbG_rg hW hr ht ho (show 0 ≤ Λ 0 0 - 1 - (i : Int) ∧ Λ 0 0 - 1 - (i : Int) < Λ 0 0 by omega) h35
      refine tz_goto (tgt := 50) (g_at ck_X9_bestBed 27 rfl) rfl ?_
      refine tz_istore6 (n := 52) (g_at ck_X9_bestBed 29 rfl) rfl (by decide) g_hpI ?_
      refine tz_iload6 (n := 54) (g_at ck_X9_bestBed 30 rfl) rfl ?_
      refine tz_iload4 (n := 56) (g_at ck_X9_bestBed 31 rfl) rfl ?_
      refine tz_icmp_lt (n := 59) (tgt := 66) (g_at ck_X9_bestBed 32 rfl) rfl rfl ⟨by omega, by omega, by omega, by omega⟩ (fun h56 => ?_) (fun h56 => ?_)
      · skip
        refine tz_iinc5 (n := 69) (g_at ck_X9_bestBed 37 rfl) rfl (by decide) g_hpI ?_
        refine tz_goto (tgt := 22) (g_at ck_X9_bestBed 38 rfl) rfl ?_
        refine tz_drop6 ?_
        have e9 : bbN Λ s (m 79) p t (i + 1) = (bbN Λ s (m 79) p t i) := (if_neg h35).trans (if_pos h56)
        exact gT_eq ihi rfl (by rw [e9, show Λ 0 0 - 1 - ((i + 1 : Nat) : Int) = Λ 0 0 - 1 - (i : Int) + -1 by omega])
      · skip
        refine tz_iload6 (n := 61) (g_at ck_X9_bestBed 33 rfl) rfl ?_
        refine tz_istore4 (n := 63) (g_at ck_X9_bestBed 34 rfl) rfl (by decide) g_hpI ?_
        refine tz_iload5 (n := 65) (g_at ck_X9_bestBed 35 rfl) rfl ?_
        refine tz_istore3 (n := 66) (g_at ck_X9_bestBed 36 rfl) rfl (by decide) g_hpI ?_
        refine tz_iinc5 (n := 69) (g_at ck_X9_bestBed 37 rfl) rfl (by decide) g_hpI ?_
        refine tz_goto (tgt := 22) (g_at ck_X9_bestBed 38 rfl) rfl ?_
        refine tz_drop6 ?_
        have e9 : bbN Λ s (m 79) p t (i + 1) = (Λ 0 0 - 1 - (i : Int), bbG Λ s (m 79) p t (Λ 0 0 - 1 - (i : Int))) := (if_neg h35).trans (if_neg h56)
        exact gT_eq ihi rfl (by rw [e9, show Λ 0 0 - 1 - ((i + 1 : Nat) : Int) = Λ 0 0 - 1 - (i : Int) + -1 by omega])
