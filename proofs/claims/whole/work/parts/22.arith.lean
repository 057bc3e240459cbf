/-! The machine's arithmetic on numbers that are not below 0. -/
theorem bmid {z : Int} (h : -2147483648 ≤ z ∧ z < 2147483648) : Int.bmod z (2 ^ 32) = z := by
  have := w32_id h
  unfold w32 at this
  rw [Int32.toInt_ofInt] at this
  exact this
theorem i32n {n : Nat} (h : n < 2147483648) : (Int32.ofInt (n : Int)).toBitVec.toNat = n := by
  show (BitVec.ofInt 32 (n : Int)).toNat = n
  rw [BitVec.toNat_ofInt]
  omega
theorem i32t {a : Int32} (h : a.toBitVec.toNat < 2147483648) : a.toInt = (a.toBitVec.toNat : Int) := by
  show a.toBitVec.toInt = _
  exact BitVec.toInt_eq_toNat_of_lt (by omega)
theorem bDiv_nn {x y : Int} (hx : 0 ≤ x ∧ x < 2147483648) (hy : 0 < y ∧ y < 2147483648) : bDiv x y = x / y := by
  have h1 : x / y ≤ x := Int.ediv_le_self _ hx.1
  have h2 : 0 ≤ x / y := Int.ediv_nonneg hx.1 (by omega)
  unfold bDiv
  rw [Int32.toInt_div, Int32.toInt_ofInt_of_le (by omega) (by omega), Int32.toInt_ofInt_of_le (by omega) (by omega), Int.tdiv_eq_ediv_of_nonneg hx.1]
  exact bmid (by omega)
theorem bRem_nn {x y : Int} (hx : 0 ≤ x ∧ x < 2147483648) (hy : 0 < y ∧ y < 2147483648) : bRem x y = x % y := by
  have h1 : x / y ≤ x := Int.ediv_le_self _ hx.1
  have h2 : 0 ≤ x / y := Int.ediv_nonneg hx.1 (by omega)
  have h3 : x / y * y + x % y = x := Int.ediv_mul_add_emod x y
  have h4 := Int.emod_nonneg x (show y ≠ 0 by omega)
  have h5 : 0 ≤ x / y * y := Int.mul_nonneg h2 (by omega)
  have hd : (Int32.ofInt x / Int32.ofInt y).toInt = x / y := bDiv_nn hx hy
  unfold bRem
  rw [Int32.toInt_sub, Int32.toInt_mul, hd, Int32.toInt_ofInt_of_le (by omega) (by omega), Int32.toInt_ofInt_of_le (by omega) (by omega), bmid (z := x / y * y) (by omega), bmid (by omega)]
  omega
theorem bAnd_nn {a b : Nat} (ha : a < 2147483648) (hb : b < 2147483648) : bAnd a b = ((a &&& b : Nat) : Int) := by
  have h : a &&& b < 2147483648 := Nat.lt_of_le_of_lt Nat.and_le_left ha
  have e : (Int32.ofInt (a : Int) &&& Int32.ofInt (b : Int)).toBitVec.toNat = a &&& b := by
    rw [Int32.toBitVec_and, BitVec.toNat_and, i32n ha, i32n hb]
  unfold bAnd
  rw [i32t (by rw [e]; exact h), e]
theorem bOr_nn {a b : Nat} (ha : a < 2147483648) (hb : b < 2147483648) : bOr a b = ((a ||| b : Nat) : Int) := by
  have h : a ||| b < 2147483648 := Nat.or_lt_two_pow (n := 31) ha hb
  have e : (Int32.ofInt (a : Int) ||| Int32.ofInt (b : Int)).toBitVec.toNat = a ||| b := by
    rw [Int32.toBitVec_or, BitVec.toNat_or, i32n ha, i32n hb]
  unfold bOr
  rw [i32t (by rw [e]; exact h), e]
theorem bXor_nn {a b : Nat} (ha : a < 2147483648) (hb : b < 2147483648) : bXor a b = ((a ^^^ b : Nat) : Int) := by
  have h : a ^^^ b < 2147483648 := Nat.xor_lt_two_pow (n := 31) ha hb
  have e : (Int32.ofInt (a : Int) ^^^ Int32.ofInt (b : Int)).toBitVec.toNat = a ^^^ b := by
    rw [Int32.toBitVec_xor, BitVec.toNat_xor, i32n ha, i32n hb]
  unfold bXor
  rw [i32t (by rw [e]; exact h), e]
theorem sh_k : ∀ k : Nat, k < 32 → ((Int32.ofInt (k : Int) &&& 31).toBitVec.smod 32).toNat = k := by decide
theorem bShl_1 : ∀ k : Nat, k < 31 → bShl 1 (k : Int) = ((2 ^ k : Nat) : Int) := by decide
theorem bShr_nn {a k : Nat} (ha : a < 2147483648) (hk : k < 32) : bShr a k = ((a >>> k : Nat) : Int) := by
  have h : a >>> k ≤ a := Nat.shiftRight_le a k
  unfold bShr
  show ((Int32.ofInt (a : Int) >>> (Int32.ofInt (k : Int) &&& 31)).toBitVec).toInt = _
  rw [Int32.toBitVec_shiftRight]
  show (BitVec.sshiftRight _ ((Int32.ofInt (k : Int) &&& 31).toBitVec.smod 32).toNat).toInt = _
  rw [sh_k k hk, BitVec.toInt_sshiftRight]
  show (Int32.ofInt (a : Int)).toInt >>> k = _
  rw [Int32.toInt_ofInt_of_le (by omega) (by omega)]
  rfl
theorem bit_and1 (a k : Nat) : (a >>> k) &&& 1 = if a.testBit k then 1 else 0 := by
  unfold Nat.testBit
  rw [Nat.and_comm]
  have h : 1 &&& a >>> k ≤ 1 := Nat.and_le_left
  by_cases e : 1 &&& a >>> k = 0
  · rw [e]; rfl
  · have e1 : 1 &&& a >>> k = 1 := by omega
    rw [e1]; rfl
theorem bBit {a k : Nat} (ha : a < 2147483648) (hk : k < 32) : bAnd (bShr a k) 1 = if a.testBit k then 1 else 0 := by
  rw [bShr_nn ha hk]
  have h : a >>> k ≤ a := Nat.shiftRight_le a k
  have := bAnd_nn (a := a >>> k) (b := 1) (by omega) (by decide)
  rw [show ((1 : Nat) : Int) = 1 from rfl] at this
  rw [this, bit_and1]
  split <;> rfl
theorem bRem_40 {x : Int} (h : 0 ≤ x ∧ x ≤ 100) : bRem x 40 = x % 40 := bRem_nn (by omega) (by decide)
