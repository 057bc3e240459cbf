/-! The reference reads: words. -/
section
variable {l : Launch} {γ : Gh} {μ : MD} {d cb sb : Nat} {R : RR} {X : XX} {K : List Kd} {ρ m : Mm} {pc n : Nat} {ls : List (Option VV)} {st : List VV}
variable {μ' : MD} {d' mc' ms' cb' sb' idx : Nat} {QI : Int → Mm → Mm → Prop}
theorem g_ls_set2 {ad : Nat → Nat} {i : Nat} {v : VV} (hp : ∀ u, 0 < i → ls[i - 1]? = some (some u) → u.1 ≠ 1) (hq : ∀ u, ls[i + 1]? ≠ some (some u)) : ∀ q ∈ g_ls γ ad (ls.set i (some v)), q ∈ (i, tv γ ad v) :: (g_ls γ ad ls).filter (fun q => !(q.1 == i) && (!(q.1 == i + 1) && !(q.1 + 1 == i && q.2.category == 2))) := by
  intro q hq9
  obtain ⟨u, hu, h2⟩ := g_ls_mem.mp hq9
  by_cases hi : q.1 = i
  · have hlt : i < ls.length := by
      have := (List.getElem?_eq_some_iff.mp hu).1
      simp at this; omega
    rw [hi, List.getElem?_set_self hlt] at hu
    cases hu
    exact List.mem_cons.mpr (Or.inl (by rw [← h2, ← hi]))
  · rw [List.getElem?_set_ne (fun h => hi h.symm)] at hu
    have hi2 : q.1 ≠ i + 1 := fun h => hq u (by rw [← h]; exact hu)
    refine List.mem_cons_of_mem _ (List.mem_filter.mpr ⟨g_ls_mem.mpr ⟨u, hu, h2⟩, ?_⟩)
    simp only [Bool.and_eq_true, Bool.not_eq_true', beq_eq_false_iff_ne, ne_eq, hi, hi2, not_false_eq_true, true_and, Bool.and_eq_false_imp, beq_iff_eq]
    intro h3
    have := hp u (by omega) (by rw [← h3]; simpa using hu)
    rw [h2, tv_cat this]
    decide
theorem tz_lstore8 {a0 a1 a2 a3 a4 a5 a6 a7 old : Option VV} {x : Int} (hd : decode μ.2.1 pc = .ok (.lstore 8, 2)) (hn : pc + 2 = n) (hi : 9 < μ.2.2.1) (hp : ∀ u, a7 = some u → u.1 ≠ 1) (k : gT l γ μ d cb sb R X K ρ m n [a0, a1, a2, a3, a4, a5, a6, a7, some (vL x), none] st) : gT l γ μ d cb sb R X K ρ m pc [a0, a1, a2, a3, a4, a5, a6, a7, old, none] (vL x :: st) := by
  subst hn
  intro p e s mth args below meth c A K0 ad0 mc ms H locs cells slots ad lsr C E P D S hc hs hl
  exact lv_lstore C.1 C.2.1 hd hl hi rfl (fun ls' h' => k p e s mth args below meth c A K0 ad0 mc ms H locs cells slots ad ls' C E P D S hc hs (g_ls_sub h' (g_ls_set2 (ls := [a0, a1, a2, a3, a4, a5, a6, a7, old, none]) (i := 8) (v := vL x) (fun u _ h => hp u (by simpa using h)) (fun u h => by simp at h))))
theorem tz_csL8 {a1 a2 a3 a4 a5 a6 a7 a8 : VV} (hl9 : g_ML μ.1.cls idx μ'.1) (mo : g_MO μ') (mv : g_MS μ') (np : g_NP μ' 8) (hd : decode μ.2.1 pc = .ok (.invokestatic idx, 3)) (hE : gE l γ μ' d' mc' ms' (rL K QI) xN K ρ m [a1, a2, a3, a4, a5, a6, a7, a8]) (hh : μ'.2.2.2.2 = []) (hn : pc + 3 = n) (hdd : d' + 1 ≤ d ∧ μ'.2.2.1 ≤ 40) (hcat : g_cat st ≤ 8) (hcb : mc' + cb' ≤ cb) (hsb : ms' + sb' ≤ sb) (kk : ∀ (x : Int) (ρ9 m9 : Mm), QI x ρ9 m9 → gT l γ μ d cb' sb' R X K ρ9 m9 n ls (vL x :: st)) : gT l γ μ d cb sb R X K ρ m pc ls (a8 :: a7 :: a6 :: a5 :: a4 :: a3 :: a2 :: a1 :: st) := tz_csG (As := [a1, a2, a3, a4, a5, a6, a7, a8]) hl9 mo mv hh np hd hn hdd hcat hcb hsb hE (fun v ρ9 m9 h => by obtain ⟨x, rfl, h⟩ := h; exact kk x ρ9 m9 h)
end
theorem i64n {n : Nat} (h : n < 9223372036854775808) : (Int64.ofInt (n : Int)).toBitVec.toNat = n := by
  show (BitVec.ofInt 64 (n : Int)).toNat = n
  rw [BitVec.toNat_ofInt]
  omega
theorem i64t {a : Int64} (h : a.toBitVec.toNat < 9223372036854775808) : a.toInt = (a.toBitVec.toNat : Int) := by
  show a.toBitVec.toInt = _
  exact BitVec.toInt_eq_toNat_of_lt (by omega)
theorem lOr_nn {a b : Nat} (ha : a < 9223372036854775808) (hb : b < 9223372036854775808) : lOr a b = ((a ||| b : Nat) : Int) := by
  have h : a ||| b < 9223372036854775808 := Nat.or_lt_two_pow (n := 63) ha hb
  have e : (Int64.ofInt (a : Int) ||| Int64.ofInt (b : Int)).toBitVec.toNat = a ||| b := by
    rw [Int64.toBitVec_or, BitVec.toNat_or, i64n ha, i64n hb]
  unfold lOr
  rw [i64t (by rw [e]; exact h), e]
theorem sh5 : (((Int32.ofInt 5).toInt64 &&& 63).toBitVec.smod 64).toNat = 5 := by decide
theorem lShl_5 {a : Nat} (ha : a < 288230376151711744) : lShl a 5 = ((a * 32 : Nat) : Int) := by
  unfold lShl
  have e : (Int64.ofInt (a : Int) <<< ((Int32.ofInt 5).toInt64 &&& 63)).toBitVec.toNat = a * 32 := by
    rw [Int64.toBitVec_shiftLeft]
    show (BitVec.shiftLeft _ (((Int32.ofInt 5).toInt64 &&& 63).toBitVec.smod 64).toNat).toNat = _
    rw [sh5]
    have e5 : ∀ v : BitVec 64, (BitVec.shiftLeft v 5).toNat = v.toNat <<< 5 % 2 ^ 64 := fun v => BitVec.toNat_shiftLeft
    rw [e5, i64n (by omega), Nat.shiftLeft_eq]
    omega
  rw [i64t (by rw [e]; omega), e]
theorem or5 {a b : Nat} (ha : a < 288230376151711744) (hb : b < 32) : lOr (lShl a 5) b = ((a * 32 + b : Nat) : Int) := by
  rw [lShl_5 ha, lOr_nn (by omega) (by omega)]
  have h := Nat.shiftLeft_add_eq_or_of_lt (b := b) (i := 5) hb a
  rw [Nat.shiftLeft_eq] at h
  rw [show a * 32 = a * 2 ^ 5 from rfl, ← h]
/-- a word as a number -/
def nuN (f : Nat → Nat) (w : Nat) : Nat := fd (fun i v => v * 32 + f i) 0 w
theorem nuN_lt {f : Nat → Nat} : ∀ w : Nat, (∀ j, j < w → f j < 32) → nuN f w < 32 ^ w
  | 0, _ => Nat.lt_succ_self 0
  | w + 1, h => by
    have ih := nuN_lt w (fun j hj => h j (by omega))
    have := h w (by omega)
    show nuN f w * 32 + f w < 32 ^ (w + 1)
    rw [Nat.pow_succ]
    omega
theorem nuN_inj {f g : Nat → Nat} : ∀ w v : Nat, (∀ j, j < w → 1 ≤ f j ∧ f j < 32) → (∀ j, j < v → 1 ≤ g j ∧ g j < 32) → nuN f w = nuN g v → w = v ∧ ∀ j, j < w → f j = g j
  | 0, 0, _, _, _ => ⟨rfl, fun j h => absurd h (Nat.not_lt_zero j)⟩
  | 0, v + 1, _, h2, e => by
    have := h2 v (by omega)
    have e' : 0 = nuN g v * 32 + g v := e
    omega
  | w + 1, 0, h1, _, e => by
    have := h1 w (by omega)
    have e' : nuN f w * 32 + f w = 0 := e
    omega
  | w + 1, v + 1, h1, h2, e => by
    have a1 := h1 w (by omega)
    have a2 := h2 v (by omega)
    have e' : nuN f w * 32 + f w = nuN g v * 32 + g v := e
    have ih := nuN_inj w v (fun j hj => h1 j (by omega)) (fun j hj => h2 j (by omega)) (by omega)
    refine ⟨by omega, fun j hj => ?_⟩
    by_cases ej : j = w
    · rw [ej]
      have : f w = g v := by omega
      rw [this, ih.1]
    · exact ih.2 j (by omega)
theorem pkL_N {t : Int → Int} {a : Int} : ∀ w : Nat, w ≤ 8 → (∀ j : Nat, j < w → letter (t (a + (j : Int)))) → pkL t a w = (nuN (fun j => (t (a + (j : Int)) - 96).toNat) w : Int)
  | 0, _, _ => rfl
  | w + 1, hw, h => by
    have ih := pkL_N w (by omega) (fun j hj => h j (by omega))
    have hl := h w (by omega)
    unfold letter at hl
    have lt := nuN_lt (f := fun j => (t (a + (j : Int)) - 96).toNat) w (fun j hj => by have := h j (by omega); unfold letter at this; omega)
    have p8 : 32 ^ w ≤ 32 ^ 7 := Nat.pow_le_pow_right (by decide) (by omega)
    show lOr (lShl (pkL t a w) 5) (w32 (t (a + (w : Int)) - 96)) = ((nuN (fun j => (t (a + (j : Int)) - 96).toNat) w * 32 + (t (a + (w : Int)) - 96).toNat : Nat) : Int)
    rw [ih, w32_id (by omega), show t (a + (w : Int)) - 96 = (((t (a + (w : Int)) - 96).toNat : Nat) : Int) by omega, or5 (by omega) (by omega)]
    rw [show (((t (a + (w : Int)) - 96).toNat : Int)).toNat = (t (a + (w : Int)) - 96).toNat by omega]
def lW (k : Int) : Int := if k = 0 then 1613 else if k = 1 then 19367059 else if k = 2 then 17484389 else if k = 3 then 763528 else if k = 4 then 4153 else if k = 5 then 122930439623 else if k = 6 then 605220 else if k = 7 then 542723566 else if k = 8 then 8557715 else if k = 9 then 21678547 else if k = 10 then 1476 else if k = 11 then 498 else 14836
def iW (k : Int) : Nat := if k = 0 then 5 else if k = 1 then 8 else if k = 2 then 9 else if k = 3 then 10 else if k = 4 then 11 else if k = 5 then 2 else if k = 6 then 3 else if k = 7 then 4 else if k = 8 then 6 else if k = 9 then 14 else if k = 10 then 12 else if k = 11 then 13 else 7
theorem lW_nu : ∀ k : Nat, k < 13 → lW (k : Int) = (nuN (fun j => (sCh (iW (k : Int)) (j : Int) - 96).toNat) (sLen (iW (k : Int))).toNat : Int) ∧ (sLen (iW (k : Int))).toNat ≤ 8 ∧ ∀ j : Nat, j < 8 → j < (sLen (iW (k : Int))).toNat → letter (sCh (iW (k : Int)) (j : Int)) := by
  unfold letter
  decide +kernel
theorem sLen_0 (i : Nat) : 0 ≤ sLen i := by unfold sLen; omega
theorem lCmp_0 {x y : Int} (hx : 0 ≤ x ∧ x < 9223372036854775808) (hy : 0 ≤ y ∧ y < 9223372036854775808) : lCmp x y = 0 ↔ x = y := by
  have e : ∀ a b : Int64, (lg_cmp a b).toInt = 0 ↔ a = b := fun a b => by
    unfold lg_cmp
    by_cases h : a = b
    · rw [h]
      simp
    · simp [h]
      split <;> decide
  unfold lCmp
  rw [e]
  constructor
  · intro h
    have h2 : (Int64.ofInt x).toInt = (Int64.ofInt y).toInt := by rw [h]
    rw [Int64.toInt_ofInt_of_le (by omega) (by omega), Int64.toInt_ofInt_of_le (by omega) (by omega)] at h2
    exact h2
  · intro h; rw [h]
theorem mp_spelled0 {l : Launch} {γ : Gh} {ρ m : Mm} (hR : MR m) : gE l γ μX11_spelled 0 0 0 (rL KK fun x ρ9 m9 => ρ = ρ9 ∧ MR m9 ∧ (1613 : Int) = x ∧ m = m9) xN KK ρ m [vI 97, vI 114, vI 109, vI 0, vI 0, vI 0, vI 0, vI 0] := by
  refine gE.ofw cl_X11.2 ?_ rfl rfl (Nat.le_of_ble_eq_true rfl)
  show gT l γ μX11_spelled 0 0 0 _ _ KK ρ m 0 [some (vI 97), some (vI 114), some (vI 109), some (vI 0), some (vI 0), some (vI 0), some (vI 0), some (vI 0), none, none] []
  refine tz_iload0 (n := 1) (g_at ck_X11_spelled 0 rfl) rfl ?_
  refine tz_i2l (n := 2) (g_at ck_X11_spelled 1 rfl) rfl ?_
  refine tz_ldcL (n := 5) kn_X11_178 (g_at ck_X11_spelled 2 rfl) rfl ?_
  refine tz_lsub (n := 6) (g_at ck_X11_spelled 3 rfl) rfl ?_
  refine tz_iconst (n := 7) (g_at ck_X11_spelled 4 rfl) rfl ?_
  refine tz_lshl (n := 8) (g_at ck_X11_spelled 5 rfl) rfl ?_
  refine tz_iload1 (n := 9) (g_at ck_X11_spelled 6 rfl) rfl ?_
  refine tz_bipush (n := 11) (g_at ck_X11_spelled 7 rfl) rfl rfl ?_
  refine tz_isub (n := 12) (g_at ck_X11_spelled 8 rfl) rfl ?_
  refine tz_i2l (n := 13) (g_at ck_X11_spelled 9 rfl) rfl ?_
  refine tz_lor (n := 14) (g_at ck_X11_spelled 10 rfl) rfl ?_
  refine tz_lstore8 (n := 16) (g_at ck_X11_spelled 11 rfl) rfl (by decide) g_hpI ?_
  refine tz_iload2 (n := 17) (g_at ck_X11_spelled 12 rfl) rfl ?_
  refine tz_if_eq (n := 20) (tgt := 32) (g_at ck_X11_spelled 13 rfl) rfl rfl (by decide) (fun h17 => absurd h17 (by omega)) (fun h17 => ?_)
  refine tz_lload8 (n := 22) (g_at ck_X11_spelled 14 rfl) rfl ?_
  refine tz_iconst (n := 23) (g_at ck_X11_spelled 15 rfl) rfl ?_
  refine tz_lshl (n := 24) (g_at ck_X11_spelled 16 rfl) rfl ?_
  refine tz_iload2 (n := 25) (g_at ck_X11_spelled 17 rfl) rfl ?_
  refine tz_bipush (n := 27) (g_at ck_X11_spelled 18 rfl) rfl rfl ?_
  refine tz_isub (n := 28) (g_at ck_X11_spelled 19 rfl) rfl ?_
  refine tz_i2l (n := 29) (g_at ck_X11_spelled 20 rfl) rfl ?_
  refine tz_lor (n := 30) (g_at ck_X11_spelled 21 rfl) rfl ?_
  refine tz_lstore8 (n := 32) (g_at ck_X11_spelled 22 rfl) rfl (by decide) g_hpI ?_
  refine tz_iload3 (n := 33) (g_at ck_X11_spelled 23 rfl) rfl ?_
  refine tz_if_eq (n := 36) (tgt := 48) (g_at ck_X11_spelled 24 rfl) rfl rfl (by decide) (fun h33 => ?_) (fun h33 => absurd h33 (by omega))
  refine tz_iload4 (n := 50) (g_at ck_X11_spelled 34 rfl) rfl ?_
  refine tz_if_eq (n := 53) (tgt := 66) (g_at ck_X11_spelled 35 rfl) rfl rfl (by decide) (fun h50 => ?_) (fun h50 => absurd h50 (by omega))
  refine tz_iload5 (n := 68) (g_at ck_X11_spelled 45 rfl) rfl ?_
  refine tz_if_eq (n := 71) (tgt := 84) (g_at ck_X11_spelled 46 rfl) rfl rfl (by decide) (fun h68 => ?_) (fun h68 => absurd h68 (by omega))
  refine tz_iload6 (n := 86) (g_at ck_X11_spelled 56 rfl) rfl ?_
  refine tz_if_eq (n := 89) (tgt := 102) (g_at ck_X11_spelled 57 rfl) rfl rfl (by decide) (fun h86 => ?_) (fun h86 => absurd h86 (by omega))
  refine tz_iload7 (n := 104) (g_at ck_X11_spelled 67 rfl) rfl ?_
  refine tz_if_eq (n := 107) (tgt := 120) (g_at ck_X11_spelled 68 rfl) rfl rfl (by decide) (fun h104 => ?_) (fun h104 => absurd h104 (by omega))
  refine tz_lload8 (n := 122) (g_at ck_X11_spelled 78 rfl) rfl ?_
  exact tz_lret (g_at ck_X11_spelled 79 rfl) rfl (rL_mk ⟨rfl, hR, by decide +kernel, rfl⟩)
theorem mp_spelled1 {l : Launch} {γ : Gh} {ρ m : Mm} (hR : MR m) : gE l γ μX11_spelled 0 0 0 (rL KK fun x ρ9 m9 => ρ = ρ9 ∧ MR m9 ∧ (19367059 : Int) = x ∧ m = m9) xN KK ρ m [vI 114, vI 111, vI 97, vI 100, vI 115, vI 0, vI 0, vI 0] := by
  refine gE.ofw cl_X11.2 ?_ rfl rfl (Nat.le_of_ble_eq_true rfl)
  show gT l γ μX11_spelled 0 0 0 _ _ KK ρ m 0 [some (vI 114), some (vI 111), some (vI 97), some (vI 100), some (vI 115), some (vI 0), some (vI 0), some (vI 0), none, none] []
  refine tz_iload0 (n := 1) (g_at ck_X11_spelled 0 rfl) rfl ?_
  refine tz_i2l (n := 2) (g_at ck_X11_spelled 1 rfl) rfl ?_
  refine tz_ldcL (n := 5) kn_X11_178 (g_at ck_X11_spelled 2 rfl) rfl ?_
  refine tz_lsub (n := 6) (g_at ck_X11_spelled 3 rfl) rfl ?_
  refine tz_iconst (n := 7) (g_at ck_X11_spelled 4 rfl) rfl ?_
  refine tz_lshl (n := 8) (g_at ck_X11_spelled 5 rfl) rfl ?_
  refine tz_iload1 (n := 9) (g_at ck_X11_spelled 6 rfl) rfl ?_
  refine tz_bipush (n := 11) (g_at ck_X11_spelled 7 rfl) rfl rfl ?_
  refine tz_isub (n := 12) (g_at ck_X11_spelled 8 rfl) rfl ?_
  refine tz_i2l (n := 13) (g_at ck_X11_spelled 9 rfl) rfl ?_
  refine tz_lor (n := 14) (g_at ck_X11_spelled 10 rfl) rfl ?_
  refine tz_lstore8 (n := 16) (g_at ck_X11_spelled 11 rfl) rfl (by decide) g_hpI ?_
  refine tz_iload2 (n := 17) (g_at ck_X11_spelled 12 rfl) rfl ?_
  refine tz_if_eq (n := 20) (tgt := 32) (g_at ck_X11_spelled 13 rfl) rfl rfl (by decide) (fun h17 => absurd h17 (by omega)) (fun h17 => ?_)
  refine tz_lload8 (n := 22) (g_at ck_X11_spelled 14 rfl) rfl ?_
  refine tz_iconst (n := 23) (g_at ck_X11_spelled 15 rfl) rfl ?_
  refine tz_lshl (n := 24) (g_at ck_X11_spelled 16 rfl) rfl ?_
  refine tz_iload2 (n := 25) (g_at ck_X11_spelled 17 rfl) rfl ?_
  refine tz_bipush (n := 27) (g_at ck_X11_spelled 18 rfl) rfl rfl ?_
  refine tz_isub (n := 28) (g_at ck_X11_spelled 19 rfl) rfl ?_
  refine tz_i2l (n := 29) (g_at ck_X11_spelled 20 rfl) rfl ?_
  refine tz_lor (n := 30) (g_at ck_X11_spelled 21 rfl) rfl ?_
  refine tz_lstore8 (n := 32) (g_at ck_X11_spelled 22 rfl) rfl (by decide) g_hpI ?_
  refine tz_iload3 (n := 33) (g_at ck_X11_spelled 23 rfl) rfl ?_
  refine tz_if_eq (n := 36) (tgt := 48) (g_at ck_X11_spelled 24 rfl) rfl rfl (by decide) (fun h33 => absurd h33 (by omega)) (fun h33 => ?_)
  refine tz_lload8 (n := 38) (g_at ck_X11_spelled 25 rfl) rfl ?_
  refine tz_iconst (n := 39) (g_at ck_X11_spelled 26 rfl) rfl ?_
  refine tz_lshl (n := 40) (g_at ck_X11_spelled 27 rfl) rfl ?_
  refine tz_iload3 (n := 41) (g_at ck_X11_spelled 28 rfl) rfl ?_
  refine tz_bipush (n := 43) (g_at ck_X11_spelled 29 rfl) rfl rfl ?_
  refine tz_isub (n := 44) (g_at ck_X11_spelled 30 rfl) rfl ?_
  refine tz_i2l (n := 45) (g_at ck_X11_spelled 31 rfl) rfl ?_
  refine tz_lor (n := 46) (g_at ck_X11_spelled 32 rfl) rfl ?_
  refine tz_lstore8 (n := 48) (g_at ck_X11_spelled 33 rfl) rfl (by decide) g_hpI ?_
  refine tz_iload4 (n := 50) (g_at ck_X11_spelled 34 rfl) rfl ?_
  refine tz_if_eq (n := 53) (tgt := 66) (g_at ck_X11_spelled 35 rfl) rfl rfl (by decide) (fun h50 => absurd h50 (by omega)) (fun h50 => ?_)
  refine tz_lload8 (n := 55) (g_at ck_X11_spelled 36 rfl) rfl ?_
  refine tz_iconst (n := 56) (g_at ck_X11_spelled 37 rfl) rfl ?_
  refine tz_lshl (n := 57) (g_at ck_X11_spelled 38 rfl) rfl ?_
  refine tz_iload4 (n := 59) (g_at ck_X11_spelled 39 rfl) rfl ?_
  refine tz_bipush (n := 61) (g_at ck_X11_spelled 40 rfl) rfl rfl ?_
  refine tz_isub (n := 62) (g_at ck_X11_spelled 41 rfl) rfl ?_
  refine tz_i2l (n := 63) (g_at ck_X11_spelled 42 rfl) rfl ?_
  refine tz_lor (n := 64) (g_at ck_X11_spelled 43 rfl) rfl ?_
  refine tz_lstore8 (n := 66) (g_at ck_X11_spelled 44 rfl) rfl (by decide) g_hpI ?_
  refine tz_iload5 (n := 68) (g_at ck_X11_spelled 45 rfl) rfl ?_
  refine tz_if_eq (n := 71) (tgt := 84) (g_at ck_X11_spelled 46 rfl) rfl rfl (by decide) (fun h68 => ?_) (fun h68 => absurd h68 (by omega))
  refine tz_iload6 (n := 86) (g_at ck_X11_spelled 56 rfl) rfl ?_
  refine tz_if_eq (n := 89) (tgt := 102) (g_at ck_X11_spelled 57 rfl) rfl rfl (by decide) (fun h86 => ?_) (fun h86 => absurd h86 (by omega))
  refine tz_iload7 (n := 104) (g_at ck_X11_spelled 67 rfl) rfl ?_
  refine tz_if_eq (n := 107) (tgt := 120) (g_at ck_X11_spelled 68 rfl) rfl rfl (by decide) (fun h104 => ?_) (fun h104 => absurd h104 (by omega))
  refine tz_lload8 (n := 122) (g_at ck_X11_spelled 78 rfl) rfl ?_
  exact tz_lret (g_at ck_X11_spelled 79 rfl) rfl (rL_mk ⟨rfl, hR, by decide +kernel, rfl⟩)
theorem mp_spelled2 {l : Launch} {γ : Gh} {ρ m : Mm} (hR : MR m) : gE l γ μX11_spelled 0 0 0 (rL KK fun x ρ9 m9 => ρ = ρ9 ∧ MR m9 ∧ (17484389 : Int) = x ∧ m = m9) xN KK ρ m [vI 112, vI 117, vI 114, vI 115, vI 101, vI 0, vI 0, vI 0] := by
  refine gE.ofw cl_X11.2 ?_ rfl rfl (Nat.le_of_ble_eq_true rfl)
  show gT l γ μX11_spelled 0 0 0 _ _ KK ρ m 0 [some (vI 112), some (vI 117), some (vI 114), some (vI 115), some (vI 101), some (vI 0), some (vI 0), some (vI 0), none, none] []
  refine tz_iload0 (n := 1) (g_at ck_X11_spelled 0 rfl) rfl ?_
  refine tz_i2l (n := 2) (g_at ck_X11_spelled 1 rfl) rfl ?_
  refine tz_ldcL (n := 5) kn_X11_178 (g_at ck_X11_spelled 2 rfl) rfl ?_
  refine tz_lsub (n := 6) (g_at ck_X11_spelled 3 rfl) rfl ?_
  refine tz_iconst (n := 7) (g_at ck_X11_spelled 4 rfl) rfl ?_
  refine tz_lshl (n := 8) (g_at ck_X11_spelled 5 rfl) rfl ?_
  refine tz_iload1 (n := 9) (g_at ck_X11_spelled 6 rfl) rfl ?_
  refine tz_bipush (n := 11) (g_at ck_X11_spelled 7 rfl) rfl rfl ?_
  refine tz_isub (n := 12) (g_at ck_X11_spelled 8 rfl) rfl ?_
  refine tz_i2l (n := 13) (g_at ck_X11_spelled 9 rfl) rfl ?_
  refine tz_lor (n := 14) (g_at ck_X11_spelled 10 rfl) rfl ?_
  refine tz_lstore8 (n := 16) (g_at ck_X11_spelled 11 rfl) rfl (by decide) g_hpI ?_
  refine tz_iload2 (n := 17) (g_at ck_X11_spelled 12 rfl) rfl ?_
  refine tz_if_eq (n := 20) (tgt := 32) (g_at ck_X11_spelled 13 rfl) rfl rfl (by decide) (fun h17 => absurd h17 (by omega)) (fun h17 => ?_)
  refine tz_lload8 (n := 22) (g_at ck_X11_spelled 14 rfl) rfl ?_
  refine tz_iconst (n := 23) (g_at ck_X11_spelled 15 rfl) rfl ?_
  refine tz_lshl (n := 24) (g_at ck_X11_spelled 16 rfl) rfl ?_
  refine tz_iload2 (n := 25) (g_at ck_X11_spelled 17 rfl) rfl ?_
  refine tz_bipush (n := 27) (g_at ck_X11_spelled 18 rfl) rfl rfl ?_
  refine tz_isub (n := 28) (g_at ck_X11_spelled 19 rfl) rfl ?_
  refine tz_i2l (n := 29) (g_at ck_X11_spelled 20 rfl) rfl ?_
  refine tz_lor (n := 30) (g_at ck_X11_spelled 21 rfl) rfl ?_
  refine tz_lstore8 (n := 32) (g_at ck_X11_spelled 22 rfl) rfl (by decide) g_hpI ?_
  refine tz_iload3 (n := 33) (g_at ck_X11_spelled 23 rfl) rfl ?_
  refine tz_if_eq (n := 36) (tgt := 48) (g_at ck_X11_spelled 24 rfl) rfl rfl (by decide) (fun h33 => absurd h33 (by omega)) (fun h33 => ?_)
  refine tz_lload8 (n := 38) (g_at ck_X11_spelled 25 rfl) rfl ?_
  refine tz_iconst (n := 39) (g_at ck_X11_spelled 26 rfl) rfl ?_
  refine tz_lshl (n := 40) (g_at ck_X11_spelled 27 rfl) rfl ?_
  refine tz_iload3 (n := 41) (g_at ck_X11_spelled 28 rfl) rfl ?_
  refine tz_bipush (n := 43) (g_at ck_X11_spelled 29 rfl) rfl rfl ?_
  refine tz_isub (n := 44) (g_at ck_X11_spelled 30 rfl) rfl ?_
  refine tz_i2l (n := 45) (g_at ck_X11_spelled 31 rfl) rfl ?_
  refine tz_lor (n := 46) (g_at ck_X11_spelled 32 rfl) rfl ?_
  refine tz_lstore8 (n := 48) (g_at ck_X11_spelled 33 rfl) rfl (by decide) g_hpI ?_
  refine tz_iload4 (n := 50) (g_at ck_X11_spelled 34 rfl) rfl ?_
  refine tz_if_eq (n := 53) (tgt := 66) (g_at ck_X11_spelled 35 rfl) rfl rfl (by decide) (fun h50 => absurd h50 (by omega)) (fun h50 => ?_)
  refine tz_lload8 (n := 55) (g_at ck_X11_spelled 36 rfl) rfl ?_
  refine tz_iconst (n := 56) (g_at ck_X11_spelled 37 rfl) rfl ?_
  refine tz_lshl (n := 57) (g_at ck_X11_spelled 38 rfl) rfl ?_
  refine tz_iload4 (n := 59) (g_at ck_X11_spelled 39 rfl) rfl ?_
  refine tz_bipush (n := 61) (g_at ck_X11_spelled 40 rfl) rfl rfl ?_
  refine tz_isub (n := 62) (g_at ck_X11_spelled 41 rfl) rfl ?_
  refine tz_i2l (n := 63) (g_at ck_X11_spelled 42 rfl) rfl ?_
  refine tz_lor (n := 64) (g_at ck_X11_spelled 43 rfl) rfl ?_
  refine tz_lstore8 (n := 66) (g_at ck_X11_spelled 44 rfl) rfl (by decide) g_hpI ?_
  refine tz_iload5 (n := 68) (g_at ck_X11_spelled 45 rfl) rfl ?_
  refine tz_if_eq (n := 71) (tgt := 84) (g_at ck_X11_spelled 46 rfl) rfl rfl (by decide) (fun h68 => ?_) (fun h68 => absurd h68 (by omega))
  refine tz_iload6 (n := 86) (g_at ck_X11_spelled 56 rfl) rfl ?_
  refine tz_if_eq (n := 89) (tgt := 102) (g_at ck_X11_spelled 57 rfl) rfl rfl (by decide) (fun h86 => ?_) (fun h86 => absurd h86 (by omega))
  refine tz_iload7 (n := 104) (g_at ck_X11_spelled 67 rfl) rfl ?_
  refine tz_if_eq (n := 107) (tgt := 120) (g_at ck_X11_spelled 68 rfl) rfl rfl (by decide) (fun h104 => ?_) (fun h104 => absurd h104 (by omega))
  refine tz_lload8 (n := 122) (g_at ck_X11_spelled 78 rfl) rfl ?_
  exact tz_lret (g_at ck_X11_spelled 79 rfl) rfl (rL_mk ⟨rfl, hR, by decide +kernel, rfl⟩)
theorem mp_spelled3 {l : Launch} {γ : Gh} {ρ m : Mm} (hR : MR m) : gE l γ μX11_spelled 0 0 0 (rL KK fun x ρ9 m9 => ρ = ρ9 ∧ MR m9 ∧ (763528 : Int) = x ∧ m = m9) xN KK ρ m [vI 119, vI 105, vI 116, vI 104, vI 0, vI 0, vI 0, vI 0] := by
  refine gE.ofw cl_X11.2 ?_ rfl rfl (Nat.le_of_ble_eq_true rfl)
  show gT l γ μX11_spelled 0 0 0 _ _ KK ρ m 0 [some (vI 119), some (vI 105), some (vI 116), some (vI 104), some (vI 0), some (vI 0), some (vI 0), some (vI 0), none, none] []
  refine tz_iload0 (n := 1) (g_at ck_X11_spelled 0 rfl) rfl ?_
  refine tz_i2l (n := 2) (g_at ck_X11_spelled 1 rfl) rfl ?_
  refine tz_ldcL (n := 5) kn_X11_178 (g_at ck_X11_spelled 2 rfl) rfl ?_
  refine tz_lsub (n := 6) (g_at ck_X11_spelled 3 rfl) rfl ?_
  refine tz_iconst (n := 7) (g_at ck_X11_spelled 4 rfl) rfl ?_
  refine tz_lshl (n := 8) (g_at ck_X11_spelled 5 rfl) rfl ?_
  refine tz_iload1 (n := 9) (g_at ck_X11_spelled 6 rfl) rfl ?_
  refine tz_bipush (n := 11) (g_at ck_X11_spelled 7 rfl) rfl rfl ?_
  refine tz_isub (n := 12) (g_at ck_X11_spelled 8 rfl) rfl ?_
  refine tz_i2l (n := 13) (g_at ck_X11_spelled 9 rfl) rfl ?_
  refine tz_lor (n := 14) (g_at ck_X11_spelled 10 rfl) rfl ?_
  refine tz_lstore8 (n := 16) (g_at ck_X11_spelled 11 rfl) rfl (by decide) g_hpI ?_
  refine tz_iload2 (n := 17) (g_at ck_X11_spelled 12 rfl) rfl ?_
  refine tz_if_eq (n := 20) (tgt := 32) (g_at ck_X11_spelled 13 rfl) rfl rfl (by decide) (fun h17 => absurd h17 (by omega)) (fun h17 => ?_)
  refine tz_lload8 (n := 22) (g_at ck_X11_spelled 14 rfl) rfl ?_
  refine tz_iconst (n := 23) (g_at ck_X11_spelled 15 rfl) rfl ?_
  refine tz_lshl (n := 24) (g_at ck_X11_spelled 16 rfl) rfl ?_
  refine tz_iload2 (n := 25) (g_at ck_X11_spelled 17 rfl) rfl ?_
  refine tz_bipush (n := 27) (g_at ck_X11_spelled 18 rfl) rfl rfl ?_
  refine tz_isub (n := 28) (g_at ck_X11_spelled 19 rfl) rfl ?_
  refine tz_i2l (n := 29) (g_at ck_X11_spelled 20 rfl) rfl ?_
  refine tz_lor (n := 30) (g_at ck_X11_spelled 21 rfl) rfl ?_
  refine tz_lstore8 (n := 32) (g_at ck_X11_spelled 22 rfl) rfl (by decide) g_hpI ?_
  refine tz_iload3 (n := 33) (g_at ck_X11_spelled 23 rfl) rfl ?_
  refine tz_if_eq (n := 36) (tgt := 48) (g_at ck_X11_spelled 24 rfl) rfl rfl (by decide) (fun h33 => absurd h33 (by omega)) (fun h33 => ?_)
  refine tz_lload8 (n := 38) (g_at ck_X11_spelled 25 rfl) rfl ?_
  refine tz_iconst (n := 39) (g_at ck_X11_spelled 26 rfl) rfl ?_
  refine tz_lshl (n := 40) (g_at ck_X11_spelled 27 rfl) rfl ?_
  refine tz_iload3 (n := 41) (g_at ck_X11_spelled 28 rfl) rfl ?_
  refine tz_bipush (n := 43) (g_at ck_X11_spelled 29 rfl) rfl rfl ?_
  refine tz_isub (n := 44) (g_at ck_X11_spelled 30 rfl) rfl ?_
  refine tz_i2l (n := 45) (g_at ck_X11_spelled 31 rfl) rfl ?_
  refine tz_lor (n := 46) (g_at ck_X11_spelled 32 rfl) rfl ?_
  refine tz_lstore8 (n := 48) (g_at ck_X11_spelled 33 rfl) rfl (by decide) g_hpI ?_
  refine tz_iload4 (n := 50) (g_at ck_X11_spelled 34 rfl) rfl ?_
  refine tz_if_eq (n := 53) (tgt := 66) (g_at ck_X11_spelled 35 rfl) rfl rfl (by decide) (fun h50 => ?_) (fun h50 => absurd h50 (by omega))
  refine tz_iload5 (n := 68) (g_at ck_X11_spelled 45 rfl) rfl ?_
  refine tz_if_eq (n := 71) (tgt := 84) (g_at ck_X11_spelled 46 rfl) rfl rfl (by decide) (fun h68 => ?_) (fun h68 => absurd h68 (by omega))
  refine tz_iload6 (n := 86) (g_at ck_X11_spelled 56 rfl) rfl ?_
  refine tz_if_eq (n := 89) (tgt := 102) (g_at ck_X11_spelled 57 rfl) rfl rfl (by decide) (fun h86 => ?_) (fun h86 => absurd h86 (by omega))
  refine tz_iload7 (n := 104) (g_at ck_X11_spelled 67 rfl) rfl ?_
  refine tz_if_eq (n := 107) (tgt := 120) (g_at ck_X11_spelled 68 rfl) rfl rfl (by decide) (fun h104 => ?_) (fun h104 => absurd h104 (by omega))
  refine tz_lload8 (n := 122) (g_at ck_X11_spelled 78 rfl) rfl ?_
  exact tz_lret (g_at ck_X11_spelled 79 rfl) rfl (rL_mk ⟨rfl, hR, by decide +kernel, rfl⟩)
theorem mp_spelled4 {l : Launch} {γ : Gh} {ρ m : Mm} (hR : MR m) : gE l γ μX11_spelled 0 0 0 (rL KK fun x ρ9 m9 => ρ = ρ9 ∧ MR m9 ∧ (4153 : Int) = x ∧ m = m9) xN KK ρ m [vI 100, vI 97, vI 121, vI 0, vI 0, vI 0, vI 0, vI 0] := by
  refine gE.ofw cl_X11.2 ?_ rfl rfl (Nat.le_of_ble_eq_true rfl)
  show gT l γ μX11_spelled 0 0 0 _ _ KK ρ m 0 [some (vI 100), some (vI 97), some (vI 121), some (vI 0), some (vI 0), some (vI 0), some (vI 0), some (vI 0), none, none] []
  refine tz_iload0 (n := 1) (g_at ck_X11_spelled 0 rfl) rfl ?_
  refine tz_i2l (n := 2) (g_at ck_X11_spelled 1 rfl) rfl ?_
  refine tz_ldcL (n := 5) kn_X11_178 (g_at ck_X11_spelled 2 rfl) rfl ?_
  refine tz_lsub (n := 6) (g_at ck_X11_spelled 3 rfl) rfl ?_
  refine tz_iconst (n := 7) (g_at ck_X11_spelled 4 rfl) rfl ?_
  refine tz_lshl (n := 8) (g_at ck_X11_spelled 5 rfl) rfl ?_
  refine tz_iload1 (n := 9) (g_at ck_X11_spelled 6 rfl) rfl ?_
  refine tz_bipush (n := 11) (g_at ck_X11_spelled 7 rfl) rfl rfl ?_
  refine tz_isub (n := 12) (g_at ck_X11_spelled 8 rfl) rfl ?_
  refine tz_i2l (n := 13) (g_at ck_X11_spelled 9 rfl) rfl ?_
  refine tz_lor (n := 14) (g_at ck_X11_spelled 10 rfl) rfl ?_
  refine tz_lstore8 (n := 16) (g_at ck_X11_spelled 11 rfl) rfl (by decide) g_hpI ?_
  refine tz_iload2 (n := 17) (g_at ck_X11_spelled 12 rfl) rfl ?_
  refine tz_if_eq (n := 20) (tgt := 32) (g_at ck_X11_spelled 13 rfl) rfl rfl (by decide) (fun h17 => absurd h17 (by omega)) (fun h17 => ?_)
  refine tz_lload8 (n := 22) (g_at ck_X11_spelled 14 rfl) rfl ?_
  refine tz_iconst (n := 23) (g_at ck_X11_spelled 15 rfl) rfl ?_
  refine tz_lshl (n := 24) (g_at ck_X11_spelled 16 rfl) rfl ?_
  refine tz_iload2 (n := 25) (g_at ck_X11_spelled 17 rfl) rfl ?_
  refine tz_bipush (n := 27) (g_at ck_X11_spelled 18 rfl) rfl rfl ?_
  refine tz_isub (n := 28) (g_at ck_X11_spelled 19 rfl) rfl ?_
  refine tz_i2l (n := 29) (g_at ck_X11_spelled 20 rfl) rfl ?_
  refine tz_lor (n := 30) (g_at ck_X11_spelled 21 rfl) rfl ?_
  refine tz_lstore8 (n := 32) (g_at ck_X11_spelled 22 rfl) rfl (by decide) g_hpI ?_
  refine tz_iload3 (n := 33) (g_at ck_X11_spelled 23 rfl) rfl ?_
  refine tz_if_eq (n := 36) (tgt := 48) (g_at ck_X11_spelled 24 rfl) rfl rfl (by decide) (fun h33 => ?_) (fun h33 => absurd h33 (by omega))
  refine tz_iload4 (n := 50) (g_at ck_X11_spelled 34 rfl) rfl ?_
  refine tz_if_eq (n := 53) (tgt := 66) (g_at ck_X11_spelled 35 rfl) rfl rfl (by decide) (fun h50 => ?_) (fun h50 => absurd h50 (by omega))
  refine tz_iload5 (n := 68) (g_at ck_X11_spelled 45 rfl) rfl ?_
  refine tz_if_eq (n := 71) (tgt := 84) (g_at ck_X11_spelled 46 rfl) rfl rfl (by decide) (fun h68 => ?_) (fun h68 => absurd h68 (by omega))
  refine tz_iload6 (n := 86) (g_at ck_X11_spelled 56 rfl) rfl ?_
  refine tz_if_eq (n := 89) (tgt := 102) (g_at ck_X11_spelled 57 rfl) rfl rfl (by decide) (fun h86 => ?_) (fun h86 => absurd h86 (by omega))
  refine tz_iload7 (n := 104) (g_at ck_X11_spelled 67 rfl) rfl ?_
  refine tz_if_eq (n := 107) (tgt := 120) (g_at ck_X11_spelled 68 rfl) rfl rfl (by decide) (fun h104 => ?_) (fun h104 => absurd h104 (by omega))
  refine tz_lload8 (n := 122) (g_at ck_X11_spelled 78 rfl) rfl ?_
  exact tz_lret (g_at ck_X11_spelled 79 rfl) rfl (rL_mk ⟨rfl, hR, by decide +kernel, rfl⟩)
theorem mp_spelled5 {l : Launch} {γ : Gh} {ρ m : Mm} (hR : MR m) : gE l γ μX11_spelled 0 0 0 (rL KK fun x ρ9 m9 => ρ = ρ9 ∧ MR m9 ∧ (122930439623 : Int) = x ∧ m = m9) xN KK ρ m [vI 99, vI 114, vI 111, vI 115, vI 115, vI 105, vI 110, vI 103] := by
  refine gE.ofw cl_X11.2 ?_ rfl rfl (Nat.le_of_ble_eq_true rfl)
  show gT l γ μX11_spelled 0 0 0 _ _ KK ρ m 0 [some (vI 99), some (vI 114), some (vI 111), some (vI 115), some (vI 115), some (vI 105), some (vI 110), some (vI 103), none, none] []
  refine tz_iload0 (n := 1) (g_at ck_X11_spelled 0 rfl) rfl ?_
  refine tz_i2l (n := 2) (g_at ck_X11_spelled 1 rfl) rfl ?_
  refine tz_ldcL (n := 5) kn_X11_178 (g_at ck_X11_spelled 2 rfl) rfl ?_
  refine tz_lsub (n := 6) (g_at ck_X11_spelled 3 rfl) rfl ?_
  refine tz_iconst (n := 7) (g_at ck_X11_spelled 4 rfl) rfl ?_
  refine tz_lshl (n := 8) (g_at ck_X11_spelled 5 rfl) rfl ?_
  refine tz_iload1 (n := 9) (g_at ck_X11_spelled 6 rfl) rfl ?_
  refine tz_bipush (n := 11) (g_at ck_X11_spelled 7 rfl) rfl rfl ?_
  refine tz_isub (n := 12) (g_at ck_X11_spelled 8 rfl) rfl ?_
  refine tz_i2l (n := 13) (g_at ck_X11_spelled 9 rfl) rfl ?_
  refine tz_lor (n := 14) (g_at ck_X11_spelled 10 rfl) rfl ?_
  refine tz_lstore8 (n := 16) (g_at ck_X11_spelled 11 rfl) rfl (by decide) g_hpI ?_
  refine tz_iload2 (n := 17) (g_at ck_X11_spelled 12 rfl) rfl ?_
  refine tz_if_eq (n := 20) (tgt := 32) (g_at ck_X11_spelled 13 rfl) rfl rfl (by decide) (fun h17 => absurd h17 (by omega)) (fun h17 => ?_)
  refine tz_lload8 (n := 22) (g_at ck_X11_spelled 14 rfl) rfl ?_
  refine tz_iconst (n := 23) (g_at ck_X11_spelled 15 rfl) rfl ?_
  refine tz_lshl (n := 24) (g_at ck_X11_spelled 16 rfl) rfl ?_
  refine tz_iload2 (n := 25) (g_at ck_X11_spelled 17 rfl) rfl ?_
  refine tz_bipush (n := 27) (g_at ck_X11_spelled 18 rfl) rfl rfl ?_
  refine tz_isub (n := 28) (g_at ck_X11_spelled 19 rfl) rfl ?_
  refine tz_i2l (n := 29) (g_at ck_X11_spelled 20 rfl) rfl ?_
  refine tz_lor (n := 30) (g_at ck_X11_spelled 21 rfl) rfl ?_
  refine tz_lstore8 (n := 32) (g_at ck_X11_spelled 22 rfl) rfl (by decide) g_hpI ?_
  refine tz_iload3 (n := 33) (g_at ck_X11_spelled 23 rfl) rfl ?_
  refine tz_if_eq (n := 36) (tgt := 48) (g_at ck_X11_spelled 24 rfl) rfl rfl (by decide) (fun h33 => absurd h33 (by omega)) (fun h33 => ?_)
  refine tz_lload8 (n := 38) (g_at ck_X11_spelled 25 rfl) rfl ?_
  refine tz_iconst (n := 39) (g_at ck_X11_spelled 26 rfl) rfl ?_
  refine tz_lshl (n := 40) (g_at ck_X11_spelled 27 rfl) rfl ?_
  refine tz_iload3 (n := 41) (g_at ck_X11_spelled 28 rfl) rfl ?_
  refine tz_bipush (n := 43) (g_at ck_X11_spelled 29 rfl) rfl rfl ?_
  refine tz_isub (n := 44) (g_at ck_X11_spelled 30 rfl) rfl ?_
  refine tz_i2l (n := 45) (g_at ck_X11_spelled 31 rfl) rfl ?_
  refine tz_lor (n := 46) (g_at ck_X11_spelled 32 rfl) rfl ?_
  refine tz_lstore8 (n := 48) (g_at ck_X11_spelled 33 rfl) rfl (by decide) g_hpI ?_
  refine tz_iload4 (n := 50) (g_at ck_X11_spelled 34 rfl) rfl ?_
  refine tz_if_eq (n := 53) (tgt := 66) (g_at ck_X11_spelled 35 rfl) rfl rfl (by decide) (fun h50 => absurd h50 (by omega)) (fun h50 => ?_)
  refine tz_lload8 (n := 55) (g_at ck_X11_spelled 36 rfl) rfl ?_
  refine tz_iconst (n := 56) (g_at ck_X11_spelled 37 rfl) rfl ?_
  refine tz_lshl (n := 57) (g_at ck_X11_spelled 38 rfl) rfl ?_
  refine tz_iload4 (n := 59) (g_at ck_X11_spelled 39 rfl) rfl ?_
  refine tz_bipush (n := 61) (g_at ck_X11_spelled 40 rfl) rfl rfl ?_
  refine tz_isub (n := 62) (g_at ck_X11_spelled 41 rfl) rfl ?_
  refine tz_i2l (n := 63) (g_at ck_X11_spelled 42 rfl) rfl ?_
  refine tz_lor (n := 64) (g_at ck_X11_spelled 43 rfl) rfl ?_
  refine tz_lstore8 (n := 66) (g_at ck_X11_spelled 44 rfl) rfl (by decide) g_hpI ?_
  refine tz_iload5 (n := 68) (g_at ck_X11_spelled 45 rfl) rfl ?_
  refine tz_if_eq (n := 71) (tgt := 84) (g_at ck_X11_spelled 46 rfl) rfl rfl (by decide) (fun h68 => absurd h68 (by omega)) (fun h68 => ?_)
  refine tz_lload8 (n := 73) (g_at ck_X11_spelled 47 rfl) rfl ?_
  refine tz_iconst (n := 74) (g_at ck_X11_spelled 48 rfl) rfl ?_
  refine tz_lshl (n := 75) (g_at ck_X11_spelled 49 rfl) rfl ?_
  refine tz_iload5 (n := 77) (g_at ck_X11_spelled 50 rfl) rfl ?_
  refine tz_bipush (n := 79) (g_at ck_X11_spelled 51 rfl) rfl rfl ?_
  refine tz_isub (n := 80) (g_at ck_X11_spelled 52 rfl) rfl ?_
  refine tz_i2l (n := 81) (g_at ck_X11_spelled 53 rfl) rfl ?_
  refine tz_lor (n := 82) (g_at ck_X11_spelled 54 rfl) rfl ?_
  refine tz_lstore8 (n := 84) (g_at ck_X11_spelled 55 rfl) rfl (by decide) g_hpI ?_
  refine tz_iload6 (n := 86) (g_at ck_X11_spelled 56 rfl) rfl ?_
  refine tz_if_eq (n := 89) (tgt := 102) (g_at ck_X11_spelled 57 rfl) rfl rfl (by decide) (fun h86 => absurd h86 (by omega)) (fun h86 => ?_)
  refine tz_lload8 (n := 91) (g_at ck_X11_spelled 58 rfl) rfl ?_
  refine tz_iconst (n := 92) (g_at ck_X11_spelled 59 rfl) rfl ?_
  refine tz_lshl (n := 93) (g_at ck_X11_spelled 60 rfl) rfl ?_
  refine tz_iload6 (n := 95) (g_at ck_X11_spelled 61 rfl) rfl ?_
  refine tz_bipush (n := 97) (g_at ck_X11_spelled 62 rfl) rfl rfl ?_
  refine tz_isub (n := 98) (g_at ck_X11_spelled 63 rfl) rfl ?_
  refine tz_i2l (n := 99) (g_at ck_X11_spelled 64 rfl) rfl ?_
  refine tz_lor (n := 100) (g_at ck_X11_spelled 65 rfl) rfl ?_
  refine tz_lstore8 (n := 102) (g_at ck_X11_spelled 66 rfl) rfl (by decide) g_hpI ?_
  refine tz_iload7 (n := 104) (g_at ck_X11_spelled 67 rfl) rfl ?_
  refine tz_if_eq (n := 107) (tgt := 120) (g_at ck_X11_spelled 68 rfl) rfl rfl (by decide) (fun h104 => absurd h104 (by omega)) (fun h104 => ?_)
  refine tz_lload8 (n := 109) (g_at ck_X11_spelled 69 rfl) rfl ?_
  refine tz_iconst (n := 110) (g_at ck_X11_spelled 70 rfl) rfl ?_
  refine tz_lshl (n := 111) (g_at ck_X11_spelled 71 rfl) rfl ?_
  refine tz_iload7 (n := 113) (g_at ck_X11_spelled 72 rfl) rfl ?_
  refine tz_bipush (n := 115) (g_at ck_X11_spelled 73 rfl) rfl rfl ?_
  refine tz_isub (n := 116) (g_at ck_X11_spelled 74 rfl) rfl ?_
  refine tz_i2l (n := 117) (g_at ck_X11_spelled 75 rfl) rfl ?_
  refine tz_lor (n := 118) (g_at ck_X11_spelled 76 rfl) rfl ?_
  refine tz_lstore8 (n := 120) (g_at ck_X11_spelled 77 rfl) rfl (by decide) g_hpI ?_
  refine tz_lload8 (n := 122) (g_at ck_X11_spelled 78 rfl) rfl ?_
  exact tz_lret (g_at ck_X11_spelled 79 rfl) rfl (rL_mk ⟨rfl, hR, by decide +kernel, rfl⟩)
theorem mp_spelled6 {l : Launch} {γ : Gh} {ρ m : Mm} (hR : MR m) : gE l γ μX11_spelled 0 0 0 (rL KK fun x ρ9 m9 => ρ = ρ9 ∧ MR m9 ∧ (605220 : Int) = x ∧ m = m9) xN KK ρ m [vI 114, vI 111, vI 97, vI 100, vI 0, vI 0, vI 0, vI 0] := by
  refine gE.ofw cl_X11.2 ?_ rfl rfl (Nat.le_of_ble_eq_true rfl)
  show gT l γ μX11_spelled 0 0 0 _ _ KK ρ m 0 [some (vI 114), some (vI 111), some (vI 97), some (vI 100), some (vI 0), some (vI 0), some (vI 0), some (vI 0), none, none] []
  refine tz_iload0 (n := 1) (g_at ck_X11_spelled 0 rfl) rfl ?_
  refine tz_i2l (n := 2) (g_at ck_X11_spelled 1 rfl) rfl ?_
  refine tz_ldcL (n := 5) kn_X11_178 (g_at ck_X11_spelled 2 rfl) rfl ?_
  refine tz_lsub (n := 6) (g_at ck_X11_spelled 3 rfl) rfl ?_
  refine tz_iconst (n := 7) (g_at ck_X11_spelled 4 rfl) rfl ?_
  refine tz_lshl (n := 8) (g_at ck_X11_spelled 5 rfl) rfl ?_
  refine tz_iload1 (n := 9) (g_at ck_X11_spelled 6 rfl) rfl ?_
  refine tz_bipush (n := 11) (g_at ck_X11_spelled 7 rfl) rfl rfl ?_
  refine tz_isub (n := 12) (g_at ck_X11_spelled 8 rfl) rfl ?_
  refine tz_i2l (n := 13) (g_at ck_X11_spelled 9 rfl) rfl ?_
  refine tz_lor (n := 14) (g_at ck_X11_spelled 10 rfl) rfl ?_
  refine tz_lstore8 (n := 16) (g_at ck_X11_spelled 11 rfl) rfl (by decide) g_hpI ?_
  refine tz_iload2 (n := 17) (g_at ck_X11_spelled 12 rfl) rfl ?_
  refine tz_if_eq (n := 20) (tgt := 32) (g_at ck_X11_spelled 13 rfl) rfl rfl (by decide) (fun h17 => absurd h17 (by omega)) (fun h17 => ?_)
  refine tz_lload8 (n := 22) (g_at ck_X11_spelled 14 rfl) rfl ?_
  refine tz_iconst (n := 23) (g_at ck_X11_spelled 15 rfl) rfl ?_
  refine tz_lshl (n := 24) (g_at ck_X11_spelled 16 rfl) rfl ?_
  refine tz_iload2 (n := 25) (g_at ck_X11_spelled 17 rfl) rfl ?_
  refine tz_bipush (n := 27) (g_at ck_X11_spelled 18 rfl) rfl rfl ?_
  refine tz_isub (n := 28) (g_at ck_X11_spelled 19 rfl) rfl ?_
  refine tz_i2l (n := 29) (g_at ck_X11_spelled 20 rfl) rfl ?_
  refine tz_lor (n := 30) (g_at ck_X11_spelled 21 rfl) rfl ?_
  refine tz_lstore8 (n := 32) (g_at ck_X11_spelled 22 rfl) rfl (by decide) g_hpI ?_
  refine tz_iload3 (n := 33) (g_at ck_X11_spelled 23 rfl) rfl ?_
  refine tz_if_eq (n := 36) (tgt := 48) (g_at ck_X11_spelled 24 rfl) rfl rfl (by decide) (fun h33 => absurd h33 (by omega)) (fun h33 => ?_)
  refine tz_lload8 (n := 38) (g_at ck_X11_spelled 25 rfl) rfl ?_
  refine tz_iconst (n := 39) (g_at ck_X11_spelled 26 rfl) rfl ?_
  refine tz_lshl (n := 40) (g_at ck_X11_spelled 27 rfl) rfl ?_
  refine tz_iload3 (n := 41) (g_at ck_X11_spelled 28 rfl) rfl ?_
  refine tz_bipush (n := 43) (g_at ck_X11_spelled 29 rfl) rfl rfl ?_
  refine tz_isub (n := 44) (g_at ck_X11_spelled 30 rfl) rfl ?_
  refine tz_i2l (n := 45) (g_at ck_X11_spelled 31 rfl) rfl ?_
  refine tz_lor (n := 46) (g_at ck_X11_spelled 32 rfl) rfl ?_
  refine tz_lstore8 (n := 48) (g_at ck_X11_spelled 33 rfl) rfl (by decide) g_hpI ?_
  refine tz_iload4 (n := 50) (g_at ck_X11_spelled 34 rfl) rfl ?_
  refine tz_if_eq (n := 53) (tgt := 66) (g_at ck_X11_spelled 35 rfl) rfl rfl (by decide) (fun h50 => ?_) (fun h50 => absurd h50 (by omega))
  refine tz_iload5 (n := 68) (g_at ck_X11_spelled 45 rfl) rfl ?_
  refine tz_if_eq (n := 71) (tgt := 84) (g_at ck_X11_spelled 46 rfl) rfl rfl (by decide) (fun h68 => ?_) (fun h68 => absurd h68 (by omega))
  refine tz_iload6 (n := 86) (g_at ck_X11_spelled 56 rfl) rfl ?_
  refine tz_if_eq (n := 89) (tgt := 102) (g_at ck_X11_spelled 57 rfl) rfl rfl (by decide) (fun h86 => ?_) (fun h86 => absurd h86 (by omega))
  refine tz_iload7 (n := 104) (g_at ck_X11_spelled 67 rfl) rfl ?_
  refine tz_if_eq (n := 107) (tgt := 120) (g_at ck_X11_spelled 68 rfl) rfl rfl (by decide) (fun h104 => ?_) (fun h104 => absurd h104 (by omega))
  refine tz_lload8 (n := 122) (g_at ck_X11_spelled 78 rfl) rfl ?_
  exact tz_lret (g_at ck_X11_spelled 79 rfl) rfl (rL_mk ⟨rfl, hR, by decide +kernel, rfl⟩)
theorem mp_spelled7 {l : Launch} {γ : Gh} {ρ m : Mm} (hR : MR m) : gE l γ μX11_spelled 0 0 0 (rL KK fun x ρ9 m9 => ρ = ρ9 ∧ MR m9 ∧ (542723566 : Int) = x ∧ m = m9) xN KK ρ m [vI 112, vI 101, vI 114, vI 115, vI 111, vI 110, vI 0, vI 0] := by
  refine gE.ofw cl_X11.2 ?_ rfl rfl (Nat.le_of_ble_eq_true rfl)
  show gT l γ μX11_spelled 0 0 0 _ _ KK ρ m 0 [some (vI 112), some (vI 101), some (vI 114), some (vI 115), some (vI 111), some (vI 110), some (vI 0), some (vI 0), none, none] []
  refine tz_iload0 (n := 1) (g_at ck_X11_spelled 0 rfl) rfl ?_
  refine tz_i2l (n := 2) (g_at ck_X11_spelled 1 rfl) rfl ?_
  refine tz_ldcL (n := 5) kn_X11_178 (g_at ck_X11_spelled 2 rfl) rfl ?_
  refine tz_lsub (n := 6) (g_at ck_X11_spelled 3 rfl) rfl ?_
  refine tz_iconst (n := 7) (g_at ck_X11_spelled 4 rfl) rfl ?_
  refine tz_lshl (n := 8) (g_at ck_X11_spelled 5 rfl) rfl ?_
  refine tz_iload1 (n := 9) (g_at ck_X11_spelled 6 rfl) rfl ?_
  refine tz_bipush (n := 11) (g_at ck_X11_spelled 7 rfl) rfl rfl ?_
  refine tz_isub (n := 12) (g_at ck_X11_spelled 8 rfl) rfl ?_
  refine tz_i2l (n := 13) (g_at ck_X11_spelled 9 rfl) rfl ?_
  refine tz_lor (n := 14) (g_at ck_X11_spelled 10 rfl) rfl ?_
  refine tz_lstore8 (n := 16) (g_at ck_X11_spelled 11 rfl) rfl (by decide) g_hpI ?_
  refine tz_iload2 (n := 17) (g_at ck_X11_spelled 12 rfl) rfl ?_
  refine tz_if_eq (n := 20) (tgt := 32) (g_at ck_X11_spelled 13 rfl) rfl rfl (by decide) (fun h17 => absurd h17 (by omega)) (fun h17 => ?_)
  refine tz_lload8 (n := 22) (g_at ck_X11_spelled 14 rfl) rfl ?_
  refine tz_iconst (n := 23) (g_at ck_X11_spelled 15 rfl) rfl ?_
  refine tz_lshl (n := 24) (g_at ck_X11_spelled 16 rfl) rfl ?_
  refine tz_iload2 (n := 25) (g_at ck_X11_spelled 17 rfl) rfl ?_
  refine tz_bipush (n := 27) (g_at ck_X11_spelled 18 rfl) rfl rfl ?_
  refine tz_isub (n := 28) (g_at ck_X11_spelled 19 rfl) rfl ?_
  refine tz_i2l (n := 29) (g_at ck_X11_spelled 20 rfl) rfl ?_
  refine tz_lor (n := 30) (g_at ck_X11_spelled 21 rfl) rfl ?_
  refine tz_lstore8 (n := 32) (g_at ck_X11_spelled 22 rfl) rfl (by decide) g_hpI ?_
  refine tz_iload3 (n := 33) (g_at ck_X11_spelled 23 rfl) rfl ?_
  refine tz_if_eq (n := 36) (tgt := 48) (g_at ck_X11_spelled 24 rfl) rfl rfl (by decide) (fun h33 => absurd h33 (by omega)) (fun h33 => ?_)
  refine tz_lload8 (n := 38) (g_at ck_X11_spelled 25 rfl) rfl ?_
  refine tz_iconst (n := 39) (g_at ck_X11_spelled 26 rfl) rfl ?_
  refine tz_lshl (n := 40) (g_at ck_X11_spelled 27 rfl) rfl ?_
  refine tz_iload3 (n := 41) (g_at ck_X11_spelled 28 rfl) rfl ?_
  refine tz_bipush (n := 43) (g_at ck_X11_spelled 29 rfl) rfl rfl ?_
  refine tz_isub (n := 44) (g_at ck_X11_spelled 30 rfl) rfl ?_
  refine tz_i2l (n := 45) (g_at ck_X11_spelled 31 rfl) rfl ?_
  refine tz_lor (n := 46) (g_at ck_X11_spelled 32 rfl) rfl ?_
  refine tz_lstore8 (n := 48) (g_at ck_X11_spelled 33 rfl) rfl (by decide) g_hpI ?_
  refine tz_iload4 (n := 50) (g_at ck_X11_spelled 34 rfl) rfl ?_
  refine tz_if_eq (n := 53) (tgt := 66) (g_at ck_X11_spelled 35 rfl) rfl rfl (by decide) (fun h50 => absurd h50 (by omega)) (fun h50 => ?_)
  refine tz_lload8 (n := 55) (g_at ck_X11_spelled 36 rfl) rfl ?_
  refine tz_iconst (n := 56) (g_at ck_X11_spelled 37 rfl) rfl ?_
  refine tz_lshl (n := 57) (g_at ck_X11_spelled 38 rfl) rfl ?_
  refine tz_iload4 (n := 59) (g_at ck_X11_spelled 39 rfl) rfl ?_
  refine tz_bipush (n := 61) (g_at ck_X11_spelled 40 rfl) rfl rfl ?_
  refine tz_isub (n := 62) (g_at ck_X11_spelled 41 rfl) rfl ?_
  refine tz_i2l (n := 63) (g_at ck_X11_spelled 42 rfl) rfl ?_
  refine tz_lor (n := 64) (g_at ck_X11_spelled 43 rfl) rfl ?_
  refine tz_lstore8 (n := 66) (g_at ck_X11_spelled 44 rfl) rfl (by decide) g_hpI ?_
  refine tz_iload5 (n := 68) (g_at ck_X11_spelled 45 rfl) rfl ?_
  refine tz_if_eq (n := 71) (tgt := 84) (g_at ck_X11_spelled 46 rfl) rfl rfl (by decide) (fun h68 => absurd h68 (by omega)) (fun h68 => ?_)
  refine tz_lload8 (n := 73) (g_at ck_X11_spelled 47 rfl) rfl ?_
  refine tz_iconst (n := 74) (g_at ck_X11_spelled 48 rfl) rfl ?_
  refine tz_lshl (n := 75) (g_at ck_X11_spelled 49 rfl) rfl ?_
  refine tz_iload5 (n := 77) (g_at ck_X11_spelled 50 rfl) rfl ?_
  refine tz_bipush (n := 79) (g_at ck_X11_spelled 51 rfl) rfl rfl ?_
  refine tz_isub (n := 80) (g_at ck_X11_spelled 52 rfl) rfl ?_
  refine tz_i2l (n := 81) (g_at ck_X11_spelled 53 rfl) rfl ?_
  refine tz_lor (n := 82) (g_at ck_X11_spelled 54 rfl) rfl ?_
  refine tz_lstore8 (n := 84) (g_at ck_X11_spelled 55 rfl) rfl (by decide) g_hpI ?_
  refine tz_iload6 (n := 86) (g_at ck_X11_spelled 56 rfl) rfl ?_
  refine tz_if_eq (n := 89) (tgt := 102) (g_at ck_X11_spelled 57 rfl) rfl rfl (by decide) (fun h86 => ?_) (fun h86 => absurd h86 (by omega))
  refine tz_iload7 (n := 104) (g_at ck_X11_spelled 67 rfl) rfl ?_
  refine tz_if_eq (n := 107) (tgt := 120) (g_at ck_X11_spelled 68 rfl) rfl rfl (by decide) (fun h104 => ?_) (fun h104 => absurd h104 (by omega))
  refine tz_lload8 (n := 122) (g_at ck_X11_spelled 78 rfl) rfl ?_
  exact tz_lret (g_at ck_X11_spelled 79 rfl) rfl (rL_mk ⟨rfl, hR, by decide +kernel, rfl⟩)
theorem mp_spelled8 {l : Launch} {γ : Gh} {ρ m : Mm} (hR : MR m) : gE l γ μX11_spelled 0 0 0 (rL KK fun x ρ9 m9 => ρ = ρ9 ∧ MR m9 ∧ (8557715 : Int) = x ∧ m = m9) xN KK ρ m [vI 104, vI 101, vI 101, vI 100, vI 115, vI 0, vI 0, vI 0] := by
  refine gE.ofw cl_X11.2 ?_ rfl rfl (Nat.le_of_ble_eq_true rfl)
  show gT l γ μX11_spelled 0 0 0 _ _ KK ρ m 0 [some (vI 104), some (vI 101), some (vI 101), some (vI 100), some (vI 115), some (vI 0), some (vI 0), some (vI 0), none, none] []
  refine tz_iload0 (n := 1) (g_at ck_X11_spelled 0 rfl) rfl ?_
  refine tz_i2l (n := 2) (g_at ck_X11_spelled 1 rfl) rfl ?_
  refine tz_ldcL (n := 5) kn_X11_178 (g_at ck_X11_spelled 2 rfl) rfl ?_
  refine tz_lsub (n := 6) (g_at ck_X11_spelled 3 rfl) rfl ?_
  refine tz_iconst (n := 7) (g_at ck_X11_spelled 4 rfl) rfl ?_
  refine tz_lshl (n := 8) (g_at ck_X11_spelled 5 rfl) rfl ?_
  refine tz_iload1 (n := 9) (g_at ck_X11_spelled 6 rfl) rfl ?_
  refine tz_bipush (n := 11) (g_at ck_X11_spelled 7 rfl) rfl rfl ?_
  refine tz_isub (n := 12) (g_at ck_X11_spelled 8 rfl) rfl ?_
  refine tz_i2l (n := 13) (g_at ck_X11_spelled 9 rfl) rfl ?_
  refine tz_lor (n := 14) (g_at ck_X11_spelled 10 rfl) rfl ?_
  refine tz_lstore8 (n := 16) (g_at ck_X11_spelled 11 rfl) rfl (by decide) g_hpI ?_
  refine tz_iload2 (n := 17) (g_at ck_X11_spelled 12 rfl) rfl ?_
  refine tz_if_eq (n := 20) (tgt := 32) (g_at ck_X11_spelled 13 rfl) rfl rfl (by decide) (fun h17 => absurd h17 (by omega)) (fun h17 => ?_)
  refine tz_lload8 (n := 22) (g_at ck_X11_spelled 14 rfl) rfl ?_
  refine tz_iconst (n := 23) (g_at ck_X11_spelled 15 rfl) rfl ?_
  refine tz_lshl (n := 24) (g_at ck_X11_spelled 16 rfl) rfl ?_
  refine tz_iload2 (n := 25) (g_at ck_X11_spelled 17 rfl) rfl ?_
  refine tz_bipush (n := 27) (g_at ck_X11_spelled 18 rfl) rfl rfl ?_
  refine tz_isub (n := 28) (g_at ck_X11_spelled 19 rfl) rfl ?_
  refine tz_i2l (n := 29) (g_at ck_X11_spelled 20 rfl) rfl ?_
  refine tz_lor (n := 30) (g_at ck_X11_spelled 21 rfl) rfl ?_
  refine tz_lstore8 (n := 32) (g_at ck_X11_spelled 22 rfl) rfl (by decide) g_hpI ?_
  refine tz_iload3 (n := 33) (g_at ck_X11_spelled 23 rfl) rfl ?_
  refine tz_if_eq (n := 36) (tgt := 48) (g_at ck_X11_spelled 24 rfl) rfl rfl (by decide) (fun h33 => absurd h33 (by omega)) (fun h33 => ?_)
  refine tz_lload8 (n := 38) (g_at ck_X11_spelled 25 rfl) rfl ?_
  refine tz_iconst (n := 39) (g_at ck_X11_spelled 26 rfl) rfl ?_
  refine tz_lshl (n := 40) (g_at ck_X11_spelled 27 rfl) rfl ?_
  refine tz_iload3 (n := 41) (g_at ck_X11_spelled 28 rfl) rfl ?_
  refine tz_bipush (n := 43) (g_at ck_X11_spelled 29 rfl) rfl rfl ?_
  refine tz_isub (n := 44) (g_at ck_X11_spelled 30 rfl) rfl ?_
  refine tz_i2l (n := 45) (g_at ck_X11_spelled 31 rfl) rfl ?_
  refine tz_lor (n := 46) (g_at ck_X11_spelled 32 rfl) rfl ?_
  refine tz_lstore8 (n := 48) (g_at ck_X11_spelled 33 rfl) rfl (by decide) g_hpI ?_
  refine tz_iload4 (n := 50) (g_at ck_X11_spelled 34 rfl) rfl ?_
  refine tz_if_eq (n := 53) (tgt := 66) (g_at ck_X11_spelled 35 rfl) rfl rfl (by decide) (fun h50 => absurd h50 (by omega)) (fun h50 => ?_)
  refine tz_lload8 (n := 55) (g_at ck_X11_spelled 36 rfl) rfl ?_
  refine tz_iconst (n := 56) (g_at ck_X11_spelled 37 rfl) rfl ?_
  refine tz_lshl (n := 57) (g_at ck_X11_spelled 38 rfl) rfl ?_
  refine tz_iload4 (n := 59) (g_at ck_X11_spelled 39 rfl) rfl ?_
  refine tz_bipush (n := 61) (g_at ck_X11_spelled 40 rfl) rfl rfl ?_
  refine tz_isub (n := 62) (g_at ck_X11_spelled 41 rfl) rfl ?_
  refine tz_i2l (n := 63) (g_at ck_X11_spelled 42 rfl) rfl ?_
  refine tz_lor (n := 64) (g_at ck_X11_spelled 43 rfl) rfl ?_
  refine tz_lstore8 (n := 66) (g_at ck_X11_spelled 44 rfl) rfl (by decide) g_hpI ?_
  refine tz_iload5 (n := 68) (g_at ck_X11_spelled 45 rfl) rfl ?_
  refine tz_if_eq (n := 71) (tgt := 84) (g_at ck_X11_spelled 46 rfl) rfl rfl (by decide) (fun h68 => ?_) (fun h68 => absurd h68 (by omega))
  refine tz_iload6 (n := 86) (g_at ck_X11_spelled 56 rfl) rfl ?_
  refine tz_if_eq (n := 89) (tgt := 102) (g_at ck_X11_spelled 57 rfl) rfl rfl (by decide) (fun h86 => ?_) (fun h86 => absurd h86 (by omega))
  refine tz_iload7 (n := 104) (g_at ck_X11_spelled 67 rfl) rfl ?_
  refine tz_if_eq (n := 107) (tgt := 120) (g_at ck_X11_spelled 68 rfl) rfl rfl (by decide) (fun h104 => ?_) (fun h104 => absurd h104 (by omega))
  refine tz_lload8 (n := 122) (g_at ck_X11_spelled 78 rfl) rfl ?_
  exact tz_lret (g_at ck_X11_spelled 79 rfl) rfl (rL_mk ⟨rfl, hR, by decide +kernel, rfl⟩)
theorem mp_spelled9 {l : Launch} {γ : Gh} {ρ m : Mm} (hR : MR m) : gE l γ μX11_spelled 0 0 0 (rL KK fun x ρ9 m9 => ρ = ρ9 ∧ MR m9 ∧ (21678547 : Int) = x ∧ m = m9) xN KK ρ m [vI 116, vI 117, vI 114, vI 110, vI 115, vI 0, vI 0, vI 0] := by
  refine gE.ofw cl_X11.2 ?_ rfl rfl (Nat.le_of_ble_eq_true rfl)
  show gT l γ μX11_spelled 0 0 0 _ _ KK ρ m 0 [some (vI 116), some (vI 117), some (vI 114), some (vI 110), some (vI 115), some (vI 0), some (vI 0), some (vI 0), none, none] []
  refine tz_iload0 (n := 1) (g_at ck_X11_spelled 0 rfl) rfl ?_
  refine tz_i2l (n := 2) (g_at ck_X11_spelled 1 rfl) rfl ?_
  refine tz_ldcL (n := 5) kn_X11_178 (g_at ck_X11_spelled 2 rfl) rfl ?_
  refine tz_lsub (n := 6) (g_at ck_X11_spelled 3 rfl) rfl ?_
  refine tz_iconst (n := 7) (g_at ck_X11_spelled 4 rfl) rfl ?_
  refine tz_lshl (n := 8) (g_at ck_X11_spelled 5 rfl) rfl ?_
  refine tz_iload1 (n := 9) (g_at ck_X11_spelled 6 rfl) rfl ?_
  refine tz_bipush (n := 11) (g_at ck_X11_spelled 7 rfl) rfl rfl ?_
  refine tz_isub (n := 12) (g_at ck_X11_spelled 8 rfl) rfl ?_
  refine tz_i2l (n := 13) (g_at ck_X11_spelled 9 rfl) rfl ?_
  refine tz_lor (n := 14) (g_at ck_X11_spelled 10 rfl) rfl ?_
  refine tz_lstore8 (n := 16) (g_at ck_X11_spelled 11 rfl) rfl (by decide) g_hpI ?_
  refine tz_iload2 (n := 17) (g_at ck_X11_spelled 12 rfl) rfl ?_
  refine tz_if_eq (n := 20) (tgt := 32) (g_at ck_X11_spelled 13 rfl) rfl rfl (by decide) (fun h17 => absurd h17 (by omega)) (fun h17 => ?_)
  refine tz_lload8 (n := 22) (g_at ck_X11_spelled 14 rfl) rfl ?_
  refine tz_iconst (n := 23) (g_at ck_X11_spelled 15 rfl) rfl ?_
  refine tz_lshl (n := 24) (g_at ck_X11_spelled 16 rfl) rfl ?_
  refine tz_iload2 (n := 25) (g_at ck_X11_spelled 17 rfl) rfl ?_
  refine tz_bipush (n := 27) (g_at ck_X11_spelled 18 rfl) rfl rfl ?_
  refine tz_isub (n := 28) (g_at ck_X11_spelled 19 rfl) rfl ?_
  refine tz_i2l (n := 29) (g_at ck_X11_spelled 20 rfl) rfl ?_
  refine tz_lor (n := 30) (g_at ck_X11_spelled 21 rfl) rfl ?_
  refine tz_lstore8 (n := 32) (g_at ck_X11_spelled 22 rfl) rfl (by decide) g_hpI ?_
  refine tz_iload3 (n := 33) (g_at ck_X11_spelled 23 rfl) rfl ?_
  refine tz_if_eq (n := 36) (tgt := 48) (g_at ck_X11_spelled 24 rfl) rfl rfl (by decide) (fun h33 => absurd h33 (by omega)) (fun h33 => ?_)
  refine tz_lload8 (n := 38) (g_at ck_X11_spelled 25 rfl) rfl ?_
  refine tz_iconst (n := 39) (g_at ck_X11_spelled 26 rfl) rfl ?_
  refine tz_lshl (n := 40) (g_at ck_X11_spelled 27 rfl) rfl ?_
  refine tz_iload3 (n := 41) (g_at ck_X11_spelled 28 rfl) rfl ?_
  refine tz_bipush (n := 43) (g_at ck_X11_spelled 29 rfl) rfl rfl ?_
  refine tz_isub (n := 44) (g_at ck_X11_spelled 30 rfl) rfl ?_
  refine tz_i2l (n := 45) (g_at ck_X11_spelled 31 rfl) rfl ?_
  refine tz_lor (n := 46) (g_at ck_X11_spelled 32 rfl) rfl ?_
  refine tz_lstore8 (n := 48) (g_at ck_X11_spelled 33 rfl) rfl (by decide) g_hpI ?_
  refine tz_iload4 (n := 50) (g_at ck_X11_spelled 34 rfl) rfl ?_
  refine tz_if_eq (n := 53) (tgt := 66) (g_at ck_X11_spelled 35 rfl) rfl rfl (by decide) (fun h50 => absurd h50 (by omega)) (fun h50 => ?_)
  refine tz_lload8 (n := 55) (g_at ck_X11_spelled 36 rfl) rfl ?_
  refine tz_iconst (n := 56) (g_at ck_X11_spelled 37 rfl) rfl ?_
  refine tz_lshl (n := 57) (g_at ck_X11_spelled 38 rfl) rfl ?_
  refine tz_iload4 (n := 59) (g_at ck_X11_spelled 39 rfl) rfl ?_
  refine tz_bipush (n := 61) (g_at ck_X11_spelled 40 rfl) rfl rfl ?_
  refine tz_isub (n := 62) (g_at ck_X11_spelled 41 rfl) rfl ?_
  refine tz_i2l (n := 63) (g_at ck_X11_spelled 42 rfl) rfl ?_
  refine tz_lor (n := 64) (g_at ck_X11_spelled 43 rfl) rfl ?_
  refine tz_lstore8 (n := 66) (g_at ck_X11_spelled 44 rfl) rfl (by decide) g_hpI ?_
  refine tz_iload5 (n := 68) (g_at ck_X11_spelled 45 rfl) rfl ?_
  refine tz_if_eq (n := 71) (tgt := 84) (g_at ck_X11_spelled 46 rfl) rfl rfl (by decide) (fun h68 => ?_) (fun h68 => absurd h68 (by omega))
  refine tz_iload6 (n := 86) (g_at ck_X11_spelled 56 rfl) rfl ?_
  refine tz_if_eq (n := 89) (tgt := 102) (g_at ck_X11_spelled 57 rfl) rfl rfl (by decide) (fun h86 => ?_) (fun h86 => absurd h86 (by omega))
  refine tz_iload7 (n := 104) (g_at ck_X11_spelled 67 rfl) rfl ?_
  refine tz_if_eq (n := 107) (tgt := 120) (g_at ck_X11_spelled 68 rfl) rfl rfl (by decide) (fun h104 => ?_) (fun h104 => absurd h104 (by omega))
  refine tz_lload8 (n := 122) (g_at ck_X11_spelled 78 rfl) rfl ?_
  exact tz_lret (g_at ck_X11_spelled 79 rfl) rfl (rL_mk ⟨rfl, hR, by decide +kernel, rfl⟩)
theorem mp_spelled10 {l : Launch} {γ : Gh} {ρ m : Mm} (hR : MR m) : gE l γ μX11_spelled 0 0 0 (rL KK fun x ρ9 m9 => ρ = ρ9 ∧ MR m9 ∧ (1476 : Int) = x ∧ m = m9) xN KK ρ m [vI 97, vI 110, vI 100, vI 0, vI 0, vI 0, vI 0, vI 0] := by
  refine gE.ofw cl_X11.2 ?_ rfl rfl (Nat.le_of_ble_eq_true rfl)
  show gT l γ μX11_spelled 0 0 0 _ _ KK ρ m 0 [some (vI 97), some (vI 110), some (vI 100), some (vI 0), some (vI 0), some (vI 0), some (vI 0), some (vI 0), none, none] []
  refine tz_iload0 (n := 1) (g_at ck_X11_spelled 0 rfl) rfl ?_
  refine tz_i2l (n := 2) (g_at ck_X11_spelled 1 rfl) rfl ?_
  refine tz_ldcL (n := 5) kn_X11_178 (g_at ck_X11_spelled 2 rfl) rfl ?_
  refine tz_lsub (n := 6) (g_at ck_X11_spelled 3 rfl) rfl ?_
  refine tz_iconst (n := 7) (g_at ck_X11_spelled 4 rfl) rfl ?_
  refine tz_lshl (n := 8) (g_at ck_X11_spelled 5 rfl) rfl ?_
  refine tz_iload1 (n := 9) (g_at ck_X11_spelled 6 rfl) rfl ?_
  refine tz_bipush (n := 11) (g_at ck_X11_spelled 7 rfl) rfl rfl ?_
  refine tz_isub (n := 12) (g_at ck_X11_spelled 8 rfl) rfl ?_
  refine tz_i2l (n := 13) (g_at ck_X11_spelled 9 rfl) rfl ?_
  refine tz_lor (n := 14) (g_at ck_X11_spelled 10 rfl) rfl ?_
  refine tz_lstore8 (n := 16) (g_at ck_X11_spelled 11 rfl) rfl (by decide) g_hpI ?_
  refine tz_iload2 (n := 17) (g_at ck_X11_spelled 12 rfl) rfl ?_
  refine tz_if_eq (n := 20) (tgt := 32) (g_at ck_X11_spelled 13 rfl) rfl rfl (by decide) (fun h17 => absurd h17 (by omega)) (fun h17 => ?_)
  refine tz_lload8 (n := 22) (g_at ck_X11_spelled 14 rfl) rfl ?_
  refine tz_iconst (n := 23) (g_at ck_X11_spelled 15 rfl) rfl ?_
  refine tz_lshl (n := 24) (g_at ck_X11_spelled 16 rfl) rfl ?_
  refine tz_iload2 (n := 25) (g_at ck_X11_spelled 17 rfl) rfl ?_
  refine tz_bipush (n := 27) (g_at ck_X11_spelled 18 rfl) rfl rfl ?_
  refine tz_isub (n := 28) (g_at ck_X11_spelled 19 rfl) rfl ?_
  refine tz_i2l (n := 29) (g_at ck_X11_spelled 20 rfl) rfl ?_
  refine tz_lor (n := 30) (g_at ck_X11_spelled 21 rfl) rfl ?_
  refine tz_lstore8 (n := 32) (g_at ck_X11_spelled 22 rfl) rfl (by decide) g_hpI ?_
  refine tz_iload3 (n := 33) (g_at ck_X11_spelled 23 rfl) rfl ?_
  refine tz_if_eq (n := 36) (tgt := 48) (g_at ck_X11_spelled 24 rfl) rfl rfl (by decide) (fun h33 => ?_) (fun h33 => absurd h33 (by omega))
  refine tz_iload4 (n := 50) (g_at ck_X11_spelled 34 rfl) rfl ?_
  refine tz_if_eq (n := 53) (tgt := 66) (g_at ck_X11_spelled 35 rfl) rfl rfl (by decide) (fun h50 => ?_) (fun h50 => absurd h50 (by omega))
  refine tz_iload5 (n := 68) (g_at ck_X11_spelled 45 rfl) rfl ?_
  refine tz_if_eq (n := 71) (tgt := 84) (g_at ck_X11_spelled 46 rfl) rfl rfl (by decide) (fun h68 => ?_) (fun h68 => absurd h68 (by omega))
  refine tz_iload6 (n := 86) (g_at ck_X11_spelled 56 rfl) rfl ?_
  refine tz_if_eq (n := 89) (tgt := 102) (g_at ck_X11_spelled 57 rfl) rfl rfl (by decide) (fun h86 => ?_) (fun h86 => absurd h86 (by omega))
  refine tz_iload7 (n := 104) (g_at ck_X11_spelled 67 rfl) rfl ?_
  refine tz_if_eq (n := 107) (tgt := 120) (g_at ck_X11_spelled 68 rfl) rfl rfl (by decide) (fun h104 => ?_) (fun h104 => absurd h104 (by omega))
  refine tz_lload8 (n := 122) (g_at ck_X11_spelled 78 rfl) rfl ?_
  exact tz_lret (g_at ck_X11_spelled 79 rfl) rfl (rL_mk ⟨rfl, hR, by decide +kernel, rfl⟩)
theorem mp_spelled11 {l : Launch} {γ : Gh} {ρ m : Mm} (hR : MR m) : gE l γ μX11_spelled 0 0 0 (rL KK fun x ρ9 m9 => ρ = ρ9 ∧ MR m9 ∧ (498 : Int) = x ∧ m = m9) xN KK ρ m [vI 111, vI 114, vI 0, vI 0, vI 0, vI 0, vI 0, vI 0] := by
  refine gE.ofw cl_X11.2 ?_ rfl rfl (Nat.le_of_ble_eq_true rfl)
  show gT l γ μX11_spelled 0 0 0 _ _ KK ρ m 0 [some (vI 111), some (vI 114), some (vI 0), some (vI 0), some (vI 0), some (vI 0), some (vI 0), some (vI 0), none, none] []
  refine tz_iload0 (n := 1) (g_at ck_X11_spelled 0 rfl) rfl ?_
  refine tz_i2l (n := 2) (g_at ck_X11_spelled 1 rfl) rfl ?_
  refine tz_ldcL (n := 5) kn_X11_178 (g_at ck_X11_spelled 2 rfl) rfl ?_
  refine tz_lsub (n := 6) (g_at ck_X11_spelled 3 rfl) rfl ?_
  refine tz_iconst (n := 7) (g_at ck_X11_spelled 4 rfl) rfl ?_
  refine tz_lshl (n := 8) (g_at ck_X11_spelled 5 rfl) rfl ?_
  refine tz_iload1 (n := 9) (g_at ck_X11_spelled 6 rfl) rfl ?_
  refine tz_bipush (n := 11) (g_at ck_X11_spelled 7 rfl) rfl rfl ?_
  refine tz_isub (n := 12) (g_at ck_X11_spelled 8 rfl) rfl ?_
  refine tz_i2l (n := 13) (g_at ck_X11_spelled 9 rfl) rfl ?_
  refine tz_lor (n := 14) (g_at ck_X11_spelled 10 rfl) rfl ?_
  refine tz_lstore8 (n := 16) (g_at ck_X11_spelled 11 rfl) rfl (by decide) g_hpI ?_
  refine tz_iload2 (n := 17) (g_at ck_X11_spelled 12 rfl) rfl ?_
  refine tz_if_eq (n := 20) (tgt := 32) (g_at ck_X11_spelled 13 rfl) rfl rfl (by decide) (fun h17 => ?_) (fun h17 => absurd h17 (by omega))
  refine tz_iload3 (n := 33) (g_at ck_X11_spelled 23 rfl) rfl ?_
  refine tz_if_eq (n := 36) (tgt := 48) (g_at ck_X11_spelled 24 rfl) rfl rfl (by decide) (fun h33 => ?_) (fun h33 => absurd h33 (by omega))
  refine tz_iload4 (n := 50) (g_at ck_X11_spelled 34 rfl) rfl ?_
  refine tz_if_eq (n := 53) (tgt := 66) (g_at ck_X11_spelled 35 rfl) rfl rfl (by decide) (fun h50 => ?_) (fun h50 => absurd h50 (by omega))
  refine tz_iload5 (n := 68) (g_at ck_X11_spelled 45 rfl) rfl ?_
  refine tz_if_eq (n := 71) (tgt := 84) (g_at ck_X11_spelled 46 rfl) rfl rfl (by decide) (fun h68 => ?_) (fun h68 => absurd h68 (by omega))
  refine tz_iload6 (n := 86) (g_at ck_X11_spelled 56 rfl) rfl ?_
  refine tz_if_eq (n := 89) (tgt := 102) (g_at ck_X11_spelled 57 rfl) rfl rfl (by decide) (fun h86 => ?_) (fun h86 => absurd h86 (by omega))
  refine tz_iload7 (n := 104) (g_at ck_X11_spelled 67 rfl) rfl ?_
  refine tz_if_eq (n := 107) (tgt := 120) (g_at ck_X11_spelled 68 rfl) rfl rfl (by decide) (fun h104 => ?_) (fun h104 => absurd h104 (by omega))
  refine tz_lload8 (n := 122) (g_at ck_X11_spelled 78 rfl) rfl ?_
  exact tz_lret (g_at ck_X11_spelled 79 rfl) rfl (rL_mk ⟨rfl, hR, by decide +kernel, rfl⟩)
theorem mp_spelled12 {l : Launch} {γ : Gh} {ρ m : Mm} (hR : MR m) : gE l γ μX11_spelled 0 0 0 (rL KK fun x ρ9 m9 => ρ = ρ9 ∧ MR m9 ∧ (14836 : Int) = x ∧ m = m9) xN KK ρ m [vI 110, vI 111, vI 116, vI 0, vI 0, vI 0, vI 0, vI 0] := by
  refine gE.ofw cl_X11.2 ?_ rfl rfl (Nat.le_of_ble_eq_true rfl)
  show gT l γ μX11_spelled 0 0 0 _ _ KK ρ m 0 [some (vI 110), some (vI 111), some (vI 116), some (vI 0), some (vI 0), some (vI 0), some (vI 0), some (vI 0), none, none] []
  refine tz_iload0 (n := 1) (g_at ck_X11_spelled 0 rfl) rfl ?_
  refine tz_i2l (n := 2) (g_at ck_X11_spelled 1 rfl) rfl ?_
  refine tz_ldcL (n := 5) kn_X11_178 (g_at ck_X11_spelled 2 rfl) rfl ?_
  refine tz_lsub (n := 6) (g_at ck_X11_spelled 3 rfl) rfl ?_
  refine tz_iconst (n := 7) (g_at ck_X11_spelled 4 rfl) rfl ?_
  refine tz_lshl (n := 8) (g_at ck_X11_spelled 5 rfl) rfl ?_
  refine tz_iload1 (n := 9) (g_at ck_X11_spelled 6 rfl) rfl ?_
  refine tz_bipush (n := 11) (g_at ck_X11_spelled 7 rfl) rfl rfl ?_
  refine tz_isub (n := 12) (g_at ck_X11_spelled 8 rfl) rfl ?_
  refine tz_i2l (n := 13) (g_at ck_X11_spelled 9 rfl) rfl ?_
  refine tz_lor (n := 14) (g_at ck_X11_spelled 10 rfl) rfl ?_
  refine tz_lstore8 (n := 16) (g_at ck_X11_spelled 11 rfl) rfl (by decide) g_hpI ?_
  refine tz_iload2 (n := 17) (g_at ck_X11_spelled 12 rfl) rfl ?_
  refine tz_if_eq (n := 20) (tgt := 32) (g_at ck_X11_spelled 13 rfl) rfl rfl (by decide) (fun h17 => absurd h17 (by omega)) (fun h17 => ?_)
  refine tz_lload8 (n := 22) (g_at ck_X11_spelled 14 rfl) rfl ?_
  refine tz_iconst (n := 23) (g_at ck_X11_spelled 15 rfl) rfl ?_
  refine tz_lshl (n := 24) (g_at ck_X11_spelled 16 rfl) rfl ?_
  refine tz_iload2 (n := 25) (g_at ck_X11_spelled 17 rfl) rfl ?_
  refine tz_bipush (n := 27) (g_at ck_X11_spelled 18 rfl) rfl rfl ?_
  refine tz_isub (n := 28) (g_at ck_X11_spelled 19 rfl) rfl ?_
  refine tz_i2l (n := 29) (g_at ck_X11_spelled 20 rfl) rfl ?_
  refine tz_lor (n := 30) (g_at ck_X11_spelled 21 rfl) rfl ?_
  refine tz_lstore8 (n := 32) (g_at ck_X11_spelled 22 rfl) rfl (by decide) g_hpI ?_
  refine tz_iload3 (n := 33) (g_at ck_X11_spelled 23 rfl) rfl ?_
  refine tz_if_eq (n := 36) (tgt := 48) (g_at ck_X11_spelled 24 rfl) rfl rfl (by decide) (fun h33 => ?_) (fun h33 => absurd h33 (by omega))
  refine tz_iload4 (n := 50) (g_at ck_X11_spelled 34 rfl) rfl ?_
  refine tz_if_eq (n := 53) (tgt := 66) (g_at ck_X11_spelled 35 rfl) rfl rfl (by decide) (fun h50 => ?_) (fun h50 => absurd h50 (by omega))
  refine tz_iload5 (n := 68) (g_at ck_X11_spelled 45 rfl) rfl ?_
  refine tz_if_eq (n := 71) (tgt := 84) (g_at ck_X11_spelled 46 rfl) rfl rfl (by decide) (fun h68 => ?_) (fun h68 => absurd h68 (by omega))
  refine tz_iload6 (n := 86) (g_at ck_X11_spelled 56 rfl) rfl ?_
  refine tz_if_eq (n := 89) (tgt := 102) (g_at ck_X11_spelled 57 rfl) rfl rfl (by decide) (fun h86 => ?_) (fun h86 => absurd h86 (by omega))
  refine tz_iload7 (n := 104) (g_at ck_X11_spelled 67 rfl) rfl ?_
  refine tz_if_eq (n := 107) (tgt := 120) (g_at ck_X11_spelled 68 rfl) rfl rfl (by decide) (fun h104 => ?_) (fun h104 => absurd h104 (by omega))
  refine tz_lload8 (n := 122) (g_at ck_X11_spelled 78 rfl) rfl ?_
  exact tz_lret (g_at ck_X11_spelled 79 rfl) rfl (rL_mk ⟨rfl, hR, by decide +kernel, rfl⟩)
theorem mp_letters {l : Launch} {γ : Gh} {ρ m : Mm} {k : Int} (hR : MR m) (hk : 0 ≤ k ∧ k < 13) : gE l γ μX11_letters 1 0 0 (rL KK fun x ρ9 m9 => ρ = ρ9 ∧ MR m9 ∧ lW k = x ∧ m = m9) xN KK ρ m [vI k] := by
  refine gE.ofw cl_X11.2 ?_ rfl rfl (Nat.le_of_ble_eq_true rfl)
  show gT l γ μX11_letters 1 0 0 _ _ KK ρ m 0 [some (vI k)] []
  refine tz_iload0 (n := 1) (g_at ck_X11_letters 0 rfl) rfl ?_
  by_cases hk1_0 : k = 0
  · skip
    refine tz_tableIn (tgt := 64) (g_at ck_X11_letters 1 rfl) ⟨(by omega), (by omega)⟩ (by omega) (by omega) (by rw [hk1_0]; rfl) rfl ?_
    refine tz_bipush (n := 66) (g_at ck_X11_letters 2 rfl) rfl rfl ?_
    refine tz_bipush (n := 68) (g_at ck_X11_letters 3 rfl) rfl rfl ?_
    refine tz_bipush (n := 70) (g_at ck_X11_letters 4 rfl) rfl rfl ?_
    refine tz_iconst (n := 71) (g_at ck_X11_letters 5 rfl) rfl ?_
    refine tz_iconst (n := 72) (g_at ck_X11_letters 6 rfl) rfl ?_
    refine tz_iconst (n := 73) (g_at ck_X11_letters 7 rfl) rfl ?_
    refine tz_iconst (n := 74) (g_at ck_X11_letters 8 rfl) rfl ?_
    refine tz_iconst (n := 75) (g_at ck_X11_letters 9 rfl) rfl ?_
    refine tz_csL8 (n := 78) (μ' := μX11_spelled) (cb' := 0) (sb' := 0) ml_X11_180 mo_X11_spelled ms_X11_spelled np_X11_spelled (g_at ck_X11_letters 10 rfl) (mp_spelled0 hR) rfl rfl ⟨by decide, by decide⟩ (Nat.le_of_ble_eq_true rfl) (by decide) (by decide) (fun x75 ρ9 m75 hq => ?_)
    obtain ⟨rfl, hR1, rfl, rfl⟩ := hq
    exact tz_lret (g_at ck_X11_letters 11 rfl) rfl (rL_mk ⟨rfl, hR1, by unfold lW; simp (disch := omega) only [if_pos, if_neg], rfl⟩)
  by_cases hk1_1 : k = 1
  · skip
    refine tz_tableIn (tgt := 79) (g_at ck_X11_letters 1 rfl) ⟨(by omega), (by omega)⟩ (by omega) (by omega) (by rw [hk1_1]; rfl) rfl ?_
    refine tz_bipush (n := 81) (g_at ck_X11_letters 12 rfl) rfl rfl ?_
    refine tz_bipush (n := 83) (g_at ck_X11_letters 13 rfl) rfl rfl ?_
    refine tz_bipush (n := 85) (g_at ck_X11_letters 14 rfl) rfl rfl ?_
    refine tz_bipush (n := 87) (g_at ck_X11_letters 15 rfl) rfl rfl ?_
    refine tz_bipush (n := 89) (g_at ck_X11_letters 16 rfl) rfl rfl ?_
    refine tz_iconst (n := 90) (g_at ck_X11_letters 17 rfl) rfl ?_
    refine tz_iconst (n := 91) (g_at ck_X11_letters 18 rfl) rfl ?_
    refine tz_iconst (n := 92) (g_at ck_X11_letters 19 rfl) rfl ?_
    refine tz_csL8 (n := 95) (μ' := μX11_spelled) (cb' := 0) (sb' := 0) ml_X11_180 mo_X11_spelled ms_X11_spelled np_X11_spelled (g_at ck_X11_letters 20 rfl) (mp_spelled1 hR) rfl rfl ⟨by decide, by decide⟩ (Nat.le_of_ble_eq_true rfl) (by decide) (by decide) (fun x92 ρ9 m92 hq => ?_)
    obtain ⟨rfl, hR2, rfl, rfl⟩ := hq
    exact tz_lret (g_at ck_X11_letters 21 rfl) rfl (rL_mk ⟨rfl, hR2, by unfold lW; simp (disch := omega) only [if_pos, if_neg], rfl⟩)
  by_cases hk1_2 : k = 2
  · skip
    refine tz_tableIn (tgt := 96) (g_at ck_X11_letters 1 rfl) ⟨(by omega), (by omega)⟩ (by omega) (by omega) (by rw [hk1_2]; rfl) rfl ?_
    refine tz_bipush (n := 98) (g_at ck_X11_letters 22 rfl) rfl rfl ?_
    refine tz_bipush (n := 100) (g_at ck_X11_letters 23 rfl) rfl rfl ?_
    refine tz_bipush (n := 102) (g_at ck_X11_letters 24 rfl) rfl rfl ?_
    refine tz_bipush (n := 104) (g_at ck_X11_letters 25 rfl) rfl rfl ?_
    refine tz_bipush (n := 106) (g_at ck_X11_letters 26 rfl) rfl rfl ?_
    refine tz_iconst (n := 107) (g_at ck_X11_letters 27 rfl) rfl ?_
    refine tz_iconst (n := 108) (g_at ck_X11_letters 28 rfl) rfl ?_
    refine tz_iconst (n := 109) (g_at ck_X11_letters 29 rfl) rfl ?_
    refine tz_csL8 (n := 112) (μ' := μX11_spelled) (cb' := 0) (sb' := 0) ml_X11_180 mo_X11_spelled ms_X11_spelled np_X11_spelled (g_at ck_X11_letters 30 rfl) (mp_spelled2 hR) rfl rfl ⟨by decide, by decide⟩ (Nat.le_of_ble_eq_true rfl) (by decide) (by decide) (fun x109 ρ9 m109 hq => ?_)
    obtain ⟨rfl, hR3, rfl, rfl⟩ := hq
    exact tz_lret (g_at ck_X11_letters 31 rfl) rfl (rL_mk ⟨rfl, hR3, by unfold lW; simp (disch := omega) only [if_pos, if_neg], rfl⟩)
  by_cases hk1_3 : k = 3
  · skip
    refine tz_tableIn (tgt := 113) (g_at ck_X11_letters 1 rfl) ⟨(by omega), (by omega)⟩ (by omega) (by omega) (by rw [hk1_3]; rfl) rfl ?_
    refine tz_bipush (n := 115) (g_at ck_X11_letters 32 rfl) rfl rfl ?_
    refine tz_bipush (n := 117) (g_at ck_X11_letters 33 rfl) rfl rfl ?_
    refine tz_bipush (n := 119) (g_at ck_X11_letters 34 rfl) rfl rfl ?_
    refine tz_bipush (n := 121) (g_at ck_X11_letters 35 rfl) rfl rfl ?_
    refine tz_iconst (n := 122) (g_at ck_X11_letters 36 rfl) rfl ?_
    refine tz_iconst (n := 123) (g_at ck_X11_letters 37 rfl) rfl ?_
    refine tz_iconst (n := 124) (g_at ck_X11_letters 38 rfl) rfl ?_
    refine tz_iconst (n := 125) (g_at ck_X11_letters 39 rfl) rfl ?_
    refine tz_csL8 (n := 128) (μ' := μX11_spelled) (cb' := 0) (sb' := 0) ml_X11_180 mo_X11_spelled ms_X11_spelled np_X11_spelled (g_at ck_X11_letters 40 rfl) (mp_spelled3 hR) rfl rfl ⟨by decide, by decide⟩ (Nat.le_of_ble_eq_true rfl) (by decide) (by decide) (fun x125 ρ9 m125 hq => ?_)
    obtain ⟨rfl, hR4, rfl, rfl⟩ := hq
    exact tz_lret (g_at ck_X11_letters 41 rfl) rfl (rL_mk ⟨rfl, hR4, by unfold lW; simp (disch := omega) only [if_pos, if_neg], rfl⟩)
  by_cases hk1_4 : k = 4
  · skip
    refine tz_tableIn (tgt := 129) (g_at ck_X11_letters 1 rfl) ⟨(by omega), (by omega)⟩ (by omega) (by omega) (by rw [hk1_4]; rfl) rfl ?_
    refine tz_bipush (n := 131) (g_at ck_X11_letters 42 rfl) rfl rfl ?_
    refine tz_bipush (n := 133) (g_at ck_X11_letters 43 rfl) rfl rfl ?_
    refine tz_bipush (n := 135) (g_at ck_X11_letters 44 rfl) rfl rfl ?_
    refine tz_iconst (n := 136) (g_at ck_X11_letters 45 rfl) rfl ?_
    refine tz_iconst (n := 137) (g_at ck_X11_letters 46 rfl) rfl ?_
    refine tz_iconst (n := 138) (g_at ck_X11_letters 47 rfl) rfl ?_
    refine tz_iconst (n := 139) (g_at ck_X11_letters 48 rfl) rfl ?_
    refine tz_iconst (n := 140) (g_at ck_X11_letters 49 rfl) rfl ?_
    refine tz_csL8 (n := 143) (μ' := μX11_spelled) (cb' := 0) (sb' := 0) ml_X11_180 mo_X11_spelled ms_X11_spelled np_X11_spelled (g_at ck_X11_letters 50 rfl) (mp_spelled4 hR) rfl rfl ⟨by decide, by decide⟩ (Nat.le_of_ble_eq_true rfl) (by decide) (by decide) (fun x140 ρ9 m140 hq => ?_)
    obtain ⟨rfl, hR5, rfl, rfl⟩ := hq
    exact tz_lret (g_at ck_X11_letters 51 rfl) rfl (rL_mk ⟨rfl, hR5, by unfold lW; simp (disch := omega) only [if_pos, if_neg], rfl⟩)
  by_cases hk1_5 : k = 5
  · skip
    refine tz_tableIn (tgt := 144) (g_at ck_X11_letters 1 rfl) ⟨(by omega), (by omega)⟩ (by omega) (by omega) (by rw [hk1_5]; rfl) rfl ?_
    refine tz_bipush (n := 146) (g_at ck_X11_letters 52 rfl) rfl rfl ?_
    refine tz_bipush (n := 148) (g_at ck_X11_letters 53 rfl) rfl rfl ?_
    refine tz_bipush (n := 150) (g_at ck_X11_letters 54 rfl) rfl rfl ?_
    refine tz_bipush (n := 152) (g_at ck_X11_letters 55 rfl) rfl rfl ?_
    refine tz_bipush (n := 154) (g_at ck_X11_letters 56 rfl) rfl rfl ?_
    refine tz_bipush (n := 156) (g_at ck_X11_letters 57 rfl) rfl rfl ?_
    refine tz_bipush (n := 158) (g_at ck_X11_letters 58 rfl) rfl rfl ?_
    refine tz_bipush (n := 160) (g_at ck_X11_letters 59 rfl) rfl rfl ?_
    refine tz_csL8 (n := 163) (μ' := μX11_spelled) (cb' := 0) (sb' := 0) ml_X11_180 mo_X11_spelled ms_X11_spelled np_X11_spelled (g_at ck_X11_letters 60 rfl) (mp_spelled5 hR) rfl rfl ⟨by decide, by decide⟩ (Nat.le_of_ble_eq_true rfl) (by decide) (by decide) (fun x160 ρ9 m160 hq => ?_)
    obtain ⟨rfl, hR6, rfl, rfl⟩ := hq
    exact tz_lret (g_at ck_X11_letters 61 rfl) rfl (rL_mk ⟨rfl, hR6, by unfold lW; simp (disch := omega) only [if_pos, if_neg], rfl⟩)
  by_cases hk1_6 : k = 6
  · skip
    refine tz_tableIn (tgt := 164) (g_at ck_X11_letters 1 rfl) ⟨(by omega), (by omega)⟩ (by omega) (by omega) (by rw [hk1_6]; rfl) rfl ?_
    refine tz_bipush (n := 166) (g_at ck_X11_letters 62 rfl) rfl rfl ?_
    refine tz_bipush (n := 168) (g_at ck_X11_letters 63 rfl) rfl rfl ?_
    refine tz_bipush (n := 170) (g_at ck_X11_letters 64 rfl) rfl rfl ?_
    refine tz_bipush (n := 172) (g_at ck_X11_letters 65 rfl) rfl rfl ?_
    refine tz_iconst (n := 173) (g_at ck_X11_letters 66 rfl) rfl ?_
    refine tz_iconst (n := 174) (g_at ck_X11_letters 67 rfl) rfl ?_
    refine tz_iconst (n := 175) (g_at ck_X11_letters 68 rfl) rfl ?_
    refine tz_iconst (n := 176) (g_at ck_X11_letters 69 rfl) rfl ?_
    refine tz_csL8 (n := 179) (μ' := μX11_spelled) (cb' := 0) (sb' := 0) ml_X11_180 mo_X11_spelled ms_X11_spelled np_X11_spelled (g_at ck_X11_letters 70 rfl) (mp_spelled6 hR) rfl rfl ⟨by decide, by decide⟩ (Nat.le_of_ble_eq_true rfl) (by decide) (by decide) (fun x176 ρ9 m176 hq => ?_)
    obtain ⟨rfl, hR7, rfl, rfl⟩ := hq
    exact tz_lret (g_at ck_X11_letters 71 rfl) rfl (rL_mk ⟨rfl, hR7, by unfold lW; simp (disch := omega) only [if_pos, if_neg], rfl⟩)
  by_cases hk1_7 : k = 7
  · skip
    refine tz_tableIn (tgt := 180) (g_at ck_X11_letters 1 rfl) ⟨(by omega), (by omega)⟩ (by omega) (by omega) (by rw [hk1_7]; rfl) rfl ?_
    refine tz_bipush (n := 182) (g_at ck_X11_letters 72 rfl) rfl rfl ?_
    refine tz_bipush (n := 184) (g_at ck_X11_letters 73 rfl) rfl rfl ?_
    refine tz_bipush (n := 186) (g_at ck_X11_letters 74 rfl) rfl rfl ?_
    refine tz_bipush (n := 188) (g_at ck_X11_letters 75 rfl) rfl rfl ?_
    refine tz_bipush (n := 190) (g_at ck_X11_letters 76 rfl) rfl rfl ?_
    refine tz_bipush (n := 192) (g_at ck_X11_letters 77 rfl) rfl rfl ?_
    refine tz_iconst (n := 193) (g_at ck_X11_letters 78 rfl) rfl ?_
    refine tz_iconst (n := 194) (g_at ck_X11_letters 79 rfl) rfl ?_
    refine tz_csL8 (n := 197) (μ' := μX11_spelled) (cb' := 0) (sb' := 0) ml_X11_180 mo_X11_spelled ms_X11_spelled np_X11_spelled (g_at ck_X11_letters 80 rfl) (mp_spelled7 hR) rfl rfl ⟨by decide, by decide⟩ (Nat.le_of_ble_eq_true rfl) (by decide) (by decide) (fun x194 ρ9 m194 hq => ?_)
    obtain ⟨rfl, hR8, rfl, rfl⟩ := hq
    exact tz_lret (g_at ck_X11_letters 81 rfl) rfl (rL_mk ⟨rfl, hR8, by unfold lW; simp (disch := omega) only [if_pos, if_neg], rfl⟩)
  by_cases hk1_8 : k = 8
  · skip
    refine tz_tableIn (tgt := 198) (g_at ck_X11_letters 1 rfl) ⟨(by omega), (by omega)⟩ (by omega) (by omega) (by rw [hk1_8]; rfl) rfl ?_
    refine tz_bipush (n := 200) (g_at ck_X11_letters 82 rfl) rfl rfl ?_
    refine tz_bipush (n := 202) (g_at ck_X11_letters 83 rfl) rfl rfl ?_
    refine tz_bipush (n := 204) (g_at ck_X11_letters 84 rfl) rfl rfl ?_
    refine tz_bipush (n := 206) (g_at ck_X11_letters 85 rfl) rfl rfl ?_
    refine tz_bipush (n := 208) (g_at ck_X11_letters 86 rfl) rfl rfl ?_
    refine tz_iconst (n := 209) (g_at ck_X11_letters 87 rfl) rfl ?_
    refine tz_iconst (n := 210) (g_at ck_X11_letters 88 rfl) rfl ?_
    refine tz_iconst (n := 211) (g_at ck_X11_letters 89 rfl) rfl ?_
    refine tz_csL8 (n := 214) (μ' := μX11_spelled) (cb' := 0) (sb' := 0) ml_X11_180 mo_X11_spelled ms_X11_spelled np_X11_spelled (g_at ck_X11_letters 90 rfl) (mp_spelled8 hR) rfl rfl ⟨by decide, by decide⟩ (Nat.le_of_ble_eq_true rfl) (by decide) (by decide) (fun x211 ρ9 m211 hq => ?_)
    obtain ⟨rfl, hR9, rfl, rfl⟩ := hq
    exact tz_lret (g_at ck_X11_letters 91 rfl) rfl (rL_mk ⟨rfl, hR9, by unfold lW; simp (disch := omega) only [if_pos, if_neg], rfl⟩)
  by_cases hk1_9 : k = 9
  · skip
    refine tz_tableIn (tgt := 215) (g_at ck_X11_letters 1 rfl) ⟨(by omega), (by omega)⟩ (by omega) (by omega) (by rw [hk1_9]; rfl) rfl ?_
    refine tz_bipush (n := 217) (g_at ck_X11_letters 92 rfl) rfl rfl ?_
    refine tz_bipush (n := 219) (g_at ck_X11_letters 93 rfl) rfl rfl ?_
    refine tz_bipush (n := 221) (g_at ck_X11_letters 94 rfl) rfl rfl ?_
    refine tz_bipush (n := 223) (g_at ck_X11_letters 95 rfl) rfl rfl ?_
    refine tz_bipush (n := 225) (g_at ck_X11_letters 96 rfl) rfl rfl ?_
    refine tz_iconst (n := 226) (g_at ck_X11_letters 97 rfl) rfl ?_
    refine tz_iconst (n := 227) (g_at ck_X11_letters 98 rfl) rfl ?_
    refine tz_iconst (n := 228) (g_at ck_X11_letters 99 rfl) rfl ?_
    refine tz_csL8 (n := 231) (μ' := μX11_spelled) (cb' := 0) (sb' := 0) ml_X11_180 mo_X11_spelled ms_X11_spelled np_X11_spelled (g_at ck_X11_letters 100 rfl) (mp_spelled9 hR) rfl rfl ⟨by decide, by decide⟩ (Nat.le_of_ble_eq_true rfl) (by decide) (by decide) (fun x228 ρ9 m228 hq => ?_)
    obtain ⟨rfl, hR10, rfl, rfl⟩ := hq
    exact tz_lret (g_at ck_X11_letters 101 rfl) rfl (rL_mk ⟨rfl, hR10, by unfold lW; simp (disch := omega) only [if_pos, if_neg], rfl⟩)
  by_cases hk1_10 : k = 10
  · skip
    refine tz_tableIn (tgt := 232) (g_at ck_X11_letters 1 rfl) ⟨(by omega), (by omega)⟩ (by omega) (by omega) (by rw [hk1_10]; rfl) rfl ?_
    refine tz_bipush (n := 234) (g_at ck_X11_letters 102 rfl) rfl rfl ?_
    refine tz_bipush (n := 236) (g_at ck_X11_letters 103 rfl) rfl rfl ?_
    refine tz_bipush (n := 238) (g_at ck_X11_letters 104 rfl) rfl rfl ?_
    refine tz_iconst (n := 239) (g_at ck_X11_letters 105 rfl) rfl ?_
    refine tz_iconst (n := 240) (g_at ck_X11_letters 106 rfl) rfl ?_
    refine tz_iconst (n := 241) (g_at ck_X11_letters 107 rfl) rfl ?_
    refine tz_iconst (n := 242) (g_at ck_X11_letters 108 rfl) rfl ?_
    refine tz_iconst (n := 243) (g_at ck_X11_letters 109 rfl) rfl ?_
    refine tz_csL8 (n := 246) (μ' := μX11_spelled) (cb' := 0) (sb' := 0) ml_X11_180 mo_X11_spelled ms_X11_spelled np_X11_spelled (g_at ck_X11_letters 110 rfl) (mp_spelled10 hR) rfl rfl ⟨by decide, by decide⟩ (Nat.le_of_ble_eq_true rfl) (by decide) (by decide) (fun x243 ρ9 m243 hq => ?_)
    obtain ⟨rfl, hR11, rfl, rfl⟩ := hq
    exact tz_lret (g_at ck_X11_letters 111 rfl) rfl (rL_mk ⟨rfl, hR11, by unfold lW; simp (disch := omega) only [if_pos, if_neg], rfl⟩)
  by_cases hk1_11 : k = 11
  · skip
    refine tz_tableIn (tgt := 247) (g_at ck_X11_letters 1 rfl) ⟨(by omega), (by omega)⟩ (by omega) (by omega) (by rw [hk1_11]; rfl) rfl ?_
    refine tz_bipush (n := 249) (g_at ck_X11_letters 112 rfl) rfl rfl ?_
    refine tz_bipush (n := 251) (g_at ck_X11_letters 113 rfl) rfl rfl ?_
    refine tz_iconst (n := 252) (g_at ck_X11_letters 114 rfl) rfl ?_
    refine tz_iconst (n := 253) (g_at ck_X11_letters 115 rfl) rfl ?_
    refine tz_iconst (n := 254) (g_at ck_X11_letters 116 rfl) rfl ?_
    refine tz_iconst (n := 255) (g_at ck_X11_letters 117 rfl) rfl ?_
    refine tz_iconst (n := 256) (g_at ck_X11_letters 118 rfl) rfl ?_
    refine tz_iconst (n := 257) (g_at ck_X11_letters 119 rfl) rfl ?_
    refine tz_csL8 (n := 260) (μ' := μX11_spelled) (cb' := 0) (sb' := 0) ml_X11_180 mo_X11_spelled ms_X11_spelled np_X11_spelled (g_at ck_X11_letters 120 rfl) (mp_spelled11 hR) rfl rfl ⟨by decide, by decide⟩ (Nat.le_of_ble_eq_true rfl) (by decide) (by decide) (fun x257 ρ9 m257 hq => ?_)
    obtain ⟨rfl, hR12, rfl, rfl⟩ := hq
    exact tz_lret (g_at ck_X11_letters 121 rfl) rfl (rL_mk ⟨rfl, hR12, by unfold lW; simp (disch := omega) only [if_pos, if_neg], rfl⟩)
  refine tz_tableOut (tgt := 261) (g_at ck_X11_letters 1 rfl) ⟨(by omega), (by omega)⟩ (by omega) rfl ?_
  refine tz_bipush (n := 263) (g_at ck_X11_letters 122 rfl) rfl rfl ?_
  refine tz_bipush (n := 265) (g_at ck_X11_letters 123 rfl) rfl rfl ?_
  refine tz_bipush (n := 267) (g_at ck_X11_letters 124 rfl) rfl rfl ?_
  refine tz_iconst (n := 268) (g_at ck_X11_letters 125 rfl) rfl ?_
  refine tz_iconst (n := 269) (g_at ck_X11_letters 126 rfl) rfl ?_
  refine tz_iconst (n := 270) (g_at ck_X11_letters 127 rfl) rfl ?_
  refine tz_iconst (n := 271) (g_at ck_X11_letters 128 rfl) rfl ?_
  refine tz_iconst (n := 272) (g_at ck_X11_letters 129 rfl) rfl ?_
  refine tz_csL8 (n := 275) (μ' := μX11_spelled) (cb' := 0) (sb' := 0) ml_X11_180 mo_X11_spelled ms_X11_spelled np_X11_spelled (g_at ck_X11_letters 130 rfl) (mp_spelled12 hR) rfl rfl ⟨by decide, by decide⟩ (Nat.le_of_ble_eq_true rfl) (by decide) (by decide) (fun x272 ρ9 m272 hq => ?_)
  obtain ⟨rfl, hR13, rfl, rfl⟩ := hq
  exact tz_lret (g_at ck_X11_letters 131 rfl) rfl (rL_mk ⟨rfl, hR13, by unfold lW; simp (disch := omega) only [if_pos, if_neg], rfl⟩)
