/-! The JDK's own: bitCount, fill. -/
def bc1 (x : Int) : Int := x - bAnd (bUsh x 1) 1431655765
def bc2 (x : Int) : Int := bAnd x 858993459 + bAnd (bUsh x 2) 858993459
def bc3 (x : Int) : Int := bAnd (x + bUsh x 4) 252645135
def bcJ (x : Int) : Int := bAnd (bc3 (bc2 (bc1 x)) + bUsh (bc3 (bc2 (bc1 x))) 8 + bUsh (bc3 (bc2 (bc1 x)) + bUsh (bc3 (bc2 (bc1 x))) 8) 16) 63
/-- the row a, its first n places x -/
def fil (m : Mm) (a : Int) (n : Nat) (x : Int) : Mm := fun r j => if r = a ∧ 0 ≤ j ∧ j < n then x else m r j
theorem fil_ne {m : Mm} {a x r : Int} {n : Nat} (h : r ≠ a) : fil m a n x r = m r := funext fun j => if_neg fun h9 => h h9.1
theorem fil_at {m : Mm} {a x j : Int} {n : Nat} (h : 0 ≤ j ∧ j < n) : fil m a n x a j = x := if_pos ⟨rfl, h⟩
theorem fil_0 {m : Mm} {a x : Int} : fil m a 0 x = m := funext fun r => funext fun j => if_neg fun h => by omega
theorem fil_s {m : Mm} {a x : Int} {n : Nat} : wr (fil m a n x) a (n : Int) x = fil m a (n + 1) x := funext fun r => funext fun j => by
  unfold wr fil
  by_cases h1 : r = a ∧ j = (n : Int)
  · rw [if_pos h1, if_pos ⟨h1.1, by omega⟩]
  · rw [if_neg h1]
    by_cases h2 : r = a ∧ 0 ≤ j ∧ j < (n : Int)
    · rw [if_pos h2, if_pos ⟨h2.1, by omega⟩]
    · rw [if_neg h2, if_neg fun h3 => by
        by_cases h4 : j = (n : Int)
        · exact h1 ⟨h3.1, h4⟩
        · exact h2 ⟨h3.1, by omega⟩]
theorem MR.fil {m : Mm} (h : MR m) {a x : Int} {n : Nat} (hx : -2147483648 ≤ x ∧ x < 2147483648) : MR (fil m a n x) := fun r j => by
  show -2147483648 ≤ (if r = a ∧ 0 ≤ j ∧ j < n then x else m r j) ∧ (if r = a ∧ 0 ≤ j ∧ j < n then x else m r j) < 2147483648
  split
  · exact hx
  · exact h r j
theorem sp_bitCount {l : Launch} {γ : Gh} {ρ m : Mm} {x : Int} (hR : MR m) : gE l γ μJ6_bitCount_0f7a4 0 0 0 (rI KK fun x9 ρ9 m9 => ρ = ρ9 ∧ MR m9 ∧ bcJ x = x9 ∧ m = m9) xN KK ρ m [vI x] := by
  refine gE.ofw cl_J6.2 ?_ rfl rfl (Nat.le_of_ble_eq_true rfl)
  show gT l γ μJ6_bitCount_0f7a4 0 0 0 _ _ KK ρ m 0 [some (vI x)] []
  refine tz_iload0 (n := 1) (g_at ck_J6_bitCount_0f7a4 0 rfl) rfl ?_
  refine tz_iload0 (n := 2) (g_at ck_J6_bitCount_0f7a4 1 rfl) rfl ?_
  refine tz_iconst (n := 3) (g_at ck_J6_bitCount_0f7a4 2 rfl) rfl ?_
  refine tz_iushr (n := 4) (g_at ck_J6_bitCount_0f7a4 3 rfl) rfl ?_
  refine tz_ldcwI (n := 7) kn_J6_265 (g_at ck_J6_bitCount_0f7a4 4 rfl) rfl ?_
  refine tz_iand (n := 8) (g_at ck_J6_bitCount_0f7a4 5 rfl) rfl ?_
  refine tz_isub (n := 9) (g_at ck_J6_bitCount_0f7a4 6 rfl) rfl ?_
  refine tz_istore0 (n := 10) (g_at ck_J6_bitCount_0f7a4 7 rfl) rfl (by decide) ?_
  refine tz_iload0 (n := 11) (g_at ck_J6_bitCount_0f7a4 8 rfl) rfl ?_
  refine tz_ldcwI (n := 14) kn_J6_266 (g_at ck_J6_bitCount_0f7a4 9 rfl) rfl ?_
  refine tz_iand (n := 15) (g_at ck_J6_bitCount_0f7a4 10 rfl) rfl ?_
  refine tz_iload0 (n := 16) (g_at ck_J6_bitCount_0f7a4 11 rfl) rfl ?_
  refine tz_iconst (n := 17) (g_at ck_J6_bitCount_0f7a4 12 rfl) rfl ?_
  refine tz_iushr (n := 18) (g_at ck_J6_bitCount_0f7a4 13 rfl) rfl ?_
  refine tz_ldcwI (n := 21) kn_J6_266 (g_at ck_J6_bitCount_0f7a4 14 rfl) rfl ?_
  refine tz_iand (n := 22) (g_at ck_J6_bitCount_0f7a4 15 rfl) rfl ?_
  refine tz_iadd (n := 23) (g_at ck_J6_bitCount_0f7a4 16 rfl) rfl ?_
  refine tz_istore0 (n := 24) (g_at ck_J6_bitCount_0f7a4 17 rfl) rfl (by decide) ?_
  refine tz_iload0 (n := 25) (g_at ck_J6_bitCount_0f7a4 18 rfl) rfl ?_
  refine tz_iload0 (n := 26) (g_at ck_J6_bitCount_0f7a4 19 rfl) rfl ?_
  refine tz_iconst (n := 27) (g_at ck_J6_bitCount_0f7a4 20 rfl) rfl ?_
  refine tz_iushr (n := 28) (g_at ck_J6_bitCount_0f7a4 21 rfl) rfl ?_
  refine tz_iadd (n := 29) (g_at ck_J6_bitCount_0f7a4 22 rfl) rfl ?_
  refine tz_ldcwI (n := 32) kn_J6_267 (g_at ck_J6_bitCount_0f7a4 23 rfl) rfl ?_
  refine tz_iand (n := 33) (g_at ck_J6_bitCount_0f7a4 24 rfl) rfl ?_
  refine tz_istore0 (n := 34) (g_at ck_J6_bitCount_0f7a4 25 rfl) rfl (by decide) ?_
  refine tz_iload0 (n := 35) (g_at ck_J6_bitCount_0f7a4 26 rfl) rfl ?_
  refine tz_iload0 (n := 36) (g_at ck_J6_bitCount_0f7a4 27 rfl) rfl ?_
  refine tz_bipush (n := 38) (g_at ck_J6_bitCount_0f7a4 28 rfl) rfl rfl ?_
  refine tz_iushr (n := 39) (g_at ck_J6_bitCount_0f7a4 29 rfl) rfl ?_
  refine tz_iadd (n := 40) (g_at ck_J6_bitCount_0f7a4 30 rfl) rfl ?_
  refine tz_istore0 (n := 41) (g_at ck_J6_bitCount_0f7a4 31 rfl) rfl (by decide) ?_
  refine tz_iload0 (n := 42) (g_at ck_J6_bitCount_0f7a4 32 rfl) rfl ?_
  refine tz_iload0 (n := 43) (g_at ck_J6_bitCount_0f7a4 33 rfl) rfl ?_
  refine tz_bipush (n := 45) (g_at ck_J6_bitCount_0f7a4 34 rfl) rfl rfl ?_
  refine tz_iushr (n := 46) (g_at ck_J6_bitCount_0f7a4 35 rfl) rfl ?_
  refine tz_iadd (n := 47) (g_at ck_J6_bitCount_0f7a4 36 rfl) rfl ?_
  refine tz_istore0 (n := 48) (g_at ck_J6_bitCount_0f7a4 37 rfl) rfl (by decide) ?_
  refine tz_iload0 (n := 49) (g_at ck_J6_bitCount_0f7a4 38 rfl) rfl ?_
  refine tz_bipush (n := 51) (g_at ck_J6_bitCount_0f7a4 39 rfl) rfl rfl ?_
  refine tz_iand (n := 52) (g_at ck_J6_bitCount_0f7a4 40 rfl) rfl ?_
  exact tz_iret (g_at ck_J6_bitCount_0f7a4 41 rfl) rfl (rI_mk ⟨rfl, hR, rfl, rfl⟩)
theorem sp_fill {l : Launch} {γ : Gh} {ρ m : Mm} {a x : Int} {N : Nat} (hk : g_k KK a = some (.inr (0, N))) (hN : N < 2147483648) (hR : MR m) (hx : -2147483648 ≤ x ∧ x < 2147483648) : gE l γ μJ7_fill_53178 0 0 0 (rV KK fun ρ9 m9 => ρ = ρ9 ∧ MR m9 ∧ fil m a N x = m9) xN KK ρ m [vR a, vI x] := by
  refine gE.ofw cl_J7.2 ?_ rfl rfl (Nat.le_of_ble_eq_true rfl)
  show gT l γ μJ7_fill_53178 0 0 0 _ _ KK ρ m 0 [some (vR a), some (vI x), none, none] []
  refine tz_iconst (n := 1) (g_at ck_J7_fill_53178 0 rfl) rfl ?_
  refine tz_istore2 (n := 2) (g_at ck_J7_fill_53178 1 rfl) rfl (by decide) g_hpI ?_
  refine tz_aload0 (n := 3) (g_at ck_J7_fill_53178 2 rfl) rfl (g_ne hk) ?_
  refine tz_alen (n := 4) hk (g_at ck_J7_fill_53178 3 rfl) rfl ?_
  refine tz_istore3 (n := 5) (g_at ck_J7_fill_53178 4 rfl) rfl (by decide) g_hpI ?_
  suffices hlp : ∀ i : Nat, i ≤ N → gT l γ μJ7_fill_53178 0 0 0 _ _ KK ρ (fil m a i x) 5 [some (vR a), some (vI x), some (vI (i : Int)), some (vI (N : Int))] [] by
    have h0 := hlp 0 (Nat.zero_le _)
    rw [fil_0] at h0
    exact h0
  refine g_for (fun i : Nat => gT l γ μJ7_fill_53178 0 0 0 _ _ KK ρ (fil m a i x) 5 [some (vR a), some (vI x), some (vI (i : Int)), some (vI (N : Int))] []) N ?_ (fun i hi ihi => ?_)
  · skip
    refine tz_iload2 (n := 6) (g_at ck_J7_fill_53178 5 rfl) rfl ?_
    refine tz_iload3 (n := 7) (g_at ck_J7_fill_53178 6 rfl) rfl ?_
    refine tz_icmp_ge (n := 10) (tgt := 20) (g_at ck_J7_fill_53178 7 rfl) rfl rfl ⟨(by omega), (by omega), (by omega), (by omega)⟩ (fun h7 => ?_) (fun h7 => absurd h7 (by omega))
    exact tz_vret (g_at ck_J7_fill_53178 14 rfl) rfl (rV_mk ⟨rfl, (hR.fil hx), rfl⟩)
  · skip
    refine tz_iload2 (n := 6) (g_at ck_J7_fill_53178 5 rfl) rfl ?_
    refine tz_iload3 (n := 7) (g_at ck_J7_fill_53178 6 rfl) rfl ?_
    refine tz_icmp_ge (n := 10) (tgt := 20) (g_at ck_J7_fill_53178 7 rfl) rfl rfl ⟨(by omega), (by omega), (by omega), (by omega)⟩ (fun h7 => absurd h7 (by omega)) (fun h7 => ?_)
    refine tz_aload0 (n := 11) (g_at ck_J7_fill_53178 8 rfl) rfl (g_ne hk) ?_
    refine tz_iload2 (n := 12) (g_at ck_J7_fill_53178 9 rfl) rfl ?_
    refine tz_iload1 (n := 13) (g_at ck_J7_fill_53178 10 rfl) rfl ?_
    refine tz_iastr (n := 14) hk (by omega) (g_at ck_J7_fill_53178 11 rfl) rfl (hR.fil hx) ⟨hx.1, hx.2⟩ (fun hR1 => ?_)
    refine tz_iinc2 (n := 17) (g_at ck_J7_fill_53178 12 rfl) rfl (by decide) g_hpI ?_
    refine tz_goto (tgt := 5) (g_at ck_J7_fill_53178 13 rfl) rfl ?_
    rw [fil_s]
    exact ihi
