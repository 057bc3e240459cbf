/-! Ways: roads laid, ways joined. -/
/-- 0 how far, 1 how dear (9 a + z), 2 bits of next ones, 3 roads to it less roads from it -/
def WyC (m ω : Mm) : Prop := (∀ j, 0 ≤ j → j < 81 → m 72 j = ω 0 j ∧ m 73 j = ω 1 j) ∧ ∀ a, 0 ≤ a → a < 9 → m 74 a = ω 2 a ∧ m 76 a = ω 3 a
def WyB (k : Int) (ω : Mm) : Prop := (∀ j, (0 ≤ ω 0 j ∧ ω 0 j ≤ 10000) ∧ 0 ≤ ω 1 j ∧ ω 1 j ≤ 10000) ∧ ∀ a, -k ≤ ω 3 a ∧ ω 3 a ≤ k
theorem WyC.s0 {m ω : Mm} {k x : Int} (h : WyC m ω) : WyC (wr m 72 k x) (wr ω 0 k x) := ⟨fun j a b => ⟨by rw [wr_at, wr_at, (h.1 j a b).1], by rw [wr_ne (by decide), wr_ne (by decide)]; exact (h.1 j a b).2⟩, fun j a b => by rw [wr_ne (by decide), wr_ne (by decide), wr_ne (by decide), wr_ne (by decide)]; exact h.2 j a b⟩
theorem WyC.s1 {m ω : Mm} {k x : Int} (h : WyC m ω) : WyC (wr m 73 k x) (wr ω 1 k x) := ⟨fun j a b => ⟨by rw [wr_ne (by decide), wr_ne (by decide)]; exact (h.1 j a b).1, by rw [wr_at, wr_at, (h.1 j a b).2]⟩, fun j a b => by rw [wr_ne (by decide), wr_ne (by decide), wr_ne (by decide), wr_ne (by decide)]; exact h.2 j a b⟩
theorem WyC.s2 {m ω : Mm} {k x : Int} (h : WyC m ω) : WyC (wr m 74 k x) (wr ω 2 k x) := ⟨fun j a b => by rw [wr_ne (by decide), wr_ne (by decide), wr_ne (by decide), wr_ne (by decide)]; exact h.1 j a b, fun j a b => ⟨by rw [wr_at, wr_at, (h.2 j a b).1], by rw [wr_ne (by decide), wr_ne (by decide)]; exact (h.2 j a b).2⟩⟩
theorem WyC.s3 {m ω : Mm} {k x : Int} (h : WyC m ω) : WyC (wr m 76 k x) (wr ω 3 k x) := ⟨fun j a b => by rw [wr_ne (by decide), wr_ne (by decide), wr_ne (by decide), wr_ne (by decide)]; exact h.1 j a b, fun j a b => ⟨by rw [wr_ne (by decide), wr_ne (by decide)]; exact (h.2 j a b).1, by rw [wr_at, wr_at, (h.2 j a b).2]⟩⟩
theorem WyC.sam {m m9 ω : Mm} (h : WyC m ω) (k : ∀ a, a = 72 ∨ a = 73 ∨ a = 74 ∨ a = 76 → m9 a = m a) : WyC m9 ω := by
  refine ⟨fun j a b => ?_, fun j a b => ?_⟩
  · rw [k 72 (by decide), k 73 (by decide)]; exact h.1 j a b
  · rw [k 74 (by decide), k 76 (by decide)]; exact h.2 j a b
def wyL : List Int := [72, 73, 74, 75, 76, 77, 78, 79, 71]
def wy4 : List Int := [72, 73, 74, 76]
theorem wy4_L {m m9 : Mm} (h : Fr wy4 m m9) : Fr wyL m m9 := h.sub (by decide)
theorem qM_wy {ld : Int} {m m9 : Mm} (h : Fr wyL m m9) : qM ld m m9 := fun a h1 h2 h3 => h a fun h9 => by
  unfold wyL at h9
  simp only [List.mem_cons, List.not_mem_nil, or_false] at h9
  omega
theorem WyB.up {ω : Mm} {k k' : Int} (h : WyB k ω) (hk : k ≤ k') : WyB k' ω := ⟨h.1, fun a => by have := h.2 a; omega⟩
theorem WyB.s0 {ω : Mm} {k j x : Int} (h : WyB k ω) (hx : 0 ≤ x ∧ x ≤ 10000) : WyB k (wr ω 0 j x) := ⟨fun i => ⟨by rw [wr_at]; split; exact hx; exact (h.1 i).1, by rw [wr_ne (by decide)]; exact (h.1 i).2⟩, fun a => by rw [wr_ne (by decide)]; exact h.2 a⟩
theorem WyB.s1 {ω : Mm} {k j x : Int} (h : WyB k ω) (hx : 0 ≤ x ∧ x ≤ 10000) : WyB k (wr ω 1 j x) := ⟨fun i => ⟨by rw [wr_ne (by decide)]; exact (h.1 i).1, by rw [wr_at]; split; exact hx; exact (h.1 i).2⟩, fun a => by rw [wr_ne (by decide)]; exact h.2 a⟩
theorem WyB.s2 {ω : Mm} {k j x : Int} (h : WyB k ω) : WyB k (wr ω 2 j x) := ⟨fun i => by rw [wr_ne (by decide), wr_ne (by decide)]; exact h.1 i, fun a => by rw [wr_ne (by decide)]; exact h.2 a⟩
theorem WyB.s3 {ω : Mm} {k j x : Int} (h : WyB k ω) (hx : -k ≤ x ∧ x ≤ k) : WyB k (wr ω 3 j x) := ⟨fun i => by rw [wr_ne (by decide), wr_ne (by decide)]; exact h.1 i, fun a => by rw [wr_at]; split; exact hx; exact h.2 a⟩
def lrP (Λ : Mm) (a z : Int) (ω : Mm) : Mm := wr (wr (wr (wr (wr ω 0 (a * 9 + z) 1) 1 (a * 9 + z) (Λ 1 z)) 2 a (bOr (ω 2 a) (bShl 1 z))) 3 a (ω 3 a - 1)) 3 z ((if z = a then ω 3 a - 1 else ω 3 z) + 1)
def lrR (Λ : Mm) (s : Int → Int) (a : Int) (ω : Mm) (n : Nat) : Mm := fd (fun r w => if shutB (s (26 + a)) (r : Int) = 0 then lrP Λ a (Λ 4 (a * 5 + (r : Int))) w else w) ω n
def lrN (Λ : Mm) (s : Int → Int) (n : Nat) : Mm := fd (fun a w => lrR Λ s (a : Int) (wr (wr w 0 ((a : Int) * 9 + (a : Int)) 0) 1 ((a : Int) * 9 + (a : Int)) 0) (Λ 3 (a : Int)).toNat) (fun k _ => if k = 0 ∨ k = 1 then 10000 else 0) n
theorem lrP_B {Λ ω : Mm} {a z k : Int} (h : WyB k ω) (hk : 0 ≤ k) (ht : 0 ≤ Λ 1 z ∧ Λ 1 z ≤ 9) : WyB (k + 1) (lrP Λ a z ω) := by
  have h1 := h.2 a
  have h2 := h.2 z
  have h0 := h.up (show k ≤ k + 1 by omega)
  unfold lrP
  refine ((((h0.s0 (by decide)).s1 (by omega)).s2).s3 (by omega)).s3 ?_
  split <;> omega
theorem lrR_B {Λ ω : Mm} {s : Int → Int} {a k : Int} (hW : WL Λ) (ha : 0 ≤ a ∧ a < Λ 0 0) (h : WyB k ω) (hk : 0 ≤ k) : ∀ n : Nat, (n : Int) ≤ Λ 3 a → WyB (k + n) (lrR Λ s a ω n)
  | 0, _ => h.up (by omega)
  | n + 1, hn => by
    have ih := lrR_B (s := s) hW ha h hk n (by omega)
    have he := hW.2.2.2.1 a (n : Int) ha.1 ha.2 (by omega) (by omega)
    have ht := hW.2.2.1 _ he.1 he.2
    show WyB _ (if shutB (s (26 + a)) (n : Int) = 0 then lrP Λ a (Λ 4 (a * 5 + (n : Int))) (lrR Λ s a ω n) else lrR Λ s a ω n)
    split
    · exact (lrP_B ih (by omega) (by omega)).up (by omega)
    · exact ih.up (by omega)
theorem lrN_B {Λ : Mm} {s : Int → Int} (hW : WL Λ) : ∀ n : Nat, (n : Int) ≤ Λ 0 0 → WyB (5 * n) (lrN Λ s n)
  | 0, _ => ⟨fun j => by show (0 ≤ (10000 : Int) ∧ (10000 : Int) ≤ 10000) ∧ 0 ≤ (10000 : Int) ∧ (10000 : Int) ≤ 10000; decide, fun a => by show -(5 * ((0 : Nat) : Int)) ≤ 0 ∧ 0 ≤ 5 * ((0 : Nat) : Int); decide⟩
  | n + 1, hn => by
    have ih := lrN_B (s := s) hW n (by omega)
    have h3 := hW.2.2.1 (n : Int) (by omega) (by omega)
    exact (lrR_B (s := s) hW (by omega) ((ih.s0 (j := (n : Int) * 9 + (n : Int)) (by decide)).s1 (j := (n : Int) * 9 + (n : Int)) (by decide)) (by omega) (Λ 3 (n : Int)).toNat (by omega)).up (by omega)
def mn2 (x y : Int) : Int := if y < x then y else x
def jnS (b a z : Int) (w : Mm) : Mm := wr (wr w 0 (a * 9 + z) (mn2 (w 0 (a * 9 + z)) (w 0 (a * 9 + b) + w 0 (b * 9 + z)))) 1 (a * 9 + z) (mn2 (w 1 (a * 9 + z)) (w 1 (a * 9 + b) + w 1 (b * 9 + z)))
def jnZ (b a : Int) (ω : Mm) (n : Nat) : Mm := fd (fun z w => jnS b a (z : Int) w) ω n
def jnA (N : Nat) (b : Int) (ω : Mm) (n : Nat) : Mm := fd (fun a w => jnZ b (a : Int) w N) ω n
def jnN (N : Nat) (ω : Mm) (n : Nat) : Mm := fd (fun b w => jnA N (b : Int) w N) ω n
theorem jnS_B {ω : Mm} {a b z k : Int} (h : WyB k ω) : WyB k (jnS b a z ω) := by
  have h1 := h.1 (a * 9 + z)
  have h2 := h.1 (a * 9 + b)
  have h3 := h.1 (b * 9 + z)
  unfold jnS mn2
  refine (h.s0 ?_).s1 ?_
  · split <;> omega
  · split <;> omega
theorem jnZ_B {ω : Mm} {a b k : Int} (h : WyB k ω) : ∀ n, WyB k (jnZ b a ω n)
  | 0 => h
  | n + 1 => jnS_B (jnZ_B h n)
theorem jnA_B {ω : Mm} {b k : Int} {N : Nat} (h : WyB k ω) : ∀ n, WyB k (jnA N b ω n)
  | 0 => h
  | n + 1 => jnZ_B (jnA_B h n) N
theorem jnN_B {ω : Mm} {k : Int} {N : Nat} (h : WyB k ω) : ∀ n, WyB k (jnN N ω n)
  | 0 => h
  | n + 1 => jnA_B (jnN_B h n) N
def wyW (Λ : Mm) (s : Int → Int) : Mm := jnN (Λ 0 0).toNat (lrN Λ s (Λ 0 0).toNat) (Λ 0 0).toNat
theorem wyW_B {Λ : Mm} (hW : WL Λ) (s : Int → Int) : WyB 45 (wyW Λ s) := by
  have hn := hW.1
  exact (jnN_B (lrN_B hW (Λ 0 0).toNat (by omega)) _).up (by omega)
def rcP (Λ : Mm) (s : Int → Int) (a : Int) : Int := bmI (fun z => wyW Λ s 0 (a * 9 + (z : Int)) < 10000) (Λ 0 0).toNat
/-- the ways by the roads that are open in the row s -/
def SvC (m Λ : Mm) (s : Int → Int) : Prop := WyC m (wyW Λ s) ∧ (∀ a, 0 ≤ a → a < Λ 0 0 → m 75 a = rcP Λ s a) ∧ ∀ p, 0 ≤ p → p < 8 → m 77 p = s (1 + p)
theorem WyC.f {m ω : Mm} (h : WyC m ω) (j : Int) (hj : 0 ≤ j ∧ j < 81) : m 72 j = ω 0 j := (h.1 j hj.1 hj.2).1
theorem WyC.c {m ω : Mm} (h : WyC m ω) (j : Int) (hj : 0 ≤ j ∧ j < 81) : m 73 j = ω 1 j := (h.1 j hj.1 hj.2).2
theorem WyC.n {m ω : Mm} (h : WyC m ω) (j : Int) (hj : 0 ≤ j ∧ j < 9) : m 74 j = ω 2 j := (h.2 j hj.1 hj.2).1
theorem WyC.b {m ω : Mm} (h : WyC m ω) (j : Int) (hj : 0 ≤ j ∧ j < 9) : m 76 j = ω 3 j := (h.2 j hj.1 hj.2).2
theorem sp_pair {l : Launch} {γ : Gh} {ρ m : Mm} {a z : Int} (hR : MR m) : gE l γ μX9_pair 0 0 0 (rI KK fun x ρ9 m9 => ρ = ρ9 ∧ MR m9 ∧ a * 9 + z = x ∧ m = m9) xN KK ρ m [vI a, vI z] := by
  refine gE.ofw cl_X9.2 ?_ rfl rfl (Nat.le_of_ble_eq_true rfl)
  show gT l γ μX9_pair 0 0 0 _ _ KK ρ m 0 [some (vI a), some (vI z)] []
  refine tz_iload0 (n := 1) (g_at ck_X9_pair 0 rfl) rfl ?_
  refine tz_bipush (n := 3) (g_at ck_X9_pair 1 rfl) rfl rfl ?_
  refine tz_imul (n := 4) (g_at ck_X9_pair 2 rfl) rfl ?_
  refine tz_iload1 (n := 5) (g_at ck_X9_pair 3 rfl) rfl ?_
  refine tz_iadd (n := 6) (g_at ck_X9_pair 4 rfl) rfl ?_
  exact tz_iret (g_at ck_X9_pair 5 rfl) rfl (rI_mk ⟨rfl, hR, rfl, rfl⟩)
theorem sp_farFrom {l : Launch} {γ : Gh} {ρ m : Mm} {a z v : Int} (hL : LY ρ) (hR : MR m) (hb : 0 ≤ a * 9 + z ∧ a * 9 + z < 81) (hv : m 72 (a * 9 + z) = v) : gE l γ μX9_farFrom 1 0 0 (rI KK fun x ρ9 m9 => ρ = ρ9 ∧ MR m9 ∧ v = x ∧ m = m9) xN KK ρ m [vR 71, vI a, vI z] := by
  refine gE.ofw cl_X9.2 ?_ rfl rfl (Nat.le_of_ble_eq_true rfl)
  show gT l γ μX9_farFrom 1 0 0 _ _ KK ρ m 0 [some (vR 71), some (vI a), some (vI z)] []
  refine tz_aload0 (n := 1) (g_at ck_X9_farFrom 0 rfl) rfl (g_ne kd_71) ?_
  refine tz_getAv (n := 4) (a := 72) fk_X9_9 kd_71 (ly_71_1 hL) (g_at ck_X9_farFrom 1 rfl) rfl ?_
  refine tz_iload1 (n := 5) (g_at ck_X9_farFrom 2 rfl) rfl ?_
  refine tz_iload2 (n := 6) (g_at ck_X9_farFrom 3 rfl) rfl ?_
  refine tz_csI2 (n := 9) (μ' := μX9_pair) (cb' := 0) (sb' := 0) ml_X9_73 mo_X9_pair ms_X9_pair np_X9_pair (g_at ck_X9_farFrom 4 rfl) (sp_pair hR) rfl rfl ⟨by decide, by decide⟩ (Nat.le_of_ble_eq_true rfl) (by decide) (by decide) (fun x6 ρ9 m6 hq => ?_)
  obtain ⟨rfl, hR1, rfl, rfl⟩ := hq
  refine tz_iald (n := 10) kd_72 (by omega) (g_at ck_X9_farFrom 5 rfl) rfl ?_
  rw [hv]
  exact tz_iret (g_at ck_X9_farFrom 6 rfl) rfl (rI_mk ⟨rfl, hR1, rfl, rfl⟩)
theorem sp_costFrom {l : Launch} {γ : Gh} {ρ m : Mm} {a z v : Int} (hL : LY ρ) (hR : MR m) (hb : 0 ≤ a * 9 + z ∧ a * 9 + z < 81) (hv : m 73 (a * 9 + z) = v) : gE l γ μX9_costFrom 1 0 0 (rI KK fun x ρ9 m9 => ρ = ρ9 ∧ MR m9 ∧ v = x ∧ m = m9) xN KK ρ m [vR 71, vI a, vI z] := by
  refine gE.ofw cl_X9.2 ?_ rfl rfl (Nat.le_of_ble_eq_true rfl)
  show gT l γ μX9_costFrom 1 0 0 _ _ KK ρ m 0 [some (vR 71), some (vI a), some (vI z)] []
  refine tz_aload0 (n := 1) (g_at ck_X9_costFrom 0 rfl) rfl (g_ne kd_71) ?_
  refine tz_getAv (n := 4) (a := 73) fk_X9_15 kd_71 (ly_71_2 hL) (g_at ck_X9_costFrom 1 rfl) rfl ?_
  refine tz_iload1 (n := 5) (g_at ck_X9_costFrom 2 rfl) rfl ?_
  refine tz_iload2 (n := 6) (g_at ck_X9_costFrom 3 rfl) rfl ?_
  refine tz_csI2 (n := 9) (μ' := μX9_pair) (cb' := 0) (sb' := 0) ml_X9_73 mo_X9_pair ms_X9_pair np_X9_pair (g_at ck_X9_costFrom 4 rfl) (sp_pair hR) rfl rfl ⟨by decide, by decide⟩ (Nat.le_of_ble_eq_true rfl) (by decide) (by decide) (fun x6 ρ9 m6 hq => ?_)
  obtain ⟨rfl, hR1, rfl, rfl⟩ := hq
  refine tz_iald (n := 10) kd_73 (by omega) (g_at ck_X9_costFrom 5 rfl) rfl ?_
  rw [hv]
  exact tz_iret (g_at ck_X9_costFrom 6 rfl) rfl (rI_mk ⟨rfl, hR1, rfl, rfl⟩)
theorem sp_layRoad {l : Launch} {γ : Gh} {ρ m : Mm} {ld : Int} {Λ : Mm} {hl tl : List Int} (hL : LY ρ) (hLw : ρ 71 0 = ld) (hS : isS ρ ld) (hR : MR m) (hW : WL Λ) (hG : LandC m ld Λ hl tl) {ω : Mm} {a z k : Int} (hC : WyC m ω) (hB : WyB k ω) (hk : 0 ≤ k ∧ k ≤ 100) (ha : 0 ≤ a ∧ a < Λ 0 0) (hz : 0 ≤ z ∧ z < Λ 0 0) : gE l γ μX9_layRoad 1 0 0 (rV KK fun ρ9 m9 => ρ = ρ9 ∧ MR m9 ∧ WyC m9 (lrP Λ a z ω) ∧ Fr wy4 m m9) xN KK ρ m [vR 71, vI a, vI z] := by
  refine gE.ofw cl_X9.2 ?_ rfl rfl (Nat.le_of_ble_eq_true rfl)
  show gT l γ μX9_layRoad 1 0 0 _ _ KK ρ m 0 [some (vR 71), some (vI a), some (vI z)] []
  have hn := hW.1
  have hn8 := hW.2.1
  have hld := hG.ld9
  have ht := hW.2.2.1 z hz.1 hz.2
  have hb1 := hB.2 a
  have hb2 := hB.2 z
  refine tz_aload0 (n := 1) (g_at ck_X9_layRoad 0 rfl) rfl (g_ne kd_71) ?_
  refine tz_getAv (n := 4) (a := 72) fk_X9_9 kd_71 (ly_71_1 hL) (g_at ck_X9_layRoad 1 rfl) rfl ?_
  refine tz_iload1 (n := 5) (g_at ck_X9_layRoad 2 rfl) rfl ?_
  refine tz_iload2 (n := 6) (g_at ck_X9_layRoad 3 rfl) rfl ?_
  refine tz_csI2 (n := 9) (μ' := μX9_pair) (cb' := 0) (sb' := 0) ml_X9_73 mo_X9_pair ms_X9_pair np_X9_pair (g_at ck_X9_layRoad 4 rfl) (sp_pair hR) rfl rfl ⟨by decide, by decide⟩ (Nat.le_of_ble_eq_true rfl) (by decide) (by decide) (fun x6 ρ9 m6 hq => ?_)
  obtain ⟨rfl, hR1, rfl, rfl⟩ := hq
  refine tz_iconst (n := 10) (g_at ck_X9_layRoad 5 rfl) rfl ?_
  refine tz_iastr (n := 11) kd_72 (by omega) (g_at ck_X9_layRoad 6 rfl) rfl hR1 ⟨(by decide), (by decide)⟩ (fun hR2 => ?_)
  refine tz_aload0 (n := 12) (g_at ck_X9_layRoad 7 rfl) rfl (g_ne kd_71) ?_
  refine tz_getAv (n := 15) (a := 73) fk_X9_15 kd_71 (ly_71_2 hL) (g_at ck_X9_layRoad 8 rfl) rfl ?_
  refine tz_iload1 (n := 16) (g_at ck_X9_layRoad 9 rfl) rfl ?_
  refine tz_iload2 (n := 17) (g_at ck_X9_layRoad 10 rfl) rfl ?_
  refine tz_csI2 (n := 20) (μ' := μX9_pair) (cb' := 0) (sb' := 0) ml_X9_73 mo_X9_pair ms_X9_pair np_X9_pair (g_at ck_X9_layRoad 11 rfl) (sp_pair hR2) rfl rfl ⟨by decide, by decide⟩ (Nat.le_of_ble_eq_true rfl) (by decide) (by decide) (fun x17 ρ9 m17 hq => ?_)
  obtain ⟨rfl, hR3, rfl, rfl⟩ := hq
  refine tz_aload0 (n := 21) (g_at ck_X9_layRoad 12 rfl) rfl (g_ne kd_71) ?_
  refine tz_getOv (n := 24) (a := ld) fk_X9_36 kd_71 hLw (g_at ck_X9_layRoad 13 rfl) rfl ?_
  refine tz_getAv (n := 27) (a := (ld + 1)) fk_X9_90 hS.k0 hS.r0_2 (g_at ck_X9_layRoad 14 rfl) rfl ?_
  refine tz_iload2 (n := 28) (g_at ck_X9_layRoad 15 rfl) rfl ?_
  refine tz_iald (n := 29) hS.k1 (by omega) (g_at ck_X9_layRoad 16 rfl) rfl ?_
  rw [wr_ne (show ld + 1 ≠ 72 by omega), hG.toll z hz]
  refine tz_iastr (n := 30) kd_73 (by omega) (g_at ck_X9_layRoad 17 rfl) rfl hR3 (by omega) (fun hR4 => ?_)
  refine tz_aload0 (n := 31) (g_at ck_X9_layRoad 18 rfl) rfl (g_ne kd_71) ?_
  refine tz_getAv (n := 34) (a := 74) fk_X9_18 kd_71 (ly_71_3 hL) (g_at ck_X9_layRoad 19 rfl) rfl ?_
  refine tz_iload1 (n := 35) (g_at ck_X9_layRoad 20 rfl) rfl ?_
  refine tz_dup2 (n := 36) (g_at ck_X9_layRoad 21 rfl) rfl ?_
  refine tz_iald (n := 37) kd_74 (by omega) (g_at ck_X9_layRoad 22 rfl) rfl ?_
  rw [wr_ne (show (74 : Int) ≠ 73 by decide), wr_ne (show (74 : Int) ≠ 72 by decide), hC.n a (by omega)]
  refine tz_iconst (n := 38) (g_at ck_X9_layRoad 23 rfl) rfl ?_
  refine tz_iload2 (n := 39) (g_at ck_X9_layRoad 24 rfl) rfl ?_
  refine tz_ishl (n := 40) (g_at ck_X9_layRoad 25 rfl) rfl ?_
  refine tz_ior (n := 41) (g_at ck_X9_layRoad 26 rfl) rfl ?_
  refine tz_iastr (n := 42) kd_74 (by omega) (g_at ck_X9_layRoad 27 rfl) rfl hR4 ⟨(bOr_rg _ _).1, (bOr_rg _ _).2⟩ (fun hR5 => ?_)
  refine tz_aload0 (n := 43) (g_at ck_X9_layRoad 28 rfl) rfl (g_ne kd_71) ?_
  refine tz_getAv (n := 46) (a := 76) fk_X9_24 kd_71 (ly_71_5 hL) (g_at ck_X9_layRoad 29 rfl) rfl ?_
  refine tz_iload1 (n := 47) (g_at ck_X9_layRoad 30 rfl) rfl ?_
  refine tz_dup2 (n := 48) (g_at ck_X9_layRoad 31 rfl) rfl ?_
  refine tz_iald (n := 49) kd_76 (by omega) (g_at ck_X9_layRoad 32 rfl) rfl ?_
  rw [wr_ne (show (76 : Int) ≠ 74 by decide), wr_ne (show (76 : Int) ≠ 73 by decide), wr_ne (show (76 : Int) ≠ 72 by decide), hC.b a (by omega)]
  refine tz_iconst (n := 50) (g_at ck_X9_layRoad 33 rfl) rfl ?_
  refine tz_isub (n := 51) (g_at ck_X9_layRoad 34 rfl) rfl ?_
  refine tz_iastr (n := 52) kd_76 (by omega) (g_at ck_X9_layRoad 35 rfl) rfl hR5 (by omega) (fun hR6 => ?_)
  refine tz_aload0 (n := 53) (g_at ck_X9_layRoad 36 rfl) rfl (g_ne kd_71) ?_
  refine tz_getAv (n := 56) (a := 76) fk_X9_24 kd_71 (ly_71_5 hL) (g_at ck_X9_layRoad 37 rfl) rfl ?_
  refine tz_iload2 (n := 57) (g_at ck_X9_layRoad 38 rfl) rfl ?_
  refine tz_dup2 (n := 58) (g_at ck_X9_layRoad 39 rfl) rfl ?_
  refine tz_iald (n := 59) kd_76 (by omega) (g_at ck_X9_layRoad 40 rfl) rfl ?_
  rw [wr_at, wr_ne (show (76 : Int) ≠ 74 by decide), wr_ne (show (76 : Int) ≠ 73 by decide), wr_ne (show (76 : Int) ≠ 72 by decide), hC.b z (by omega)]
  have hif : -200 ≤ (if z = a then ω 3 a - 1 else ω 3 z) ∧ (if z = a then ω 3 a - 1 else ω 3 z) ≤ 200 := by split <;> omega
  refine tz_iconst (n := 60) (g_at ck_X9_layRoad 41 rfl) rfl ?_
  refine tz_iadd (n := 61) (g_at ck_X9_layRoad 42 rfl) rfl ?_
  refine tz_iastr (n := 62) kd_76 (by omega) (g_at ck_X9_layRoad 43 rfl) rfl hR6 (by omega) (fun hR7 => ?_)
  exact tz_vret (g_at ck_X9_layRoad 44 rfl) rfl (rV_mk ⟨rfl, hR7, ((((hC.s0).s1).s2).s3).s3, ((((Fr.rf.wr (by decide)).wr (by decide)).wr (by decide)).wr (by decide)).wr (by decide)⟩)
theorem sp_layRoads {l : Launch} {γ : Gh} {ρ m : Mm} {ld : Int} {Λ : Mm} {hl tl : List Int} (hL : LY ρ) (hLw : ρ 71 0 = ld) (hS : isS ρ ld) (hR : MR m) (hW : WL Λ) (hG : LandC m ld Λ hl tl) {s : Int → Int} (hN : MomC m 39 s) : gE l γ μX9_layRoads 2 0 0 (rV KK fun ρ9 m9 => ρ = ρ9 ∧ MR m9 ∧ WyC m9 (lrN Λ s (Λ 0 0).toNat) ∧ Fr wy4 m m9) xN KK ρ m [vR 71, vR 39] := by
  refine gE.ofw cl_X9.2 ?_ rfl rfl (Nat.le_of_ble_eq_true rfl)
  show gT l γ μX9_layRoads 2 0 0 _ _ KK ρ m 0 [some (vR 71), some (vR 39), none, none] []
  have hn := hW.1
  have hn8 := hW.2.1
  have hld := hG.ld9
  refine tz_aload0 (n := 1) (g_at ck_X9_layRoads 0 rfl) rfl (g_ne kd_71) ?_
  refine tz_getAv (n := 4) (a := 72) fk_X9_9 kd_71 (ly_71_1 hL) (g_at ck_X9_layRoads 1 rfl) rfl ?_
  refine tz_sipush (n := 7) (g_at ck_X9_layRoads 2 rfl) rfl rfl ?_
  refine tz_csV2 (n := 10) (μ' := μJ7_fill_53178) (cb' := 0) (sb' := 0) ml_X9_67 mo_J7_fill_53178 ms_J7_fill_53178 np_J7_fill_53178 (g_at ck_X9_layRoads 3 rfl) (sp_fill kd_72 (by decide) hR ⟨(by decide), (by decide)⟩) rfl rfl ⟨by decide, by decide⟩ (Nat.le_of_ble_eq_true rfl) (by decide) (by decide) (fun ρ9 m7 hq => ?_)
  obtain ⟨rfl, hR1, rfl⟩ := hq
  refine tz_aload0 (n := 11) (g_at ck_X9_layRoads 4 rfl) rfl (g_ne kd_71) ?_
  refine tz_getAv (n := 14) (a := 73) fk_X9_15 kd_71 (ly_71_2 hL) (g_at ck_X9_layRoads 5 rfl) rfl ?_
  refine tz_sipush (n := 17) (g_at ck_X9_layRoads 6 rfl) rfl rfl ?_
  refine tz_csV2 (n := 20) (μ' := μJ7_fill_53178) (cb' := 0) (sb' := 0) ml_X9_67 mo_J7_fill_53178 ms_J7_fill_53178 np_J7_fill_53178 (g_at ck_X9_layRoads 7 rfl) (sp_fill kd_73 (by decide) hR1 ⟨(by decide), (by decide)⟩) rfl rfl ⟨by decide, by decide⟩ (Nat.le_of_ble_eq_true rfl) (by decide) (by decide) (fun ρ9 m17 hq => ?_)
  obtain ⟨rfl, hR2, rfl⟩ := hq
  refine tz_aload0 (n := 21) (g_at ck_X9_layRoads 8 rfl) rfl (g_ne kd_71) ?_
  refine tz_getAv (n := 24) (a := 74) fk_X9_18 kd_71 (ly_71_3 hL) (g_at ck_X9_layRoads 9 rfl) rfl ?_
  refine tz_iconst (n := 25) (g_at ck_X9_layRoads 10 rfl) rfl ?_
  refine tz_csV2 (n := 28) (μ' := μJ7_fill_53178) (cb' := 0) (sb' := 0) ml_X9_67 mo_J7_fill_53178 ms_J7_fill_53178 np_J7_fill_53178 (g_at ck_X9_layRoads 11 rfl) (sp_fill kd_74 (by decide) hR2 ⟨(by decide), (by decide)⟩) rfl rfl ⟨by decide, by decide⟩ (Nat.le_of_ble_eq_true rfl) (by decide) (by decide) (fun ρ9 m25 hq => ?_)
  obtain ⟨rfl, hR3, rfl⟩ := hq
  refine tz_aload0 (n := 29) (g_at ck_X9_layRoads 12 rfl) rfl (g_ne kd_71) ?_
  refine tz_getAv (n := 32) (a := 76) fk_X9_24 kd_71 (ly_71_5 hL) (g_at ck_X9_layRoads 13 rfl) rfl ?_
  refine tz_iconst (n := 33) (g_at ck_X9_layRoads 14 rfl) rfl ?_
  refine tz_csV2 (n := 36) (μ' := μJ7_fill_53178) (cb' := 0) (sb' := 0) ml_X9_67 mo_J7_fill_53178 ms_J7_fill_53178 np_J7_fill_53178 (g_at ck_X9_layRoads 15 rfl) (sp_fill kd_76 (by decide) hR3 ⟨(by decide), (by decide)⟩) rfl rfl ⟨by decide, by decide⟩ (Nat.le_of_ble_eq_true rfl) (by decide) (by decide) (fun ρ9 m33 hq => ?_)
  obtain ⟨rfl, hR4, rfl⟩ := hq
  refine tz_iconst (n := 37) (g_at ck_X9_layRoads 16 rfl) rfl ?_
  refine tz_istore2 (n := 38) (g_at ck_X9_layRoads 17 rfl) rfl (by decide) g_hpR ?_
  refine g_for (fun i : Nat => ∀ m1 : Mm, (MR m1 ∧ WyC m1 (lrN Λ s i) ∧ Fr wy4 m m1) → gT l γ μX9_layRoads 2 0 0 _ _ KK ρ m1 38 [some (vR 71), some (vR 39), some (vI (i : Int)), none] []) (Λ 0 0).toNat ?_ (fun i hi ihi => ?_) 0 (Nat.zero_le _) _ ⟨hR4, ⟨fun j h1 h2 => ⟨by rw [fil_ne (by decide), fil_ne (by decide), fil_ne (by decide), fil_at (by omega)]; rfl, by rw [fil_ne (by decide), fil_ne (by decide), fil_at (by omega)]; rfl⟩, fun j h1 h2 => ⟨by rw [fil_ne (by decide), fil_at (by omega)]; rfl, by rw [fil_at (by omega)]; rfl⟩⟩, (((Fr.rf.fil (by decide)).fil (by decide)).fil (by decide)).fil (by decide)⟩
  · intro m1 hinv
    obtain ⟨hR1, hC1, hF1⟩ := hinv
    have hG1 := hG.q (qM_wy (wy4_L hF1))
    refine tz_iload2 (n := 39) (g_at ck_X9_layRoads 18 rfl) rfl ?_
    refine tz_aload0 (n := 40) (g_at ck_X9_layRoads 19 rfl) rfl (g_ne kd_71) ?_
    refine tz_getOv (n := 43) (a := ld) fk_X9_36 kd_71 hLw (g_at ck_X9_layRoads 20 rfl) rfl ?_
    refine tz_getIw (n := 46) (kz := 0) fk_X9_53 hS.k0 (g_at ck_X9_layRoads 21 rfl) rfl rfl ?_
    rw [hG1.n0]
    refine tz_icmp_ge (n := 49) (tgt := 121) (g_at ck_X9_layRoads 22 rfl) rfl rfl ⟨by omega, by omega, by omega, by omega⟩ (fun h46 => ?_) (fun h46 => absurd h46 (by omega))
    exact tz_vret (g_at ck_X9_layRoads 63 rfl) rfl (rV_mk ⟨rfl, hR1, hC1, hF1⟩)
  · intro m1 hinv
    obtain ⟨hR1, hC1, hF1⟩ := hinv
    have hG1 := hG.q (qM_wy (wy4_L hF1))
    have hc3 := hW.2.2.1 (i : Int) (by omega) (by omega)
    have hBi := ((lrN_B (s := s) hW i (by omega)).s0 (j := (i : Int) * 9 + (i : Int)) (x := 0) (by decide)).s1 (j := (i : Int) * 9 + (i : Int)) (x := 0) (by decide)
    refine tz_iload2 (n := 39) (g_at ck_X9_layRoads 18 rfl) rfl ?_
    refine tz_aload0 (n := 40) (g_at ck_X9_layRoads 19 rfl) rfl (g_ne kd_71) ?_
    refine tz_getOv (n := 43) (a := ld) fk_X9_36 kd_71 hLw (g_at ck_X9_layRoads 20 rfl) rfl ?_
    refine tz_getIw (n := 46) (kz := 0) fk_X9_53 hS.k0 (g_at ck_X9_layRoads 21 rfl) rfl rfl ?_
    rw [hG1.n0]
    refine tz_icmp_ge (n := 49) (tgt := 121) (g_at ck_X9_layRoads 22 rfl) rfl rfl ⟨by omega, by omega, by omega, by omega⟩ (fun h46 => absurd h46 (by omega)) (fun h46 => ?_)
    refine tz_aload0 (n := 50) (g_at ck_X9_layRoads 23 rfl) rfl (g_ne kd_71) ?_
    refine tz_getAv (n := 53) (a := 72) fk_X9_9 kd_71 (ly_71_1 hL) (g_at ck_X9_layRoads 24 rfl) rfl ?_
    refine tz_iload2 (n := 54) (g_at ck_X9_layRoads 25 rfl) rfl ?_
    refine tz_iload2 (n := 55) (g_at ck_X9_layRoads 26 rfl) rfl ?_
    refine tz_csI2 (n := 58) (μ' := μX9_pair) (cb' := 0) (sb' := 0) ml_X9_73 mo_X9_pair ms_X9_pair np_X9_pair (g_at ck_X9_layRoads 27 rfl) (sp_pair hR1) rfl rfl ⟨by decide, by decide⟩ (Nat.le_of_ble_eq_true rfl) (by decide) (by decide) (fun x55 ρ9 m55 hq => ?_)
    obtain ⟨rfl, hR5, rfl, rfl⟩ := hq
    refine tz_iconst (n := 59) (g_at ck_X9_layRoads 28 rfl) rfl ?_
    refine tz_iastr (n := 60) kd_72 (by omega) (g_at ck_X9_layRoads 29 rfl) rfl hR5 ⟨(by decide), (by decide)⟩ (fun hR6 => ?_)
    refine tz_aload0 (n := 61) (g_at ck_X9_layRoads 30 rfl) rfl (g_ne kd_71) ?_
    refine tz_getAv (n := 64) (a := 73) fk_X9_15 kd_71 (ly_71_2 hL) (g_at ck_X9_layRoads 31 rfl) rfl ?_
    refine tz_iload2 (n := 65) (g_at ck_X9_layRoads 32 rfl) rfl ?_
    refine tz_iload2 (n := 66) (g_at ck_X9_layRoads 33 rfl) rfl ?_
    refine tz_csI2 (n := 69) (μ' := μX9_pair) (cb' := 0) (sb' := 0) ml_X9_73 mo_X9_pair ms_X9_pair np_X9_pair (g_at ck_X9_layRoads 34 rfl) (sp_pair hR6) rfl rfl ⟨by decide, by decide⟩ (Nat.le_of_ble_eq_true rfl) (by decide) (by decide) (fun x66 ρ9 m66 hq => ?_)
    obtain ⟨rfl, hR7, rfl, rfl⟩ := hq
    refine tz_iconst (n := 70) (g_at ck_X9_layRoads 35 rfl) rfl ?_
    refine tz_iastr (n := 71) kd_73 (by omega) (g_at ck_X9_layRoads 36 rfl) rfl hR7 ⟨(by decide), (by decide)⟩ (fun hR8 => ?_)
    refine tz_iconst (n := 72) (g_at ck_X9_layRoads 37 rfl) rfl ?_
    refine tz_istore3 (n := 73) (g_at ck_X9_layRoads 38 rfl) rfl (by decide) g_hpI ?_
    refine g_for (fun j : Nat => ∀ m2 : Mm, (MR m2 ∧ WyC m2 (lrR Λ s (i : Int) (wr (wr (lrN Λ s i) 0 ((i : Int) * 9 + (i : Int)) 0) 1 ((i : Int) * 9 + (i : Int)) 0) j) ∧ Fr wy4 m m2) → gT l γ μX9_layRoads 2 0 0 _ _ KK ρ m2 73 [some (vR 71), some (vR 39), some (vI (i : Int)), some (vI (j : Int))] []) (Λ 3 (i : Int)).toNat ?_ (fun j hj ihj => ?_) 0 (Nat.zero_le _) _ ⟨hR8, (hC1.s0).s1, (hF1.wr (by decide)).wr (by decide)⟩
    · intro m2 hinv
      obtain ⟨hR2, hC2, hF2⟩ := hinv
      have hG2 := hG.q (qM_wy (wy4_L hF2))
      refine tz_iload3 (n := 74) (g_at ck_X9_layRoads 39 rfl) rfl ?_
      refine tz_aload0 (n := 75) (g_at ck_X9_layRoads 40 rfl) rfl (g_ne kd_71) ?_
      refine tz_getOv (n := 78) (a := ld) fk_X9_36 kd_71 hLw (g_at ck_X9_layRoads 41 rfl) rfl ?_
      refine tz_getAv (n := 81) (a := (ld + 3)) fk_X9_76 hS.k0 hS.r0_4 (g_at ck_X9_layRoads 42 rfl) rfl ?_
      refine tz_iload2 (n := 82) (g_at ck_X9_layRoads 43 rfl) rfl ?_
      refine tz_iald (n := 83) hS.k3 (by omega) (g_at ck_X9_layRoads 44 rfl) rfl ?_
      rw [hG2.roads (i : Int) (by omega)]
      refine tz_icmp_ge (n := 86) (tgt := 115) (g_at ck_X9_layRoads 45 rfl) rfl rfl ⟨by omega, by omega, by omega, by omega⟩ (fun h83 => ?_) (fun h83 => absurd h83 (by omega))
      refine tz_iinc2 (n := 118) (g_at ck_X9_layRoads 61 rfl) rfl (by decide) g_hpR ?_
      refine tz_goto (tgt := 38) (g_at ck_X9_layRoads 62 rfl) rfl ?_
      refine tz_drop3 ?_
      exact ihi _ ⟨hR2, hC2, hF2⟩
    · intro m2 hinv
      obtain ⟨hR2, hC2, hF2⟩ := hinv
      have hG2 := hG.q (qM_wy (wy4_L hF2))
      have hN2 := hN.q hld (qM_wy (wy4_L hF2))
      have hBj := lrR_B (s := s) hW (show 0 ≤ (i : Int) ∧ (i : Int) < Λ 0 0 by omega) hBi (by omega) j (by omega)
      refine tz_iload3 (n := 74) (g_at ck_X9_layRoads 39 rfl) rfl ?_
      refine tz_aload0 (n := 75) (g_at ck_X9_layRoads 40 rfl) rfl (g_ne kd_71) ?_
      refine tz_getOv (n := 78) (a := ld) fk_X9_36 kd_71 hLw (g_at ck_X9_layRoads 41 rfl) rfl ?_
      refine tz_getAv (n := 81) (a := (ld + 3)) fk_X9_76 hS.k0 hS.r0_4 (g_at ck_X9_layRoads 42 rfl) rfl ?_
      refine tz_iload2 (n := 82) (g_at ck_X9_layRoads 43 rfl) rfl ?_
      refine tz_iald (n := 83) hS.k3 (by omega) (g_at ck_X9_layRoads 44 rfl) rfl ?_
      rw [hG2.roads (i : Int) (by omega)]
      refine tz_icmp_ge (n := 86) (tgt := 115) (g_at ck_X9_layRoads 45 rfl) rfl rfl ⟨by omega, by omega, by omega, by omega⟩ (fun h83 => absurd h83 (by omega)) (fun h83 => ?_)
      refine tz_aload1 (n := 87) (g_at ck_X9_layRoads 46 rfl) rfl (g_ne (isM_39 hL).k0) ?_
      refine tz_iload2 (n := 88) (g_at ck_X9_layRoads 47 rfl) rfl ?_
      refine tz_iload3 (n := 89) (g_at ck_X9_layRoads 48 rfl) rfl ?_
      refine tz_cvI2 (n := 92) (μ' := μX2_isShut) (cb' := 0) (sb' := 0) ml_X9_79 mo_X2_isShut mv_X2_isShut np_X2_isShut (isM_39 hL).k0 (g_at ck_X9_layRoads 49 rfl) (sp_isShut (isM_39 hL) hR2 (by omega)) rfl rfl rfl ⟨by decide, by decide⟩ (Nat.le_of_ble_eq_true rfl) (by decide) (by decide) (fun x89 ρ9 m89 hq => ?_)
      obtain ⟨rfl, hR9, rfl, rfl⟩ := hq
      rw [show m2 (39 + 4) (i : Int) = s (26 + (i : Int)) from nowS hN2 (i : Int) (by omega)]
      have h01 := shutB_01 (s (26 + (i : Int))) (j : Int)
      refine tz_if_ne (n := 95) (tgt := 109) (g_at ck_X9_layRoads 50 rfl) rfl rfl (by omega) (fun h92 => ?_) (fun h92 => ?_)
      · skip
        refine tz_iinc3 (n := 112) (g_at ck_X9_layRoads 59 rfl) rfl (by decide) g_hpI ?_
        refine tz_goto (tgt := 73) (g_at ck_X9_layRoads 60 rfl) rfl ?_
        have e9 : lrR Λ s (i : Int) (wr (wr (lrN Λ s i) 0 ((i : Int) * 9 + (i : Int)) 0) 1 ((i : Int) * 9 + (i : Int)) 0) (j + 1) = (lrR Λ s (i : Int) (wr (wr (lrN Λ s i) 0 ((i : Int) * 9 + (i : Int)) 0) 1 ((i : Int) * 9 + (i : Int)) 0) j) := if_neg h92
        exact ihj _ ⟨hR9, (by rw [e9]; exact hC2), hF2⟩
      · skip
        refine tz_aload0 (n := 96) (g_at ck_X9_layRoads 51 rfl) rfl (g_ne kd_71) ?_
        refine tz_iload2 (n := 97) (g_at ck_X9_layRoads 52 rfl) rfl ?_
        refine tz_aload0 (n := 98) (g_at ck_X9_layRoads 53 rfl) rfl (g_ne kd_71) ?_
        refine tz_getOv (n := 101) (a := ld) fk_X9_36 kd_71 hLw (g_at ck_X9_layRoads 54 rfl) rfl ?_
        refine tz_iload2 (n := 102) (g_at ck_X9_layRoads 55 rfl) rfl ?_
        refine tz_iload3 (n := 103) (g_at ck_X9_layRoads 56 rfl) rfl ?_
        refine tz_cvI2 (n := 106) (μ' := μX6_leads) (cb' := 0) (sb' := 0) ml_X9_83 mo_X6_leads mv_X6_leads np_X6_leads hS.k0 (g_at ck_X9_layRoads 57 rfl) (sp_leads hS hR9 (by omega)) rfl rfl rfl ⟨by decide, by decide⟩ (Nat.le_of_ble_eq_true rfl) (by decide) (by decide) (fun x103 ρ9 m103 hq => ?_)
        obtain ⟨rfl, hR10, rfl, rfl⟩ := hq
        rw [hG2.ends (i : Int) (j : Int) (by omega) (by omega)]
        have he := hW.2.2.2.1 (i : Int) (j : Int) (by omega) (by omega) (by omega) (by omega)
        refine tz_cvV2 (n := 109) (μ' := μX9_layRoad) (cb' := 0) (sb' := 0) ml_X9_86 mo_X9_layRoad mv_X9_layRoad np_X9_layRoad kd_71 (g_at ck_X9_layRoads 58 rfl) (sp_layRoad hL hLw hS hR10 hW hG2 hC2 hBj (by omega) (by omega) (by omega)) rfl rfl rfl ⟨by decide, by decide⟩ (Nat.le_of_ble_eq_true rfl) (by decide) (by decide) (fun ρ9 m106 hq => ?_)
        obtain ⟨rfl, hR11, hC106, hF106⟩ := hq
        refine tz_iinc3 (n := 112) (g_at ck_X9_layRoads 59 rfl) rfl (by decide) g_hpI ?_
        refine tz_goto (tgt := 73) (g_at ck_X9_layRoads 60 rfl) rfl ?_
        have e9 : lrR Λ s (i : Int) (wr (wr (lrN Λ s i) 0 ((i : Int) * 9 + (i : Int)) 0) 1 ((i : Int) * 9 + (i : Int)) 0) (j + 1) = lrP Λ (i : Int) (Λ 4 ((i : Int) * 5 + (j : Int))) (lrR Λ s (i : Int) (wr (wr (lrN Λ s i) 0 ((i : Int) * 9 + (i : Int)) 0) 1 ((i : Int) * 9 + (i : Int)) 0) j) := if_pos h92
        exact ihj _ ⟨hR11, (by rw [e9]; exact hC106), hF2.tr hF106⟩
theorem sp_joinWays {l : Launch} {γ : Gh} {ρ m : Mm} {ld : Int} {Λ : Mm} {hl tl : List Int} (hL : LY ρ) (hLw : ρ 71 0 = ld) (hS : isS ρ ld) (hR : MR m) (hW : WL Λ) (hG : LandC m ld Λ hl tl) {ω : Mm} {b k : Int} (hC : WyC m ω) (hB : WyB k ω) (hb : 0 ≤ b ∧ b < Λ 0 0) : gE l γ μX9_joinWays 2 0 0 (rV KK fun ρ9 m9 => ρ = ρ9 ∧ MR m9 ∧ WyC m9 (jnA (Λ 0 0).toNat b ω (Λ 0 0).toNat) ∧ Fr wy4 m m9) xN KK ρ m [vR 71, vI b] := by
  refine gE.ofw cl_X9.2 ?_ rfl rfl (Nat.le_of_ble_eq_true rfl)
  show gT l γ μX9_joinWays 2 0 0 _ _ KK ρ m 0 [some (vR 71), some (vI b), none, none, none] []
  have hn := hW.1
  have hn8 := hW.2.1
  have hld := hG.ld9
  refine tz_iconst (n := 1) (g_at ck_X9_joinWays 0 rfl) rfl ?_
  refine tz_istore2 (n := 2) (g_at ck_X9_joinWays 1 rfl) rfl (by decide) g_hpI ?_
  refine g_for (fun i : Nat => ∀ m1 : Mm, (MR m1 ∧ WyC m1 (jnA (Λ 0 0).toNat b ω i) ∧ Fr wy4 m m1) → gT l γ μX9_joinWays 2 0 0 _ _ KK ρ m1 2 [some (vR 71), some (vI b), some (vI (i : Int)), none, none] []) (Λ 0 0).toNat ?_ (fun i hi ihi => ?_) 0 (Nat.zero_le _) _ ⟨hR, hC, Fr.rf⟩
  · intro m1 hinv
    obtain ⟨hR1, hC1, hF1⟩ := hinv
    have hG1 := hG.q (qM_wy (wy4_L hF1))
    refine tz_iload2 (n := 3) (g_at ck_X9_joinWays 2 rfl) rfl ?_
    refine tz_aload0 (n := 4) (g_at ck_X9_joinWays 3 rfl) rfl (g_ne kd_71) ?_
    refine tz_getOv (n := 7) (a := ld) fk_X9_36 kd_71 hLw (g_at ck_X9_joinWays 4 rfl) rfl ?_
    refine tz_getIw (n := 10) (kz := 0) fk_X9_53 hS.k0 (g_at ck_X9_joinWays 5 rfl) rfl rfl ?_
    rw [hG1.n0]
    refine tz_icmp_ge (n := 13) (tgt := 105) (g_at ck_X9_joinWays 6 rfl) rfl rfl ⟨by omega, by omega, by omega, by omega⟩ (fun h10 => ?_) (fun h10 => absurd h10 (by omega))
    exact tz_vret (g_at ck_X9_joinWays 58 rfl) rfl (rV_mk ⟨rfl, hR1, hC1, hF1⟩)
  · intro m1 hinv
    obtain ⟨hR1, hC1, hF1⟩ := hinv
    have hG1 := hG.q (qM_wy (wy4_L hF1))
    have hBi := jnA_B (b := b) (N := (Λ 0 0).toNat) hB i
    refine tz_iload2 (n := 3) (g_at ck_X9_joinWays 2 rfl) rfl ?_
    refine tz_aload0 (n := 4) (g_at ck_X9_joinWays 3 rfl) rfl (g_ne kd_71) ?_
    refine tz_getOv (n := 7) (a := ld) fk_X9_36 kd_71 hLw (g_at ck_X9_joinWays 4 rfl) rfl ?_
    refine tz_getIw (n := 10) (kz := 0) fk_X9_53 hS.k0 (g_at ck_X9_joinWays 5 rfl) rfl rfl ?_
    rw [hG1.n0]
    refine tz_icmp_ge (n := 13) (tgt := 105) (g_at ck_X9_joinWays 6 rfl) rfl rfl ⟨by omega, by omega, by omega, by omega⟩ (fun h10 => absurd h10 (by omega)) (fun h10 => ?_)
    refine tz_iconst (n := 14) (g_at ck_X9_joinWays 7 rfl) rfl ?_
    refine tz_istore3 (n := 15) (g_at ck_X9_joinWays 8 rfl) rfl (by decide) g_hpI ?_
    refine g_for (fun j : Nat => ∀ m2 : Mm, (MR m2 ∧ WyC m2 (jnZ b (i : Int) (jnA (Λ 0 0).toNat b ω i) j) ∧ Fr wy4 m m2) → gT l γ μX9_joinWays 2 0 0 _ _ KK ρ m2 15 [some (vR 71), some (vI b), some (vI (i : Int)), some (vI (j : Int)), none] []) (Λ 0 0).toNat ?_ (fun j hj ihj => ?_) 0 (Nat.zero_le _) _ ⟨hR1, hC1, hF1⟩
    · intro m2 hinv
      obtain ⟨hR2, hC2, hF2⟩ := hinv
      have hG2 := hG.q (qM_wy (wy4_L hF2))
      refine tz_iload3 (n := 16) (g_at ck_X9_joinWays 9 rfl) rfl ?_
      refine tz_aload0 (n := 17) (g_at ck_X9_joinWays 10 rfl) rfl (g_ne kd_71) ?_
      refine tz_getOv (n := 20) (a := ld) fk_X9_36 kd_71 hLw (g_at ck_X9_joinWays 11 rfl) rfl ?_
      refine tz_getIw (n := 23) (kz := 0) fk_X9_53 hS.k0 (g_at ck_X9_joinWays 12 rfl) rfl rfl ?_
      rw [hG2.n0]
      refine tz_icmp_ge (n := 26) (tgt := 99) (g_at ck_X9_joinWays 13 rfl) rfl rfl ⟨by omega, by omega, by omega, by omega⟩ (fun h23 => ?_) (fun h23 => absurd h23 (by omega))
      refine tz_iinc2 (n := 102) (g_at ck_X9_joinWays 56 rfl) rfl (by decide) g_hpI ?_
      refine tz_goto (tgt := 2) (g_at ck_X9_joinWays 57 rfl) rfl ?_
      refine tz_drop3 ?_
      exact ihi _ ⟨hR2, hC2, hF2⟩
    · intro m2 hinv
      obtain ⟨hR2, hC2, hF2⟩ := hinv
      have hG2 := hG.q (qM_wy (wy4_L hF2))
      have hBj := jnZ_B (b := b) (a := (i : Int)) hBi j
      have hx1 := hBj.1 ((i : Int) * 9 + (j : Int))
      have hx2 := hBj.1 ((i : Int) * 9 + b)
      have hx3 := hBj.1 (b * 9 + (j : Int))
      refine tz_iload3 (n := 16) (g_at ck_X9_joinWays 9 rfl) rfl ?_
      refine tz_aload0 (n := 17) (g_at ck_X9_joinWays 10 rfl) rfl (g_ne kd_71) ?_
      refine tz_getOv (n := 20) (a := ld) fk_X9_36 kd_71 hLw (g_at ck_X9_joinWays 11 rfl) rfl ?_
      refine tz_getIw (n := 23) (kz := 0) fk_X9_53 hS.k0 (g_at ck_X9_joinWays 12 rfl) rfl rfl ?_
      rw [hG2.n0]
      refine tz_icmp_ge (n := 26) (tgt := 99) (g_at ck_X9_joinWays 13 rfl) rfl rfl ⟨by omega, by omega, by omega, by omega⟩ (fun h23 => absurd h23 (by omega)) (fun h23 => ?_)
      refine tz_iload2 (n := 27) (g_at ck_X9_joinWays 14 rfl) rfl ?_
      refine tz_iload3 (n := 28) (g_at ck_X9_joinWays 15 rfl) rfl ?_
      refine tz_csI2 (n := 31) (μ' := μX9_pair) (cb' := 0) (sb' := 0) ml_X9_73 mo_X9_pair ms_X9_pair np_X9_pair (g_at ck_X9_joinWays 16 rfl) (sp_pair hR2) rfl rfl ⟨by decide, by decide⟩ (Nat.le_of_ble_eq_true rfl) (by decide) (by decide) (fun x28 ρ9 m28 hq => ?_)
      obtain ⟨rfl, hR1, rfl, rfl⟩ := hq
      refine tz_istore4 (n := 33) (g_at ck_X9_joinWays 17 rfl) rfl (by decide) g_hpI ?_
      refine tz_aload0 (n := 34) (g_at ck_X9_joinWays 18 rfl) rfl (g_ne kd_71) ?_
      refine tz_getAv (n := 37) (a := 72) fk_X9_9 kd_71 (ly_71_1 hL) (g_at ck_X9_joinWays 19 rfl) rfl ?_
      refine tz_iload4 (n := 39) (g_at ck_X9_joinWays 20 rfl) rfl ?_
      refine tz_aload0 (n := 40) (g_at ck_X9_joinWays 21 rfl) rfl (g_ne kd_71) ?_
      refine tz_getAv (n := 43) (a := 72) fk_X9_9 kd_71 (ly_71_1 hL) (g_at ck_X9_joinWays 22 rfl) rfl ?_
      refine tz_iload4 (n := 45) (g_at ck_X9_joinWays 23 rfl) rfl ?_
      refine tz_iald (n := 46) kd_72 (by omega) (g_at ck_X9_joinWays 24 rfl) rfl ?_
      rw [hC2.f _ (by omega)]
      refine tz_aload0 (n := 47) (g_at ck_X9_joinWays 25 rfl) rfl (g_ne kd_71) ?_
      refine tz_iload2 (n := 48) (g_at ck_X9_joinWays 26 rfl) rfl ?_
      refine tz_iload1 (n := 49) (g_at ck_X9_joinWays 27 rfl) rfl ?_
      refine tz_cvI2 (n := 52) (μ' := μX9_farFrom) (cb' := 0) (sb' := 0) ml_X9_63 mo_X9_farFrom mv_X9_farFrom np_X9_farFrom kd_71 (g_at ck_X9_joinWays 28 rfl) (sp_farFrom hL hR1 (by omega) (hC2.f _ (by omega))) rfl rfl rfl ⟨by decide, by decide⟩ (Nat.le_of_ble_eq_true rfl) (by decide) (by decide) (fun x49 ρ9 m49 hq => ?_)
      obtain ⟨rfl, hR2, rfl, rfl⟩ := hq
      refine tz_aload0 (n := 53) (g_at ck_X9_joinWays 29 rfl) rfl (g_ne kd_71) ?_
      refine tz_iload1 (n := 54) (g_at ck_X9_joinWays 30 rfl) rfl ?_
      refine tz_iload3 (n := 55) (g_at ck_X9_joinWays 31 rfl) rfl ?_
      refine tz_cvI2 (n := 58) (μ' := μX9_farFrom) (cb' := 0) (sb' := 0) ml_X9_63 mo_X9_farFrom mv_X9_farFrom np_X9_farFrom kd_71 (g_at ck_X9_joinWays 32 rfl) (sp_farFrom hL hR2 (by omega) (hC2.f _ (by omega))) rfl rfl rfl ⟨by decide, by decide⟩ (Nat.le_of_ble_eq_true rfl) (by decide) (by decide) (fun x55 ρ9 m55 hq => ?_)
      obtain ⟨rfl, hR3, rfl, rfl⟩ := hq
      refine tz_iadd (n := 59) (g_at ck_X9_joinWays 33 rfl) rfl ?_
      refine tz_mmin (n := 62) mm_X9_93 mmin_1 mm_i mmin_2 ⟨by omega, by omega, by omega, by omega⟩ (g_at ck_X9_joinWays 34 rfl) rfl (by decide) (Nat.le_of_ble_eq_true rfl) ?_
      refine tz_iastr (n := 63) kd_72 (by omega) (g_at ck_X9_joinWays 35 rfl) rfl hR3 (by split <;> omega) (fun hR4 => ?_)
      refine tz_aload0 (n := 64) (g_at ck_X9_joinWays 36 rfl) rfl (g_ne kd_71) ?_
      refine tz_getAv (n := 67) (a := 73) fk_X9_15 kd_71 (ly_71_2 hL) (g_at ck_X9_joinWays 37 rfl) rfl ?_
      refine tz_iload4 (n := 69) (g_at ck_X9_joinWays 38 rfl) rfl ?_
      refine tz_aload0 (n := 70) (g_at ck_X9_joinWays 39 rfl) rfl (g_ne kd_71) ?_
      refine tz_getAv (n := 73) (a := 73) fk_X9_15 kd_71 (ly_71_2 hL) (g_at ck_X9_joinWays 40 rfl) rfl ?_
      refine tz_iload4 (n := 75) (g_at ck_X9_joinWays 41 rfl) rfl ?_
      refine tz_iald (n := 76) kd_73 (by omega) (g_at ck_X9_joinWays 42 rfl) rfl ?_
      rw [wr_ne (show (73 : Int) ≠ 72 by decide), hC2.c _ (by omega)]
      refine tz_aload0 (n := 77) (g_at ck_X9_joinWays 43 rfl) rfl (g_ne kd_71) ?_
      refine tz_iload2 (n := 78) (g_at ck_X9_joinWays 44 rfl) rfl ?_
      refine tz_iload1 (n := 79) (g_at ck_X9_joinWays 45 rfl) rfl ?_
      refine tz_cvI2 (n := 82) (μ' := μX9_costFrom) (cb' := 0) (sb' := 0) ml_X9_98 mo_X9_costFrom mv_X9_costFrom np_X9_costFrom kd_71 (g_at ck_X9_joinWays 46 rfl) (sp_costFrom (v := (jnZ b (i : Int) (jnA (Λ 0 0).toNat b ω i) j) 1 ((i : Int) * 9 + b)) hL hR4 (by omega) (by rw [wr_ne (show (73 : Int) ≠ 72 by decide)]; exact hC2.c _ (by omega))) rfl rfl rfl ⟨by decide, by decide⟩ (Nat.le_of_ble_eq_true rfl) (by decide) (by decide) (fun x79 ρ9 m79 hq => ?_)
      obtain ⟨rfl, hR5, rfl, rfl⟩ := hq
      refine tz_aload0 (n := 83) (g_at ck_X9_joinWays 47 rfl) rfl (g_ne kd_71) ?_
      refine tz_iload1 (n := 84) (g_at ck_X9_joinWays 48 rfl) rfl ?_
      refine tz_iload3 (n := 85) (g_at ck_X9_joinWays 49 rfl) rfl ?_
      refine tz_cvI2 (n := 88) (μ' := μX9_costFrom) (cb' := 0) (sb' := 0) ml_X9_98 mo_X9_costFrom mv_X9_costFrom np_X9_costFrom kd_71 (g_at ck_X9_joinWays 50 rfl) (sp_costFrom (v := (jnZ b (i : Int) (jnA (Λ 0 0).toNat b ω i) j) 1 (b * 9 + (j : Int))) hL hR5 (by omega) (by rw [wr_ne (show (73 : Int) ≠ 72 by decide)]; exact hC2.c _ (by omega))) rfl rfl rfl ⟨by decide, by decide⟩ (Nat.le_of_ble_eq_true rfl) (by decide) (by decide) (fun x85 ρ9 m85 hq => ?_)
      obtain ⟨rfl, hR6, rfl, rfl⟩ := hq
      refine tz_iadd (n := 89) (g_at ck_X9_joinWays 51 rfl) rfl ?_
      refine tz_mmin (n := 92) mm_X9_93 mmin_1 mm_i mmin_2 ⟨by omega, by omega, by omega, by omega⟩ (g_at ck_X9_joinWays 52 rfl) rfl (by decide) (Nat.le_of_ble_eq_true rfl) ?_
      refine tz_iastr (n := 93) kd_73 (by omega) (g_at ck_X9_joinWays 53 rfl) rfl hR6 (by split <;> omega) (fun hR7 => ?_)
      refine tz_iinc3 (n := 96) (g_at ck_X9_joinWays 54 rfl) rfl (by decide) g_hpI ?_
      refine tz_goto (tgt := 15) (g_at ck_X9_joinWays 55 rfl) rfl ?_
      refine tz_drop4 ?_
      exact ihj _ ⟨hR7, (hC2.s0).s1, (hF2.wr (by decide)).wr (by decide)⟩
theorem sp_survey {l : Launch} {γ : Gh} {ρ m : Mm} {ld : Int} {Λ : Mm} {hl tl : List Int} (hL : LY ρ) (hS : isS ρ ld) (hR : MR m) (hW : WL Λ) (hG : LandC m ld Λ hl tl) {s : Int → Int} (hN : MomC m 39 s) : gE l γ μX9_survey 3 0 0 (rV KK fun ρ9 m9 => wr ρ 71 0 ld = ρ9 ∧ MR m9 ∧ SvC m9 Λ s ∧ Fr wyL m m9) xN KK ρ m [vR 71, vR ld, vR 39] := by
  refine gE.ofw cl_X9.2 ?_ rfl rfl (Nat.le_of_ble_eq_true rfl)
  show gT l γ μX9_survey 3 0 0 _ _ KK ρ m 0 [some (vR 71), some (vR ld), some (vR 39), none, none] []
  have hn := hW.1
  have hn8 := hW.2.1
  have hld := hG.ld9
  refine tz_aload0 (n := 1) (g_at ck_X9_survey 0 rfl) rfl (g_ne kd_71) ?_
  refine tz_aload1 (n := 2) (g_at ck_X9_survey 1 rfl) rfl (g_ne hS.k0) ?_
  refine tz_putOw (n := 5) (kz := 0) fk_X9_36 kd_71 (g_at ck_X9_survey 2 rfl) rfl rfl ?_
  have hL := LY_wr (r := 71) (k := 0) (x := ld) hL (by decide)
  have hLw : wr ρ 71 0 ld 71 0 = ld := wr_same
  have hS : isS (wr ρ 71 0 ld) ld := isS_of hL hld
  refine tz_aload2 (n := 6) (g_at ck_X9_survey 3 rfl) rfl (g_ne (isM_39 hL).k0) ?_
  refine tz_getAv (n := 9) (a := 40) fk_X9_40 (isM_39 hL).k0 (isM_39 hL).r0_1 (g_at ck_X9_survey 4 rfl) rfl ?_
  refine tz_iconst (n := 10) (g_at ck_X9_survey 5 rfl) rfl ?_
  refine tz_aload0 (n := 11) (g_at ck_X9_survey 6 rfl) rfl (g_ne kd_71) ?_
  refine tz_getAv (n := 14) (a := 77) fk_X9_27 kd_71 (ly_71_6 hL) (g_at ck_X9_survey 7 rfl) rfl ?_
  refine tz_iconst (n := 15) (g_at ck_X9_survey 8 rfl) rfl ?_
  refine tz_bipush (n := 17) (g_at ck_X9_survey 9 rfl) rfl rfl ?_
  refine tz_acopyr (n := 20) cp_X9_43 (isM_39 hL).k1 kd_77 (by omega) (g_at ck_X9_survey 10 rfl) rfl (by decide) (Nat.le_of_ble_eq_true rfl) hR (fun hR1 => ?_)
  refine tz_aload0 (n := 21) (g_at ck_X9_survey 11 rfl) rfl (g_ne kd_71) ?_
  refine tz_aload2 (n := 22) (g_at ck_X9_survey 12 rfl) rfl (g_ne (isM_39 hL).k0) ?_
  have hF17 : Fr wyL m (cpy m 40 0 77 0 8) := fun a ha => cpy_ne (fun e => ha (by rw [e]; decide))
  have h77 : ∀ p, 0 ≤ p → p < 8 → (cpy m 40 0 77 0 8) 77 p = s (1 + p) := fun p h1 h2 => by show (if (77 : Int) = 77 ∧ 0 ≤ p ∧ p < 0 + 8 then m 40 (0 + (p - 0)) else m 77 p) = _; rw [if_pos ⟨rfl, h1, by omega⟩, show 0 + (p - 0) = p by omega]; exact nowW hN p ⟨h1, h2⟩
  refine tz_cvV1 (n := 25) (μ' := μX9_layRoads) (cb' := 0) (sb' := 0) ml_X9_49 mo_X9_layRoads mv_X9_layRoads np_X9_layRoads kd_71 (g_at ck_X9_survey 13 rfl) (sp_layRoads hL hLw hS hR1 hW (hG.q (qM_wy hF17)) (hN.q hld (qM_wy hF17))) rfl rfl rfl ⟨by decide, by decide⟩ (Nat.le_of_ble_eq_true rfl) (by decide) (by decide) (fun ρ9 m22 hq => ?_)
  obtain ⟨rfl, hR2, hC22, hF22⟩ := hq
  have hF22t := hF17.tr (wy4_L hF22)
  have h77 : ∀ p, 0 ≤ p → p < 8 → m22 77 p = s (1 + p) := fun p h1 h2 => by rw [hF22 77 (by decide)]; exact h77 p h1 h2
  refine tz_iconst (n := 26) (g_at ck_X9_survey 14 rfl) rfl ?_
  refine tz_istore3 (n := 27) (g_at ck_X9_survey 15 rfl) rfl (by decide) g_hpR ?_
  refine g_for (fun i : Nat => ∀ m1 : Mm, (MR m1 ∧ WyC m1 (jnN (Λ 0 0).toNat (lrN Λ s (Λ 0 0).toNat) i) ∧ Fr wyL m m1 ∧ ∀ p, 0 ≤ p → p < 8 → m1 77 p = s (1 + p)) → gT l γ μX9_survey 3 0 0 _ _ KK (wr ρ 71 0 ld) m1 27 [some (vR 71), some (vR ld), some (vR 39), some (vI (i : Int)), none] []) (Λ 0 0).toNat ?_ (fun i hi ihi => ?_) 0 (Nat.zero_le _) _ ⟨hR2, hC22, hF22t, h77⟩
  · intro m1 hinv
    obtain ⟨hR1, hC1, hF1, h771⟩ := hinv
    have hG1 := hG.q (qM_wy hF1)
    refine tz_iload3 (n := 28) (g_at ck_X9_survey 16 rfl) rfl ?_
    refine tz_aload0 (n := 29) (g_at ck_X9_survey 17 rfl) rfl (g_ne kd_71) ?_
    refine tz_getOv (n := 32) (a := ld) fk_X9_36 kd_71 hLw (g_at ck_X9_survey 18 rfl) rfl ?_
    refine tz_getIw (n := 35) (kz := 0) fk_X9_53 hS.k0 (g_at ck_X9_survey 19 rfl) rfl rfl ?_
    rw [hG1.n0]
    refine tz_icmp_ge (n := 38) (tgt := 49) (g_at ck_X9_survey 20 rfl) rfl rfl ⟨by omega, by omega, by omega, by omega⟩ (fun h35 => ?_) (fun h35 => absurd h35 (by omega))
    refine tz_iconst (n := 50) (g_at ck_X9_survey 26 rfl) rfl ?_
    refine tz_istore3 (n := 51) (g_at ck_X9_survey 27 rfl) rfl (by decide) g_hpR ?_
    refine g_for (fun i : Nat => ∀ m2 : Mm, (MR m2 ∧ WyC m2 (wyW Λ s) ∧ Fr wyL m m2 ∧ (∀ p, 0 ≤ p → p < 8 → m2 77 p = s (1 + p)) ∧ ∀ a, 0 ≤ a → a < (i : Int) → m2 75 a = rcP Λ s a) → gT l γ μX9_survey 3 0 0 _ _ KK (wr ρ 71 0 ld) m2 51 [some (vR 71), some (vR ld), some (vR 39), some (vI (i : Int)), none] []) (Λ 0 0).toNat ?_ (fun i hi ihi => ?_) 0 (Nat.zero_le _) _ ⟨hR1, hC1, hF1, h771, fun a h1 h2 => absurd h2 (by omega)⟩
    · intro m2 hinv
      obtain ⟨hR2, hC2, hF2, h772, h752⟩ := hinv
      have hG2 := hG.q (qM_wy hF2)
      refine tz_iload3 (n := 52) (g_at ck_X9_survey 28 rfl) rfl ?_
      refine tz_aload0 (n := 53) (g_at ck_X9_survey 29 rfl) rfl (g_ne kd_71) ?_
      refine tz_getOv (n := 56) (a := ld) fk_X9_36 kd_71 hLw (g_at ck_X9_survey 30 rfl) rfl ?_
      refine tz_getIw (n := 59) (kz := 0) fk_X9_53 hS.k0 (g_at ck_X9_survey 31 rfl) rfl rfl ?_
      rw [hG2.n0]
      refine tz_icmp_ge (n := 62) (tgt := 122) (g_at ck_X9_survey 32 rfl) rfl rfl ⟨by omega, by omega, by omega, by omega⟩ (fun h59 => ?_) (fun h59 => absurd h59 (by omega))
      exact tz_vret (g_at ck_X9_survey 65 rfl) rfl (rV_mk ⟨rfl, hR2, ⟨hC2, fun a h1 h2 => h752 a h1 (by omega), h772⟩, hF2⟩)
    · intro m2 hinv
      obtain ⟨hR2, hC2, hF2, h772, h752⟩ := hinv
      have hG2 := hG.q (qM_wy hF2)
      refine tz_iload3 (n := 52) (g_at ck_X9_survey 28 rfl) rfl ?_
      refine tz_aload0 (n := 53) (g_at ck_X9_survey 29 rfl) rfl (g_ne kd_71) ?_
      refine tz_getOv (n := 56) (a := ld) fk_X9_36 kd_71 hLw (g_at ck_X9_survey 30 rfl) rfl ?_
      refine tz_getIw (n := 59) (kz := 0) fk_X9_53 hS.k0 (g_at ck_X9_survey 31 rfl) rfl rfl ?_
      rw [hG2.n0]
      refine tz_icmp_ge (n := 62) (tgt := 122) (g_at ck_X9_survey 32 rfl) rfl rfl ⟨by omega, by omega, by omega, by omega⟩ (fun h59 => absurd h59 (by omega)) (fun h59 => ?_)
      refine tz_aload0 (n := 63) (g_at ck_X9_survey 33 rfl) rfl (g_ne kd_71) ?_
      refine tz_getAv (n := 66) (a := 75) fk_X9_21 kd_71 (ly_71_4 hL) (g_at ck_X9_survey 34 rfl) rfl ?_
      refine tz_iload3 (n := 67) (g_at ck_X9_survey 35 rfl) rfl ?_
      refine tz_iconst (n := 68) (g_at ck_X9_survey 36 rfl) rfl ?_
      refine tz_iastr (n := 69) kd_75 (by omega) (g_at ck_X9_survey 37 rfl) rfl hR2 ⟨(by decide), (by decide)⟩ (fun hR3 => ?_)
      refine tz_iconst (n := 70) (g_at ck_X9_survey 38 rfl) rfl ?_
      refine tz_istore4 (n := 72) (g_at ck_X9_survey 39 rfl) rfl (by decide) g_hpI ?_
      refine g_for (fun j : Nat => ∀ m3 : Mm, (MR m3 ∧ WyC m3 (wyW Λ s) ∧ Fr wyL m m3 ∧ (∀ p, 0 ≤ p → p < 8 → m3 77 p = s (1 + p)) ∧ (∀ a, 0 ≤ a → a < (i : Int) → m3 75 a = rcP Λ s a) ∧ m3 75 (i : Int) = (bmI (fun z : Nat => wyW Λ s 0 ((i : Int) * 9 + (z : Int)) < 10000) j)) → gT l γ μX9_survey 3 0 0 _ _ KK (wr ρ 71 0 ld) m3 72 [some (vR 71), some (vR ld), some (vR 39), some (vI (i : Int)), some (vI (j : Int))] []) (Λ 0 0).toNat ?_ (fun j hj ihj => ?_) 0 (Nat.zero_le _) _ ⟨hR3, hC2.sam (fun a ha => wr_ne (by omega)), hF2.wr (by decide), fun p h1 h2 => by rw [wr_ne (by decide)]; exact h772 p h1 h2, fun a h1 h2 => by rw [wr_at, if_neg (by omega)]; exact h752 a h1 h2, wr_same⟩
      · intro m3 hinv
        obtain ⟨hR3, hC3, hF3, h773, h753, hr3⟩ := hinv
        have hG3 := hG.q (qM_wy hF3)
        refine tz_iload4 (n := 74) (g_at ck_X9_survey 40 rfl) rfl ?_
        refine tz_aload0 (n := 75) (g_at ck_X9_survey 41 rfl) rfl (g_ne kd_71) ?_
        refine tz_getOv (n := 78) (a := ld) fk_X9_36 kd_71 hLw (g_at ck_X9_survey 42 rfl) rfl ?_
        refine tz_getIw (n := 81) (kz := 0) fk_X9_53 hS.k0 (g_at ck_X9_survey 43 rfl) rfl rfl ?_
        rw [hG3.n0]
        refine tz_icmp_ge (n := 84) (tgt := 116) (g_at ck_X9_survey 44 rfl) rfl rfl ⟨by omega, by omega, by omega, by omega⟩ (fun h81 => ?_) (fun h81 => absurd h81 (by omega))
        refine tz_iinc3 (n := 119) (g_at ck_X9_survey 63 rfl) rfl (by decide) g_hpR ?_
        refine tz_goto (tgt := 51) (g_at ck_X9_survey 64 rfl) rfl ?_
        refine tz_drop4 ?_
        exact ihi _ ⟨hR3, hC3, hF3, h773, fun a h1 h2 => by
          by_cases e9 : a = (i : Int)
          · rw [e9]; exact hr3
          · exact h753 a h1 (by omega)⟩
      · intro m3 hinv
        obtain ⟨hR3, hC3, hF3, h773, h753, hr3⟩ := hinv
        have hG3 := hG.q (qM_wy hF3)
        have hx9 := (wyW_B hW s).1 ((i : Int) * 9 + (j : Int))
        refine tz_iload4 (n := 74) (g_at ck_X9_survey 40 rfl) rfl ?_
        refine tz_aload0 (n := 75) (g_at ck_X9_survey 41 rfl) rfl (g_ne kd_71) ?_
        refine tz_getOv (n := 78) (a := ld) fk_X9_36 kd_71 hLw (g_at ck_X9_survey 42 rfl) rfl ?_
        refine tz_getIw (n := 81) (kz := 0) fk_X9_53 hS.k0 (g_at ck_X9_survey 43 rfl) rfl rfl ?_
        rw [hG3.n0]
        refine tz_icmp_ge (n := 84) (tgt := 116) (g_at ck_X9_survey 44 rfl) rfl rfl ⟨by omega, by omega, by omega, by omega⟩ (fun h81 => absurd h81 (by omega)) (fun h81 => ?_)
        refine tz_aload0 (n := 85) (g_at ck_X9_survey 45 rfl) rfl (g_ne kd_71) ?_
        refine tz_iload3 (n := 86) (g_at ck_X9_survey 46 rfl) rfl ?_
        refine tz_iload4 (n := 88) (g_at ck_X9_survey 47 rfl) rfl ?_
        refine tz_cvI2 (n := 91) (μ' := μX9_farFrom) (cb' := 0) (sb' := 0) ml_X9_63 mo_X9_farFrom mv_X9_farFrom np_X9_farFrom kd_71 (g_at ck_X9_survey 48 rfl) (sp_farFrom hL hR3 (by omega) (hC3.f _ (by omega))) rfl rfl rfl ⟨by decide, by decide⟩ (Nat.le_of_ble_eq_true rfl) (by decide) (by decide) (fun x88 ρ9 m88 hq => ?_)
        obtain ⟨rfl, hR4, rfl, rfl⟩ := hq
        refine tz_sipush (n := 94) (g_at ck_X9_survey 49 rfl) rfl rfl ?_
        refine tz_icmp_ge (n := 97) (tgt := 110) (g_at ck_X9_survey 50 rfl) rfl rfl ⟨by omega, by omega, by decide, by decide⟩ (fun h94 => ?_) (fun h94 => ?_)
        · skip
          refine tz_iinc4 (n := 113) (g_at ck_X9_survey 61 rfl) rfl (by decide) g_hpI ?_
          refine tz_goto (tgt := 72) (g_at ck_X9_survey 62 rfl) rfl ?_
          have e9 : bmI (fun z : Nat => wyW Λ s 0 ((i : Int) * 9 + (z : Int)) < 10000) (j + 1) = (bmI (fun z : Nat => wyW Λ s 0 ((i : Int) * 9 + (z : Int)) < 10000) j) := if_neg (by omega)
          exact ihj _ ⟨hR4, hC3, hF3, h773, h753, by rw [e9]; exact hr3⟩
        · skip
          refine tz_aload0 (n := 98) (g_at ck_X9_survey 51 rfl) rfl (g_ne kd_71) ?_
          refine tz_getAv (n := 101) (a := 75) fk_X9_21 kd_71 (ly_71_4 hL) (g_at ck_X9_survey 52 rfl) rfl ?_
          refine tz_iload3 (n := 102) (g_at ck_X9_survey 53 rfl) rfl ?_
          refine tz_dup2 (n := 103) (g_at ck_X9_survey 54 rfl) rfl ?_
          refine tz_iald (n := 104) kd_75 (by omega) (g_at ck_X9_survey 55 rfl) rfl ?_
          rw [hr3]
          refine tz_iconst (n := 105) (g_at ck_X9_survey 56 rfl) rfl ?_
          refine tz_iload4 (n := 107) (g_at ck_X9_survey 57 rfl) rfl ?_
          refine tz_ishl (n := 108) (g_at ck_X9_survey 58 rfl) rfl ?_
          refine tz_ior (n := 109) (g_at ck_X9_survey 59 rfl) rfl ?_
          refine tz_iastr (n := 110) kd_75 (by omega) (g_at ck_X9_survey 60 rfl) rfl hR4 ⟨(bOr_rg _ _).1, (bOr_rg _ _).2⟩ (fun hR5 => ?_)
          refine tz_iinc4 (n := 113) (g_at ck_X9_survey 61 rfl) rfl (by decide) g_hpI ?_
          refine tz_goto (tgt := 72) (g_at ck_X9_survey 62 rfl) rfl ?_
          have e9 : bmI (fun z : Nat => wyW Λ s 0 ((i : Int) * 9 + (z : Int)) < 10000) (j + 1) = bOr (bmI (fun z : Nat => wyW Λ s 0 ((i : Int) * 9 + (z : Int)) < 10000) j) (bShl 1 (j : Int)) := if_pos (by omega)
          exact ihj _ ⟨hR5, hC3.sam (fun a ha => wr_ne (by omega)), hF3.wr (by decide), fun p h1 h2 => by rw [wr_ne (by decide)]; exact h773 p h1 h2, fun a h1 h2 => by rw [wr_at, if_neg (by omega)]; exact h753 a h1 h2, by rw [wr_same, e9]⟩
  · intro m1 hinv
    obtain ⟨hR1, hC1, hF1, h771⟩ := hinv
    have hG1 := hG.q (qM_wy hF1)
    have hBi := jnN_B (N := (Λ 0 0).toNat) (lrN_B (s := s) hW (Λ 0 0).toNat (by omega)) i
    refine tz_iload3 (n := 28) (g_at ck_X9_survey 16 rfl) rfl ?_
    refine tz_aload0 (n := 29) (g_at ck_X9_survey 17 rfl) rfl (g_ne kd_71) ?_
    refine tz_getOv (n := 32) (a := ld) fk_X9_36 kd_71 hLw (g_at ck_X9_survey 18 rfl) rfl ?_
    refine tz_getIw (n := 35) (kz := 0) fk_X9_53 hS.k0 (g_at ck_X9_survey 19 rfl) rfl rfl ?_
    rw [hG1.n0]
    refine tz_icmp_ge (n := 38) (tgt := 49) (g_at ck_X9_survey 20 rfl) rfl rfl ⟨by omega, by omega, by omega, by omega⟩ (fun h35 => absurd h35 (by omega)) (fun h35 => ?_)
    refine tz_aload0 (n := 39) (g_at ck_X9_survey 21 rfl) rfl (g_ne kd_71) ?_
    refine tz_iload3 (n := 40) (g_at ck_X9_survey 22 rfl) rfl ?_
    refine tz_cvV1 (n := 43) (μ' := μX9_joinWays) (cb' := 0) (sb' := 0) ml_X9_59 mo_X9_joinWays mv_X9_joinWays np_X9_joinWays kd_71 (g_at ck_X9_survey 23 rfl) (sp_joinWays hL hLw hS hR1 hW hG1 hC1 hBi (by omega)) rfl rfl rfl ⟨by decide, by decide⟩ (Nat.le_of_ble_eq_true rfl) (by decide) (by decide) (fun ρ9 m40 hq => ?_)
    obtain ⟨rfl, hR6, hC40, hF40⟩ := hq
    refine tz_iinc3 (n := 46) (g_at ck_X9_survey 24 rfl) rfl (by decide) g_hpR ?_
    refine tz_goto (tgt := 27) (g_at ck_X9_survey 25 rfl) rfl ?_
    exact ihi _ ⟨hR6, hC40, hF1.tr (wy4_L hF40), fun p h1 h2 => by rw [hF40 77 (by decide)]; exact h771 p h1 h2⟩
