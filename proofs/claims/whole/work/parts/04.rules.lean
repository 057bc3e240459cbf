/-! The rows of the logic: entry, ends, instructions without the heap. -/
section
variable {l : Launch} {γ : Gh} {μ : MD} {d cb sb : Nat} {R : RR} {X : XX} {K : List Kd} {ρ m : Mm} {pc n : Nat} {ls : List (Option VV)} {st : List VV}
theorem g_at {cc : ByteArray} {tb : List (Nat × Instr × Nat)} (h : (tb.all fun q => decide (decode cc q.1 = .ok q.2)) = true) (i : Nat) {pc : Nat} {ins : Instr} {len : Nat} (hx : tb[i]? = some (pc, ins, len)) : decode cc pc = .ok (ins, len) := by
  have := List.all_eq_true.mp h _ (List.mem_of_getElem? hx)
  simpa using this
theorem g_ls_mem {ad : Nat → Nat} {q : Nat × Value} : q ∈ g_ls γ ad ls ↔ ∃ v, ls[q.1]? = some (some v) ∧ q.2 = tv γ ad v := by
  unfold g_ls
  constructor
  · intro h
    obtain ⟨⟨o, i⟩, hi, h2⟩ := List.mem_filterMap.mp h
    obtain ⟨v, h3, h4⟩ := Option.map_eq_some_iff.mp h2
    cases h4
    exact ⟨v, by rw [← h3]; exact List.mk_mem_zipIdx_iff_getElem?.mp hi, rfl⟩
  · rintro ⟨v, hv, h2⟩
    exact List.mem_filterMap.mpr ⟨(some v, q.1), List.mk_mem_zipIdx_iff_getElem?.mpr hv, by show some (q.1, tv γ ad v) = some q; rw [← h2]⟩
theorem g_ls_at {ad : Nat → Nat} {lsr : Array Slot} {nL i : Nat} {v : VV} (h : lv_has lsr nL (g_ls γ ad ls)) (hi : ls[i]? = some (some v)) : lsr[i]? = some (.val (tv γ ad v)) :=
  h.2.2 (i, tv γ ad v) (g_ls_mem.mpr ⟨v, hi, rfl⟩)
theorem g_ls_sub {ad : Nat → Nat} {lsr : Array Slot} {nL : Nat} {l1 : List (Nat × Value)} (h : lv_has lsr nL l1) (hs : ∀ q ∈ g_ls γ ad ls, q ∈ l1) : lv_has lsr nL (g_ls γ ad ls) := ⟨h.1, h.2.1, fun q hq => h.2.2 q (hs q hq)⟩
theorem tv_cat {ad : Nat → Nat} {v : VV} (h : v.1 ≠ 1) : (tv γ ad v).category = 1 := by
  obtain ⟨t, x⟩ := v
  match t with
  | 0 => rfl
  | 1 => exact absurd rfl h
  | t + 2 => exact rv_cat γ ad x
/-- a store into variable i: no long lies at i - 1 -/
theorem g_ls_set {ad : Nat → Nat} {i : Nat} {v : VV} (hp : ∀ u, 0 < i → ls[i - 1]? = some (some u) → u.1 ≠ 1) : ∀ q ∈ g_ls γ ad (ls.set i (some v)), q ∈ (i, tv γ ad v) :: (g_ls γ ad ls).filter (fun q => !(q.1 == i) && !(q.1 + 1 == i && q.2.category == 2)) := by
  intro q hq
  obtain ⟨u, hu, h2⟩ := g_ls_mem.mp hq
  by_cases hi : q.1 = i
  · have hlt : i < ls.length := by
      have := (List.getElem?_eq_some_iff.mp hu).1
      simp at this; omega
    rw [hi, List.getElem?_set_self hlt] at hu
    cases hu
    exact List.mem_cons.mpr (Or.inl (by rw [← h2, ← hi]))
  · rw [List.getElem?_set_ne (fun h => hi h.symm)] at hu
    refine List.mem_cons_of_mem _ (List.mem_filter.mpr ⟨g_ls_mem.mpr ⟨u, hu, h2⟩, ?_⟩)
    simp only [Bool.and_eq_true, Bool.not_eq_true', beq_eq_false_iff_ne, ne_eq, hi, not_false_eq_true, true_and, Bool.and_eq_false_imp, beq_iff_eq]
    intro h3
    have := hp u (by omega) (by rw [← h3]; simpa using hu)
    rw [h2, tv_cat this]
    decide
def g_ent (args : List VV) (nL : Nat) : List (Option VV) := args.map some ++ List.replicate (nL - args.length) none
theorem g_lv_args {ad : Nat → Nat} : ∀ (args : List VV) (i : Nat), (∀ v ∈ args, v.1 ≠ 1) → ∀ (j : Nat) (v : VV), args[j]? = some v → (i + j, tv γ ad v) ∈ lv_args i (args.map (tv γ ad))
  | [], _, _, j, v, h => by simp at h
  | a :: r, i, ha, 0, v, h => by
    simp at h; subst h
    exact List.mem_cons_self
  | a :: r, i, ha, j + 1, v, h => by
    refine List.mem_cons_of_mem _ ?_
    rw [tv_cat (ha a List.mem_cons_self), if_neg (by decide)]
    have := g_lv_args (ad := ad) r (i + 1) (fun v hv => ha v (List.mem_cons_of_mem _ hv)) j v (by simpa using h)
    rwa [show i + 1 + j = i + (j + 1) by omega] at this
theorem g_sl_len {ad : Nat → Nat} : ∀ (args : List VV), (∀ v ∈ args, v.1 ≠ 1) → (lg_sl (args.map (tv γ ad))).length = args.length
  | [], _ => rfl
  | a :: r, h => by
    have ih := g_sl_len (ad := ad) r (fun v hv => h v (List.mem_cons_of_mem _ hv))
    have h1 := tv_cat (γ := γ) (ad := ad) (h a List.mem_cons_self)
    simp only [lg_sl] at ih ⊢
    simp [List.map_cons, List.flatMap_cons, h1, ih]
/-- a method without handlers, from its first instruction -/
theorem gE.of {mc ms : Nat} {args : List VV} (hh : μ.2.2.2.2 = []) (hp : plainName μ.1.cls = true) (ha : ∀ v ∈ args, v.1 ≠ 1) (hn : args.length ≤ μ.2.2.1) (k : gT l γ μ d mc ms R X K ρ m 0 (g_ent args μ.2.2.1) []) : gE l γ μ d mc ms R X K ρ m args := by
  intro hst ad sz
  refine vx_ofW (cc := μ.2.1) (maxL := μ.2.2.1) (ret := μ.2.2.2.1) (ws' := g_TS) hp (by unfold g_w0; rw [hh]) ?_
  intro p e s mth args' below meth c s₁ B hml htab hPc
  obtain ⟨rfl, hsz, hP, hD, hF⟩ := hPc
  subst hsz
  have hl := lv_entry (args.map (tv γ ad)) (n := μ.2.2.1) (by rw [g_sl_len args ha]; exact hn)
  rw [lg_entry_eq]
  generalize (lg_sl (args.map (tv γ ad)) ++ List.replicate (μ.2.2.1 - (lg_sl (args.map (tv γ ad))).length) Slot.unset).toArray = lsr at hl ⊢
  have hl2 : lv_has lsr μ.2.2.1 (g_ls γ ad (g_ent args μ.2.2.1)) := g_ls_sub hl fun q hq => by
    obtain ⟨v, hv, h2⟩ := g_ls_mem.mp hq
    have hj : args[q.1]? = some v := by
      unfold g_ent at hv
      rw [List.getElem?_append] at hv
      split at hv
      · simpa using hv
      · simp [List.getElem?_replicate] at hv
    have := g_lv_args (γ := γ) (ad := ad) args 0 ha q.1 v hj
    rw [Nat.zero_add] at this
    rw [show q = (q.1, tv γ ad v) from by rw [← h2]]
    exact this
  refine k p e s mth _ below meth c (g_A ad K s.heap.size) K ad mc ms s.heap [] 0 0 ad lsr ?_ g_Ex.rf hP hD va_S.rf (by omega) (by omega) hl2
  refine ⟨B.exec, B.bytes, B.returns, hml, B.notSynchronized, findClass_of_methodNamed B.named, (name_of_methodNamed B.named B.method).1, ?_, fun w hw => atoms_spec (ws := g_w0 μ :: g_TS) B.pre w (List.mem_cons_of_mem _ hw), fun q h => Or.inr h, hF, hst⟩
  rw [hh]
  exact List.eq_nil_iff_forall_not_mem.mpr fun x hx => htab x hx
/-- a method with handlers -/
theorem gE.ofH {mc ms : Nat} {args : List VV} {h0 : Nat × Nat × Nat × Nat} {h1 : List (Nat × Nat × Nat × Nat)} (hh : μ.2.2.2.2 = h0 :: h1) (hp : plainName μ.1.cls = true) (ha : ∀ v ∈ args, v.1 ≠ 1) (hn : args.length ≤ μ.2.2.1) (k : gT l γ μ d mc ms R X K ρ m 0 (g_ent args μ.2.2.1) []) : gE l γ μ d mc ms R X K ρ m args := by
  intro hst ad sz
  have hw0 : g_w0 μ = .codeWith μ.1 μ.2.1 μ.2.2.1 μ.2.2.2.1 μ.2.2.2.2 := by unfold g_w0; rw [hh]
  refine vx_ofWH (cc := μ.2.1) (maxL := μ.2.2.1) (ret := μ.2.2.2.1) (hh := μ.2.2.2.2) (ws' := g_TS) hp (by rw [hw0]) ?_
  intro p e s mth args' below meth c s₁ B hml hPc
  obtain ⟨rfl, hsz, hP, hD, hF⟩ := hPc
  subst hsz
  have hl := lv_entry (args.map (tv γ ad)) (n := μ.2.2.1) (by rw [g_sl_len args ha]; exact hn)
  rw [lg_entry_eq]
  generalize (lg_sl (args.map (tv γ ad)) ++ List.replicate (μ.2.2.1 - (lg_sl (args.map (tv γ ad))).length) Slot.unset).toArray = lsr at hl ⊢
  have hl2 : lv_has lsr μ.2.2.1 (g_ls γ ad (g_ent args μ.2.2.1)) := g_ls_sub hl fun q hq => by
    obtain ⟨v, hv, h2⟩ := g_ls_mem.mp hq
    have hj : args[q.1]? = some v := by
      unfold g_ent at hv
      rw [List.getElem?_append] at hv
      split at hv
      · simpa using hv
      · simp [List.getElem?_replicate] at hv
    have := g_lv_args (γ := γ) (ad := ad) args 0 ha q.1 v hj
    rw [Nat.zero_add] at this
    rw [show q = (q.1, tv γ ad v) from by rw [← h2]]
    exact this
  refine k p e s mth _ below meth c (g_A ad K s.heap.size) K ad mc ms s.heap [] 0 0 ad lsr ?_ g_Ex.rf hP hD va_S.rf (by omega) (by omega) hl2
  have hc0 : (Cond.codeWith μ.1 μ.2.1 μ.2.2.1 μ.2.2.2.1 μ.2.2.2.2).before (args.map (tv γ ad)).toArray s = true := atoms_spec (ws := g_w0 μ :: g_TS) B.pre _ (by rw [hw0]; exact List.mem_cons_self)
  exact ⟨B.exec, B.bytes, B.returns, hml, B.notSynchronized, findClass_of_methodNamed B.named, (name_of_methodNamed B.named B.method).1, vx_table (x := μ.1) B hc0, fun w hw => atoms_spec (ws := g_w0 μ :: g_TS) B.pre w (List.mem_cons_of_mem _ hw), fun q h => Or.inr h, hF, hst⟩

theorem tz_iret {x : Int} (hd : decode μ.2.1 pc = .ok (.ireturn, 1)) (ht : μ.2.2.2.1 = some .int) (h : R (some (vI x)) K ρ m) : gT l γ μ d cb sb R X K ρ m pc ls [vI x] := by
  intro p e s mth args below meth c A K0 ad0 mc ms H locs cells slots ad lsr C E P D S hc hs hl
  refine vx_ret (W.widen (k := mc) (n := ms) (by omega) (by omega) (W.iret C.1 C.2.1 (C.2.2.1.trans ht) (fun t ht9 _ => ⟨⟨some (vI x), K, ρ, m, ad, rfl, h, E, by rw [ht9]; exact P, D⟩, S.F ht9⟩) S.2.2 hd C.2.2.2.2.1))
theorem tz_zret {x : Int} {ty : FieldType} (hd : decode μ.2.1 pc = .ok (.ireturn, 1)) (ht : μ.2.2.2.1 = some ty) (hy : narrow ty (.int (Int32.ofInt x)) = .int (Int32.ofInt x)) (h : R (some (vI x)) K ρ m) : gT l γ μ d cb sb R X K ρ m pc ls [vI x] := by
  intro p e s mth args below meth c A K0 ad0 mc ms H locs cells slots ad lsr C E P D S hc hs hl
  refine vx_ret (W.widen (k := mc) (n := ms) (by omega) (by omega) (W.zret C.1 C.2.1 (C.2.2.1.trans ht) hy (fun t ht9 _ => ⟨⟨some (vI x), K, ρ, m, ad, rfl, h, E, by rw [ht9]; exact P, D⟩, S.F ht9⟩) S.2.2 hd C.2.2.2.2.1))
theorem g_nz {x : Int} (h : x = 0 ∨ x = 1) : narrow .boolean (.int (Int32.ofInt x)) = .int (Int32.ofInt x) := by
  rcases h with rfl | rfl <;> decide +kernel
theorem tz_bret {x : Int} (hd : decode μ.2.1 pc = .ok (.ireturn, 1)) (ht : μ.2.2.2.1 = some .boolean) (hy : x = 0 ∨ x = 1) (h : R (some (vI x)) K ρ m) : gT l γ μ d cb sb R X K ρ m pc ls [vI x] := tz_zret hd ht (g_nz hy) h
theorem tz_lret {x : Int} (hd : decode μ.2.1 pc = .ok (.lreturn, 1)) (ht : μ.2.2.2.1 = some .long) (h : R (some (vL x)) K ρ m) : gT l γ μ d cb sb R X K ρ m pc ls [vL x] := by
  intro p e s mth args below meth c A K0 ad0 mc ms H locs cells slots ad lsr C E P D S hc hs hl
  refine vx_ret (W.widen (k := mc) (n := ms) (by omega) (by omega) (W.lret C.1 C.2.1 (C.2.2.1.trans ht) (fun t ht9 _ => ⟨⟨some (vL x), K, ρ, m, ad, rfl, h, E, by rw [ht9]; exact P, D⟩, S.F ht9⟩) S.2.2 hd C.2.2.2.2.1))
theorem tz_vret (hd : decode μ.2.1 pc = .ok (.return_, 1)) (ht : μ.2.2.2.1 = none) (h : R none K ρ m) : gT l γ μ d cb sb R X K ρ m pc ls [] := by
  intro p e s mth args below meth c A K0 ad0 mc ms H locs cells slots ad lsr C E P D S hc hs hl
  refine vx_ret (W.widen (k := mc) (n := ms) (by omega) (by omega) (W.vret C.1 C.2.1 (C.2.2.1.trans ht) (fun t ht9 _ => ⟨⟨none, K, ρ, m, ad, rfl, h, E, by rw [ht9]; exact P, D⟩, S.F ht9⟩) S.2.2 hd C.2.2.2.2.1))
theorem tz_aret {x : Int} {ty : String} (hd : decode μ.2.1 pc = .ok (.areturn, 1)) (ht : μ.2.2.2.1 = some (.object ty)) (h : R (some (vR x)) K ρ m) : gT l γ μ d cb sb R X K ρ m pc ls [vR x] := by
  intro p e s mth args below meth c A K0 ad0 mc ms H locs cells slots ad lsr C E P D S hc hs hl
  refine vx_ret (W.widen (k := mc) (n := ms) (by omega) (by omega) (W.aret C.1 C.2.1 (C.2.2.1.trans ht) (Or.inl ⟨ty, rfl⟩) (v := rv γ ad x) ?_ (fun t ht9 _ => ⟨⟨some (vR x), K, ρ, m, ad, rfl, h, E, by rw [ht9]; exact P, D⟩, S.F ht9⟩) S.2.2 hd C.2.2.2.2.1))
  unfold rv
  split
  · exact Or.inl rfl
  · split <;> exact Or.inr ⟨_, rfl⟩

theorem tz_iconst {i : Int} (hd : decode μ.2.1 pc = .ok (.iconst i, 1)) (hn : pc + 1 = n) (k : gT l γ μ d cb sb R X K ρ m n ls (vI i :: st)) : gT l γ μ d cb sb R X K ρ m pc ls (st) := by
  subst hn
  intro p e s mth args below meth c A K0 ad0 mc ms H locs cells slots ad lsr C E P D S hc hs hl
  exact lv_iconst C.1 C.2.1 hd rfl (k p e s mth args below meth c A K0 ad0 mc ms H locs cells slots ad lsr C E P D S hc hs hl)

theorem tz_bipush {i : Int} (hd : decode μ.2.1 pc = .ok (.bipush i, 2)) (hv : (Int8.ofInt i).toInt32 = Int32.ofInt i) (hn : pc + 2 = n) (k : gT l γ μ d cb sb R X K ρ m n ls (vI i :: st)) : gT l γ μ d cb sb R X K ρ m pc ls (st) := by
  subst hn
  intro p e s mth args below meth c A K0 ad0 mc ms H locs cells slots ad lsr C E P D S hc hs hl
  exact lv_bipush C.1 C.2.1 hd hv (k p e s mth args below meth c A K0 ad0 mc ms H locs cells slots ad lsr C E P D S hc hs hl)

theorem tz_sipush {i : Int} (hd : decode μ.2.1 pc = .ok (.sipush i, 3)) (hv : (Int16.ofInt i).toInt32 = Int32.ofInt i) (hn : pc + 3 = n) (k : gT l γ μ d cb sb R X K ρ m n ls (vI i :: st)) : gT l γ μ d cb sb R X K ρ m pc ls (st) := by
  subst hn
  intro p e s mth args below meth c A K0 ad0 mc ms H locs cells slots ad lsr C E P D S hc hs hl
  exact lv_sipush C.1 C.2.1 hd hv (k p e s mth args below meth c A K0 ad0 mc ms H locs cells slots ad lsr C E P D S hc hs hl)

theorem tz_lconst {i : Fin 2} (hd : decode μ.2.1 pc = .ok (.lconst i, 1)) (hn : pc + 1 = n) (k : gT l γ μ d cb sb R X K ρ m n ls (vL (i.val : Int) :: st)) : gT l γ μ d cb sb R X K ρ m pc ls (st) := by
  subst hn
  intro p e s mth args below meth c A K0 ad0 mc ms H locs cells slots ad lsr C E P D S hc hs hl
  exact lv_lconst C.1 C.2.1 hd (by cases i using Fin.cases <;> simp) (k p e s mth args below meth c A K0 ad0 mc ms H locs cells slots ad lsr C E P D S hc hs hl)

def w32 (x : Int) : Int := (Int32.ofInt x).toInt
def bAnd (x y : Int) : Int := (Int32.ofInt x &&& Int32.ofInt y).toInt
def bOr (x y : Int) : Int := (Int32.ofInt x ||| Int32.ofInt y).toInt
def bXor (x y : Int) : Int := (Int32.ofInt x ^^^ Int32.ofInt y).toInt
def bShl (x y : Int) : Int := (Int32.ofInt x <<< (Int32.ofInt y &&& 31)).toInt
def bShr (x y : Int) : Int := (Int32.ofInt x >>> (Int32.ofInt y &&& 31)).toInt
def bUsh (x y : Int) : Int := ((Int32.ofInt x).toUInt32 >>> ((Int32.ofInt y).toUInt32 &&& Int32.toUInt32 31)).toInt32.toInt
def bDiv (x y : Int) : Int := (Int32.ofInt x / Int32.ofInt y).toInt
def bRem (x y : Int) : Int := (Int32.ofInt x - Int32.ofInt x / Int32.ofInt y * Int32.ofInt y).toInt
def b2b (x : Int) : Int := (Int32.ofInt x).toInt8.toInt32.toInt
def b2c (x : Int) : Int := ((Int32.ofInt x).toUInt32 % 65536).toInt32.toInt
def lOr (x y : Int) : Int := (Int64.ofInt x ||| Int64.ofInt y).toInt
def lShl (x y : Int) : Int := (Int64.ofInt x <<< ((Int32.ofInt y).toInt64 &&& 63)).toInt
def lCmp (x y : Int) : Int := (lg_cmp (Int64.ofInt x) (Int64.ofInt y)).toInt
theorem w32_id {x : Int} (h : -2147483648 ≤ x ∧ x < 2147483648) : w32 x = x := by
  unfold w32
  exact Int32.toInt_ofInt_of_le (by omega) (by omega)
theorem w32_lt {x y : Int} (h : -2147483648 ≤ x ∧ x < 2147483648 ∧ -2147483648 ≤ y ∧ y < 2147483648) : Int32.ofInt x < Int32.ofInt y ↔ x < y := by
  rw [Int32.lt_iff_toInt_lt, show (Int32.ofInt x).toInt = x from w32_id ⟨h.1, h.2.1⟩, show (Int32.ofInt y).toInt = y from w32_id ⟨h.2.2.1, h.2.2.2⟩]
theorem w32_le {x y : Int} (h : -2147483648 ≤ x ∧ x < 2147483648 ∧ -2147483648 ≤ y ∧ y < 2147483648) : Int32.ofInt x ≤ Int32.ofInt y ↔ x ≤ y := by
  rw [Int32.le_iff_toInt_le, show (Int32.ofInt x).toInt = x from w32_id ⟨h.1, h.2.1⟩, show (Int32.ofInt y).toInt = y from w32_id ⟨h.2.2.1, h.2.2.2⟩]
theorem w32_eq {x y : Int} (h : -2147483648 ≤ x ∧ x < 2147483648 ∧ -2147483648 ≤ y ∧ y < 2147483648) : Int32.ofInt x = Int32.ofInt y ↔ x = y := by
  rw [← Int32.toInt_inj, show (Int32.ofInt x).toInt = x from w32_id ⟨h.1, h.2.1⟩, show (Int32.ofInt y).toInt = y from w32_id ⟨h.2.2.1, h.2.2.2⟩]
theorem w32_z : Int32.ofInt 0 = 0 := rfl

theorem tz_iadd {x y : Int} (hd : decode μ.2.1 pc = .ok (.iadd, 1)) (hn : pc + 1 = n) (k : gT l γ μ d cb sb R X K ρ m n ls (vI (x + y) :: st)) : gT l γ μ d cb sb R X K ρ m pc ls (vI y :: vI x :: st) := by
  subst hn
  intro p e s mth args below meth c A K0 ad0 mc ms H locs cells slots ad lsr C E P D S hc hs hl
  have k9 := k p e s mth args below meth c A K0 ad0 mc ms H locs cells slots ad lsr C E P D S hc hs hl
  refine lv_iadd C.1 C.2.1 hd ?_
  rw [← Int32.ofInt_add]
  exact k9

theorem tz_isub {x y : Int} (hd : decode μ.2.1 pc = .ok (.isub, 1)) (hn : pc + 1 = n) (k : gT l γ μ d cb sb R X K ρ m n ls (vI (x - y) :: st)) : gT l γ μ d cb sb R X K ρ m pc ls (vI y :: vI x :: st) := by
  subst hn
  intro p e s mth args below meth c A K0 ad0 mc ms H locs cells slots ad lsr C E P D S hc hs hl
  have k9 := k p e s mth args below meth c A K0 ad0 mc ms H locs cells slots ad lsr C E P D S hc hs hl
  refine lv_isub C.1 C.2.1 hd ?_
  rw [← Int32.ofInt_sub]
  exact k9

theorem tz_imul {x y : Int} (hd : decode μ.2.1 pc = .ok (.imul, 1)) (hn : pc + 1 = n) (k : gT l γ μ d cb sb R X K ρ m n ls (vI (x * y) :: st)) : gT l γ μ d cb sb R X K ρ m pc ls (vI y :: vI x :: st) := by
  subst hn
  intro p e s mth args below meth c A K0 ad0 mc ms H locs cells slots ad lsr C E P D S hc hs hl
  have k9 := k p e s mth args below meth c A K0 ad0 mc ms H locs cells slots ad lsr C E P D S hc hs hl
  refine lv_imul C.1 C.2.1 hd ?_
  rw [← Int32.ofInt_mul]
  exact k9

theorem tz_iand {x y : Int} (hd : decode μ.2.1 pc = .ok (.iand, 1)) (hn : pc + 1 = n) (k : gT l γ μ d cb sb R X K ρ m n ls (vI (bAnd x y) :: st)) : gT l γ μ d cb sb R X K ρ m pc ls (vI y :: vI x :: st) := by
  subst hn
  intro p e s mth args below meth c A K0 ad0 mc ms H locs cells slots ad lsr C E P D S hc hs hl
  have k9 := k p e s mth args below meth c A K0 ad0 mc ms H locs cells slots ad lsr C E P D S hc hs hl
  refine lv_iand C.1 C.2.1 hd ?_
  have h9 : Int32.ofInt (bAnd x y) = _ := Int32.ofInt_toInt _
  simp only [List.map_cons, tv_I, h9] at k9
  exact k9

theorem tz_ior {x y : Int} (hd : decode μ.2.1 pc = .ok (.ior, 1)) (hn : pc + 1 = n) (k : gT l γ μ d cb sb R X K ρ m n ls (vI (bOr x y) :: st)) : gT l γ μ d cb sb R X K ρ m pc ls (vI y :: vI x :: st) := by
  subst hn
  intro p e s mth args below meth c A K0 ad0 mc ms H locs cells slots ad lsr C E P D S hc hs hl
  have k9 := k p e s mth args below meth c A K0 ad0 mc ms H locs cells slots ad lsr C E P D S hc hs hl
  refine lv_ior C.1 C.2.1 hd ?_
  have h9 : Int32.ofInt (bOr x y) = _ := Int32.ofInt_toInt _
  simp only [List.map_cons, tv_I, h9] at k9
  exact k9

theorem tz_ixor {x y : Int} (hd : decode μ.2.1 pc = .ok (.ixor, 1)) (hn : pc + 1 = n) (k : gT l γ μ d cb sb R X K ρ m n ls (vI (bXor x y) :: st)) : gT l γ μ d cb sb R X K ρ m pc ls (vI y :: vI x :: st) := by
  subst hn
  intro p e s mth args below meth c A K0 ad0 mc ms H locs cells slots ad lsr C E P D S hc hs hl
  have k9 := k p e s mth args below meth c A K0 ad0 mc ms H locs cells slots ad lsr C E P D S hc hs hl
  refine lv_ixor C.1 C.2.1 hd ?_
  have h9 : Int32.ofInt (bXor x y) = _ := Int32.ofInt_toInt _
  simp only [List.map_cons, tv_I, h9] at k9
  exact k9

theorem tz_ishl {x y : Int} (hd : decode μ.2.1 pc = .ok (.ishl, 1)) (hn : pc + 1 = n) (k : gT l γ μ d cb sb R X K ρ m n ls (vI (bShl x y) :: st)) : gT l γ μ d cb sb R X K ρ m pc ls (vI y :: vI x :: st) := by
  subst hn
  intro p e s mth args below meth c A K0 ad0 mc ms H locs cells slots ad lsr C E P D S hc hs hl
  have k9 := k p e s mth args below meth c A K0 ad0 mc ms H locs cells slots ad lsr C E P D S hc hs hl
  refine lv_ishl C.1 C.2.1 hd ?_
  have h9 : Int32.ofInt (bShl x y) = _ := Int32.ofInt_toInt _
  simp only [List.map_cons, tv_I, h9] at k9
  exact k9

theorem tz_ishr {x y : Int} (hd : decode μ.2.1 pc = .ok (.ishr, 1)) (hn : pc + 1 = n) (k : gT l γ μ d cb sb R X K ρ m n ls (vI (bShr x y) :: st)) : gT l γ μ d cb sb R X K ρ m pc ls (vI y :: vI x :: st) := by
  subst hn
  intro p e s mth args below meth c A K0 ad0 mc ms H locs cells slots ad lsr C E P D S hc hs hl
  have k9 := k p e s mth args below meth c A K0 ad0 mc ms H locs cells slots ad lsr C E P D S hc hs hl
  refine lv_ishr C.1 C.2.1 hd ?_
  have h9 : Int32.ofInt (bShr x y) = _ := Int32.ofInt_toInt _
  simp only [List.map_cons, tv_I, h9] at k9
  exact k9

theorem tz_idiv {x y : Int} (hd : decode μ.2.1 pc = .ok (.idiv, 1)) (hn : pc + 1 = n) (hz : -2147483648 ≤ y ∧ y < 2147483648 ∧ y ≠ 0) (k : gT l γ μ d cb sb R X K ρ m n ls (vI (bDiv x y) :: st)) : gT l γ μ d cb sb R X K ρ m pc ls (vI y :: vI x :: st) := by
  subst hn
  intro p e s mth args below meth c A K0 ad0 mc ms H locs cells slots ad lsr C E P D S hc hs hl
  have k9 := k p e s mth args below meth c A K0 ad0 mc ms H locs cells slots ad lsr C E P D S hc hs hl
  refine lv_idiv C.1 C.2.1 hd (fun h => hz.2.2 ((w32_eq (y := 0) ⟨hz.1, hz.2.1, by decide, by decide⟩).mp h)) ?_
  have h9 : Int32.ofInt (bDiv x y) = _ := Int32.ofInt_toInt _
  simp only [List.map_cons, tv_I, h9] at k9
  exact k9

theorem tz_irem {x y : Int} (hd : decode μ.2.1 pc = .ok (.irem, 1)) (hn : pc + 1 = n) (hz : -2147483648 ≤ y ∧ y < 2147483648 ∧ y ≠ 0) (k : gT l γ μ d cb sb R X K ρ m n ls (vI (bRem x y) :: st)) : gT l γ μ d cb sb R X K ρ m pc ls (vI y :: vI x :: st) := by
  subst hn
  intro p e s mth args below meth c A K0 ad0 mc ms H locs cells slots ad lsr C E P D S hc hs hl
  have k9 := k p e s mth args below meth c A K0 ad0 mc ms H locs cells slots ad lsr C E P D S hc hs hl
  refine lv_irem C.1 C.2.1 hd (fun h => hz.2.2 ((w32_eq (y := 0) ⟨hz.1, hz.2.1, by decide, by decide⟩).mp h)) ?_
  have h9 : Int32.ofInt (bRem x y) = _ := Int32.ofInt_toInt _
  simp only [List.map_cons, tv_I, h9] at k9
  exact k9

theorem tz_iushr {x y : Int} (hd : decode μ.2.1 pc = .ok (.iushr, 1)) (hn : pc + 1 = n) (k : gT l γ μ d cb sb R X K ρ m n ls (vI (bUsh x y) :: st)) : gT l γ μ d cb sb R X K ρ m pc ls (vI y :: vI x :: st) := by
  subst hn
  intro p e s mth args below meth c A K0 ad0 mc ms H locs cells slots ad lsr C E P D S hc hs hl
  exact lv_iushr C.1 C.2.1 hd (Int32.ofInt_toInt _).symm (k p e s mth args below meth c A K0 ad0 mc ms H locs cells slots ad lsr C E P D S hc hs hl)
theorem tz_ineg {x : Int} (hd : decode μ.2.1 pc = .ok (.ineg, 1)) (hn : pc + 1 = n) (k : gT l γ μ d cb sb R X K ρ m n ls (vI (-x) :: st)) : gT l γ μ d cb sb R X K ρ m pc ls (vI x :: st) := by
  subst hn
  intro p e s mth args below meth c A K0 ad0 mc ms H locs cells slots ad lsr C E P D S hc hs hl
  have k9 := k p e s mth args below meth c A K0 ad0 mc ms H locs cells slots ad lsr C E P D S hc hs hl
  refine lv_ineg C.1 C.2.1 hd ?_
  rw [← Int32.ofInt_neg]
  exact k9
theorem tz_i2b {x : Int} (hd : decode μ.2.1 pc = .ok (.i2b, 1)) (hn : pc + 1 = n) (k : gT l γ μ d cb sb R X K ρ m n ls (vI (b2b x) :: st)) : gT l γ μ d cb sb R X K ρ m pc ls (vI x :: st) := by
  subst hn
  intro p e s mth args below meth c A K0 ad0 mc ms H locs cells slots ad lsr C E P D S hc hs hl
  exact lv_i2b C.1 C.2.1 hd (Int32.ofInt_toInt _).symm (k p e s mth args below meth c A K0 ad0 mc ms H locs cells slots ad lsr C E P D S hc hs hl)
theorem tz_i2c {x : Int} (hd : decode μ.2.1 pc = .ok (.i2c, 1)) (hn : pc + 1 = n) (k : gT l γ μ d cb sb R X K ρ m n ls (vI (b2c x) :: st)) : gT l γ μ d cb sb R X K ρ m pc ls (vI x :: st) := by
  subst hn
  intro p e s mth args below meth c A K0 ad0 mc ms H locs cells slots ad lsr C E P D S hc hs hl
  exact lv_i2c C.1 C.2.1 hd (Int32.ofInt_toInt _).symm (k p e s mth args below meth c A K0 ad0 mc ms H locs cells slots ad lsr C E P D S hc hs hl)
theorem tz_i2l {x : Int} (hd : decode μ.2.1 pc = .ok (.i2l, 1)) (hn : pc + 1 = n) (k : gT l γ μ d cb sb R X K ρ m n ls (vL (w32 x) :: st)) : gT l γ μ d cb sb R X K ρ m pc ls (vI x :: st) := by
  subst hn
  intro p e s mth args below meth c A K0 ad0 mc ms H locs cells slots ad lsr C E P D S hc hs hl
  exact lv_i2l C.1 C.2.1 hd (Int64.ofInt_int32ToInt (x := Int32.ofInt x)).symm (k p e s mth args below meth c A K0 ad0 mc ms H locs cells slots ad lsr C E P D S hc hs hl)
theorem tz_lor {x y : Int} (hd : decode μ.2.1 pc = .ok (.lor, 1)) (hn : pc + 1 = n) (k : gT l γ μ d cb sb R X K ρ m n ls (vL (lOr x y) :: st)) : gT l γ μ d cb sb R X K ρ m pc ls (vL y :: vL x :: st) := by
  subst hn
  intro p e s mth args below meth c A K0 ad0 mc ms H locs cells slots ad lsr C E P D S hc hs hl
  have k9 := k p e s mth args below meth c A K0 ad0 mc ms H locs cells slots ad lsr C E P D S hc hs hl
  refine lv_lor C.1 C.2.1 hd ?_
  have h9 : Int64.ofInt (lOr x y) = _ := Int64.ofInt_toInt _
  simp only [List.map_cons, tv_L, h9] at k9
  exact k9
theorem tz_lsub {x y : Int} (hd : decode μ.2.1 pc = .ok (.lsub, 1)) (hn : pc + 1 = n) (k : gT l γ μ d cb sb R X K ρ m n ls (vL (x - y) :: st)) : gT l γ μ d cb sb R X K ρ m pc ls (vL y :: vL x :: st) := by
  subst hn
  intro p e s mth args below meth c A K0 ad0 mc ms H locs cells slots ad lsr C E P D S hc hs hl
  have k9 := k p e s mth args below meth c A K0 ad0 mc ms H locs cells slots ad lsr C E P D S hc hs hl
  refine lv_lsub C.1 C.2.1 hd ?_
  rw [← Int64.ofInt_sub]
  exact k9
theorem tz_lshl {x y : Int} (hd : decode μ.2.1 pc = .ok (.lshl, 1)) (hn : pc + 1 = n) (k : gT l γ μ d cb sb R X K ρ m n ls (vL (lShl x y) :: st)) : gT l γ μ d cb sb R X K ρ m pc ls (vI y :: vL x :: st) := by
  subst hn
  intro p e s mth args below meth c A K0 ad0 mc ms H locs cells slots ad lsr C E P D S hc hs hl
  exact lv_lshl C.1 C.2.1 hd (Int64.ofInt_toInt _).symm (k p e s mth args below meth c A K0 ad0 mc ms H locs cells slots ad lsr C E P D S hc hs hl)
theorem tz_lcmp {x y : Int} (hd : decode μ.2.1 pc = .ok (.lcmp, 1)) (hn : pc + 1 = n) (k : gT l γ μ d cb sb R X K ρ m n ls (vI (lCmp x y) :: st)) : gT l γ μ d cb sb R X K ρ m pc ls (vL y :: vL x :: st) := by
  subst hn
  intro p e s mth args below meth c A K0 ad0 mc ms H locs cells slots ad lsr C E P D S hc hs hl
  have k9 := k p e s mth args below meth c A K0 ad0 mc ms H locs cells slots ad lsr C E P D S hc hs hl
  refine W.lcmp C.1 C.2.1 hd ?_
  have h9 : Int32.ofInt (lCmp x y) = _ := Int32.ofInt_toInt _
  simp only [List.map_cons, tv_I, h9] at k9
  exact k9
/-- the number on the stack, wrapped -/
theorem tz_wrap {x : Int} (k : gT l γ μ d cb sb R X K ρ m pc ls (vI (w32 x) :: st)) : gT l γ μ d cb sb R X K ρ m pc ls (vI x :: st) := by
  intro p e s mth args below meth c A K0 ad0 mc ms H locs cells slots ad lsr C E P D S hc hs hl
  have k9 := k p e s mth args below meth c A K0 ad0 mc ms H locs cells slots ad lsr C E P D S hc hs hl
  have h9 : Int32.ofInt (w32 x) = _ := Int32.ofInt_toInt _
  simp only [List.map_cons, tv_I, h9] at k9 ⊢
  exact k9
/-- what is known of variables may be forgotten -/
theorem tz_weak {ls' : List (Option VV)} (h : ∀ (i : Nat) (v : VV), ls'[i]? = some (some v) → ls[i]? = some (some v)) (k : gT l γ μ d cb sb R X K ρ m pc ls' st) : gT l γ μ d cb sb R X K ρ m pc ls st := by
  intro p e s mth args below meth c A K0 ad0 mc ms H locs cells slots ad lsr C E P D S hc hs hl
  exact k p e s mth args below meth c A K0 ad0 mc ms H locs cells slots ad lsr C E P D S hc hs (g_ls_sub hl fun q hq => by
    obtain ⟨v, hv, h2⟩ := g_ls_mem.mp hq
    exact g_ls_mem.mpr ⟨v, h _ _ hv, h2⟩)
theorem tz_dup {t : Nat} {x : Int} (hd : decode μ.2.1 pc = .ok (.dup, 1)) (hn : pc + 1 = n) (ht : t ≠ 1) (k : gT l γ μ d cb sb R X K ρ m n ls ((t, x) :: (t, x) :: st)) : gT l γ μ d cb sb R X K ρ m pc ls ((t, x) :: st) := by
  subst hn
  intro p e s mth args below meth c A K0 ad0 mc ms H locs cells slots ad lsr C E P D S hc hs hl
  exact lv_dup C.1 C.2.1 hd (tv_cat ht) (k p e s mth args below meth c A K0 ad0 mc ms H locs cells slots ad lsr C E P D S hc hs hl)
theorem tz_dupR {x : Int} (hd : decode μ.2.1 pc = .ok (.dup, 1)) (hn : pc + 1 = n) (k : gT l γ μ d cb sb R X K ρ m n ls (vR x :: vR x :: st)) : gT l γ μ d cb sb R X K ρ m pc ls (vR x :: st) := tz_dup hd hn (by decide) k
theorem tz_dupI {x : Int} (hd : decode μ.2.1 pc = .ok (.dup, 1)) (hn : pc + 1 = n) (k : gT l γ μ d cb sb R X K ρ m n ls (vI x :: vI x :: st)) : gT l γ μ d cb sb R X K ρ m pc ls (vI x :: st) := tz_dup hd hn (by decide) k
theorem tz_dup2 {x y : Int} (hd : decode μ.2.1 pc = .ok (.dup2, 1)) (hn : pc + 1 = n) (k : gT l γ μ d cb sb R X K ρ m n ls (vI x :: vR y :: vI x :: vR y :: st)) : gT l γ μ d cb sb R X K ρ m pc ls (vI x :: vR y :: st) := by
  subst hn
  intro p e s mth args below meth c A K0 ad0 mc ms H locs cells slots ad lsr C E P D S hc hs hl
  exact lv_dup2_11 C.1 C.2.1 hd (tv_cat (v := vI x) (show (0 : Nat) ≠ 1 by decide)) (tv_cat (v := vR y) (show (2 : Nat) ≠ 1 by decide)) (k p e s mth args below meth c A K0 ad0 mc ms H locs cells slots ad lsr C E P D S hc hs hl)
theorem tz_pop {t : Nat} {x : Int} (hd : decode μ.2.1 pc = .ok (.pop, 1)) (hn : pc + 1 = n) (ht : t ≠ 1) (k : gT l γ μ d cb sb R X K ρ m n ls st) : gT l γ μ d cb sb R X K ρ m pc ls ((t, x) :: st) := by
  subst hn
  intro p e s mth args below meth c A K0 ad0 mc ms H locs cells slots ad lsr C E P D S hc hs hl
  exact lv_pop C.1 C.2.1 hd (tv_cat ht) (k p e s mth args below meth c A K0 ad0 mc ms H locs cells slots ad lsr C E P D S hc hs hl)
theorem tz_popI {x : Int} (hd : decode μ.2.1 pc = .ok (.pop, 1)) (hn : pc + 1 = n) (k : gT l γ μ d cb sb R X K ρ m n ls st) : gT l γ μ d cb sb R X K ρ m pc ls (vI x :: st) := tz_pop hd hn (by decide) k
theorem tz_popR {x : Int} (hd : decode μ.2.1 pc = .ok (.pop, 1)) (hn : pc + 1 = n) (k : gT l γ μ d cb sb R X K ρ m n ls st) : gT l γ μ d cb sb R X K ρ m pc ls (vR x :: st) := tz_pop hd hn (by decide) k
theorem tz_goto {off : Int} {tgt : Nat} (hd : decode μ.2.1 pc = .ok (.goto off, 3)) (ht : (pc : Int) + off = (tgt : Int)) (k : gT l γ μ d cb sb R X K ρ m tgt ls st) : gT l γ μ d cb sb R X K ρ m pc ls st := by
  intro p e s mth args below meth c A K0 ad0 mc ms H locs cells slots ad lsr C E P D S hc hs hl
  exact lv_goto C.1 C.2.1 hd ht (k p e s mth args below meth c A K0 ad0 mc ms H locs cells slots ad lsr C E P D S hc hs hl)

theorem tz_icmp_eq {x y : Int} {off : Int} {tgt : Nat} (hd : decode μ.2.1 pc = .ok (.if_icmp .eq off, 3)) (ht : (pc : Int) + off = (tgt : Int)) (hn : pc + 3 = n) (h : -2147483648 ≤ x ∧ x < 2147483648 ∧ -2147483648 ≤ y ∧ y < 2147483648) (kt : x = y → gT l γ μ d cb sb R X K ρ m tgt ls st) (kf : ¬ (x = y) → gT l γ μ d cb sb R X K ρ m n ls st) : gT l γ μ d cb sb R X K ρ m pc ls (vI y :: vI x :: st) := by
  subst hn
  intro p e s mth args below meth c A K0 ad0 mc ms H locs cells slots ad lsr C E P D S hc hs hl
  exact lv_icmp_eq C.1 C.2.1 hd ht (fun z => kt ((w32_eq h).mp z) p e s mth args below meth c A K0 ad0 mc ms H locs cells slots ad lsr C E P D S hc hs hl) (fun z => kf (fun q => z ((w32_eq h).mpr q)) p e s mth args below meth c A K0 ad0 mc ms H locs cells slots ad lsr C E P D S hc hs hl)

theorem tz_if_eq {x : Int} {off : Int} {tgt : Nat} (hd : decode μ.2.1 pc = .ok (.ifCond .eq off, 3)) (ht : (pc : Int) + off = (tgt : Int)) (hn : pc + 3 = n) (h : -2147483648 ≤ x ∧ x < 2147483648) (kt : x = 0 → gT l γ μ d cb sb R X K ρ m tgt ls st) (kf : ¬ (x = 0) → gT l γ μ d cb sb R X K ρ m n ls st) : gT l γ μ d cb sb R X K ρ m pc ls (vI x :: st) := by
  subst hn
  intro p e s mth args below meth c A K0 ad0 mc ms H locs cells slots ad lsr C E P D S hc hs hl
  exact lv_if_eq C.1 C.2.1 hd ht (fun z => kt ((w32_eq (y := 0) ⟨h.1, h.2, by decide, by decide⟩).mp z) p e s mth args below meth c A K0 ad0 mc ms H locs cells slots ad lsr C E P D S hc hs hl) (fun z => kf (fun q => z ((w32_eq (y := 0) ⟨h.1, h.2, by decide, by decide⟩).mpr q)) p e s mth args below meth c A K0 ad0 mc ms H locs cells slots ad lsr C E P D S hc hs hl)

theorem tz_icmp_ne {x y : Int} {off : Int} {tgt : Nat} (hd : decode μ.2.1 pc = .ok (.if_icmp .ne off, 3)) (ht : (pc : Int) + off = (tgt : Int)) (hn : pc + 3 = n) (h : -2147483648 ≤ x ∧ x < 2147483648 ∧ -2147483648 ≤ y ∧ y < 2147483648) (kt : ¬ x = y → gT l γ μ d cb sb R X K ρ m tgt ls st) (kf : x = y → gT l γ μ d cb sb R X K ρ m n ls st) : gT l γ μ d cb sb R X K ρ m pc ls (vI y :: vI x :: st) := by
  subst hn
  intro p e s mth args below meth c A K0 ad0 mc ms H locs cells slots ad lsr C E P D S hc hs hl
  exact lv_icmp_ne C.1 C.2.1 hd ht (fun z => kt (fun q => z ((w32_eq h).mpr q)) p e s mth args below meth c A K0 ad0 mc ms H locs cells slots ad lsr C E P D S hc hs hl) (fun z => kf ((w32_eq h).mp z) p e s mth args below meth c A K0 ad0 mc ms H locs cells slots ad lsr C E P D S hc hs hl)

theorem tz_if_ne {x : Int} {off : Int} {tgt : Nat} (hd : decode μ.2.1 pc = .ok (.ifCond .ne off, 3)) (ht : (pc : Int) + off = (tgt : Int)) (hn : pc + 3 = n) (h : -2147483648 ≤ x ∧ x < 2147483648) (kt : ¬ x = 0 → gT l γ μ d cb sb R X K ρ m tgt ls st) (kf : x = 0 → gT l γ μ d cb sb R X K ρ m n ls st) : gT l γ μ d cb sb R X K ρ m pc ls (vI x :: st) := by
  subst hn
  intro p e s mth args below meth c A K0 ad0 mc ms H locs cells slots ad lsr C E P D S hc hs hl
  exact lv_if_ne C.1 C.2.1 hd ht (fun z => kt (fun q => z ((w32_eq (y := 0) ⟨h.1, h.2, by decide, by decide⟩).mpr q)) p e s mth args below meth c A K0 ad0 mc ms H locs cells slots ad lsr C E P D S hc hs hl) (fun z => kf ((w32_eq (y := 0) ⟨h.1, h.2, by decide, by decide⟩).mp z) p e s mth args below meth c A K0 ad0 mc ms H locs cells slots ad lsr C E P D S hc hs hl)

theorem tz_icmp_lt {x y : Int} {off : Int} {tgt : Nat} (hd : decode μ.2.1 pc = .ok (.if_icmp .lt off, 3)) (ht : (pc : Int) + off = (tgt : Int)) (hn : pc + 3 = n) (h : -2147483648 ≤ x ∧ x < 2147483648 ∧ -2147483648 ≤ y ∧ y < 2147483648) (kt : x < y → gT l γ μ d cb sb R X K ρ m tgt ls st) (kf : ¬ (x < y) → gT l γ μ d cb sb R X K ρ m n ls st) : gT l γ μ d cb sb R X K ρ m pc ls (vI y :: vI x :: st) := by
  subst hn
  intro p e s mth args below meth c A K0 ad0 mc ms H locs cells slots ad lsr C E P D S hc hs hl
  exact lv_icmp_lt C.1 C.2.1 hd ht (fun z => kt ((w32_lt h).mp z) p e s mth args below meth c A K0 ad0 mc ms H locs cells slots ad lsr C E P D S hc hs hl) (fun z => kf (fun q => z ((w32_lt h).mpr q)) p e s mth args below meth c A K0 ad0 mc ms H locs cells slots ad lsr C E P D S hc hs hl)

theorem tz_if_lt {x : Int} {off : Int} {tgt : Nat} (hd : decode μ.2.1 pc = .ok (.ifCond .lt off, 3)) (ht : (pc : Int) + off = (tgt : Int)) (hn : pc + 3 = n) (h : -2147483648 ≤ x ∧ x < 2147483648) (kt : x < 0 → gT l γ μ d cb sb R X K ρ m tgt ls st) (kf : ¬ (x < 0) → gT l γ μ d cb sb R X K ρ m n ls st) : gT l γ μ d cb sb R X K ρ m pc ls (vI x :: st) := by
  subst hn
  intro p e s mth args below meth c A K0 ad0 mc ms H locs cells slots ad lsr C E P D S hc hs hl
  exact lv_if_lt C.1 C.2.1 hd ht (fun z => kt ((w32_lt (y := 0) ⟨h.1, h.2, by decide, by decide⟩).mp z) p e s mth args below meth c A K0 ad0 mc ms H locs cells slots ad lsr C E P D S hc hs hl) (fun z => kf (fun q => z ((w32_lt (y := 0) ⟨h.1, h.2, by decide, by decide⟩).mpr q)) p e s mth args below meth c A K0 ad0 mc ms H locs cells slots ad lsr C E P D S hc hs hl)

theorem tz_icmp_ge {x y : Int} {off : Int} {tgt : Nat} (hd : decode μ.2.1 pc = .ok (.if_icmp .ge off, 3)) (ht : (pc : Int) + off = (tgt : Int)) (hn : pc + 3 = n) (h : -2147483648 ≤ x ∧ x < 2147483648 ∧ -2147483648 ≤ y ∧ y < 2147483648) (kt : y ≤ x → gT l γ μ d cb sb R X K ρ m tgt ls st) (kf : ¬ (y ≤ x) → gT l γ μ d cb sb R X K ρ m n ls st) : gT l γ μ d cb sb R X K ρ m pc ls (vI y :: vI x :: st) := by
  subst hn
  intro p e s mth args below meth c A K0 ad0 mc ms H locs cells slots ad lsr C E P D S hc hs hl
  exact lv_icmp_ge C.1 C.2.1 hd ht (fun z => kt ((w32_le ⟨h.2.2.1, h.2.2.2, h.1, h.2.1⟩).mp z) p e s mth args below meth c A K0 ad0 mc ms H locs cells slots ad lsr C E P D S hc hs hl) (fun z => kf (fun q => z ((w32_le ⟨h.2.2.1, h.2.2.2, h.1, h.2.1⟩).mpr q)) p e s mth args below meth c A K0 ad0 mc ms H locs cells slots ad lsr C E P D S hc hs hl)

theorem tz_if_ge {x : Int} {off : Int} {tgt : Nat} (hd : decode μ.2.1 pc = .ok (.ifCond .ge off, 3)) (ht : (pc : Int) + off = (tgt : Int)) (hn : pc + 3 = n) (h : -2147483648 ≤ x ∧ x < 2147483648) (kt : 0 ≤ x → gT l γ μ d cb sb R X K ρ m tgt ls st) (kf : ¬ (0 ≤ x) → gT l γ μ d cb sb R X K ρ m n ls st) : gT l γ μ d cb sb R X K ρ m pc ls (vI x :: st) := by
  subst hn
  intro p e s mth args below meth c A K0 ad0 mc ms H locs cells slots ad lsr C E P D S hc hs hl
  exact lv_if_ge C.1 C.2.1 hd ht (fun z => kt ((w32_le (x := 0) ⟨by decide, by decide, h.1, h.2⟩).mp z) p e s mth args below meth c A K0 ad0 mc ms H locs cells slots ad lsr C E P D S hc hs hl) (fun z => kf (fun q => z ((w32_le (x := 0) ⟨by decide, by decide, h.1, h.2⟩).mpr q)) p e s mth args below meth c A K0 ad0 mc ms H locs cells slots ad lsr C E P D S hc hs hl)

theorem tz_icmp_gt {x y : Int} {off : Int} {tgt : Nat} (hd : decode μ.2.1 pc = .ok (.if_icmp .gt off, 3)) (ht : (pc : Int) + off = (tgt : Int)) (hn : pc + 3 = n) (h : -2147483648 ≤ x ∧ x < 2147483648 ∧ -2147483648 ≤ y ∧ y < 2147483648) (kt : y < x → gT l γ μ d cb sb R X K ρ m tgt ls st) (kf : ¬ (y < x) → gT l γ μ d cb sb R X K ρ m n ls st) : gT l γ μ d cb sb R X K ρ m pc ls (vI y :: vI x :: st) := by
  subst hn
  intro p e s mth args below meth c A K0 ad0 mc ms H locs cells slots ad lsr C E P D S hc hs hl
  exact lv_icmp_gt C.1 C.2.1 hd ht (fun z => kt ((w32_lt ⟨h.2.2.1, h.2.2.2, h.1, h.2.1⟩).mp z) p e s mth args below meth c A K0 ad0 mc ms H locs cells slots ad lsr C E P D S hc hs hl) (fun z => kf (fun q => z ((w32_lt ⟨h.2.2.1, h.2.2.2, h.1, h.2.1⟩).mpr q)) p e s mth args below meth c A K0 ad0 mc ms H locs cells slots ad lsr C E P D S hc hs hl)

theorem tz_if_gt {x : Int} {off : Int} {tgt : Nat} (hd : decode μ.2.1 pc = .ok (.ifCond .gt off, 3)) (ht : (pc : Int) + off = (tgt : Int)) (hn : pc + 3 = n) (h : -2147483648 ≤ x ∧ x < 2147483648) (kt : 0 < x → gT l γ μ d cb sb R X K ρ m tgt ls st) (kf : ¬ (0 < x) → gT l γ μ d cb sb R X K ρ m n ls st) : gT l γ μ d cb sb R X K ρ m pc ls (vI x :: st) := by
  subst hn
  intro p e s mth args below meth c A K0 ad0 mc ms H locs cells slots ad lsr C E P D S hc hs hl
  exact lv_if_gt C.1 C.2.1 hd ht (fun z => kt ((w32_lt (x := 0) ⟨by decide, by decide, h.1, h.2⟩).mp z) p e s mth args below meth c A K0 ad0 mc ms H locs cells slots ad lsr C E P D S hc hs hl) (fun z => kf (fun q => z ((w32_lt (x := 0) ⟨by decide, by decide, h.1, h.2⟩).mpr q)) p e s mth args below meth c A K0 ad0 mc ms H locs cells slots ad lsr C E P D S hc hs hl)

theorem tz_icmp_le {x y : Int} {off : Int} {tgt : Nat} (hd : decode μ.2.1 pc = .ok (.if_icmp .le off, 3)) (ht : (pc : Int) + off = (tgt : Int)) (hn : pc + 3 = n) (h : -2147483648 ≤ x ∧ x < 2147483648 ∧ -2147483648 ≤ y ∧ y < 2147483648) (kt : x ≤ y → gT l γ μ d cb sb R X K ρ m tgt ls st) (kf : ¬ (x ≤ y) → gT l γ μ d cb sb R X K ρ m n ls st) : gT l γ μ d cb sb R X K ρ m pc ls (vI y :: vI x :: st) := by
  subst hn
  intro p e s mth args below meth c A K0 ad0 mc ms H locs cells slots ad lsr C E P D S hc hs hl
  exact lv_icmp_le C.1 C.2.1 hd ht (fun z => kt ((w32_le h).mp z) p e s mth args below meth c A K0 ad0 mc ms H locs cells slots ad lsr C E P D S hc hs hl) (fun z => kf (fun q => z ((w32_le h).mpr q)) p e s mth args below meth c A K0 ad0 mc ms H locs cells slots ad lsr C E P D S hc hs hl)

theorem tz_if_le {x : Int} {off : Int} {tgt : Nat} (hd : decode μ.2.1 pc = .ok (.ifCond .le off, 3)) (ht : (pc : Int) + off = (tgt : Int)) (hn : pc + 3 = n) (h : -2147483648 ≤ x ∧ x < 2147483648) (kt : x ≤ 0 → gT l γ μ d cb sb R X K ρ m tgt ls st) (kf : ¬ (x ≤ 0) → gT l γ μ d cb sb R X K ρ m n ls st) : gT l γ μ d cb sb R X K ρ m pc ls (vI x :: st) := by
  subst hn
  intro p e s mth args below meth c A K0 ad0 mc ms H locs cells slots ad lsr C E P D S hc hs hl
  exact lv_if_le C.1 C.2.1 hd ht (fun z => kt ((w32_le (y := 0) ⟨h.1, h.2, by decide, by decide⟩).mp z) p e s mth args below meth c A K0 ad0 mc ms H locs cells slots ad lsr C E P D S hc hs hl) (fun z => kf (fun q => z ((w32_le (y := 0) ⟨h.1, h.2, by decide, by decide⟩).mpr q)) p e s mth args below meth c A K0 ad0 mc ms H locs cells slots ad lsr C E P D S hc hs hl)

theorem tz_tableIn {dflt lo hi off : Int} {offs : Array Int} {len tgt : Nat} {x : Int} (hd : decode μ.2.1 pc = .ok (.tableswitch dflt lo hi offs, len)) (h : -2147483648 ≤ x ∧ x < 2147483648) (h1 : lo ≤ x) (h2 : x ≤ hi) (ho : offs[(x - lo).toNat]? = some off) (ht : (pc : Int) + off = (tgt : Int)) (k : gT l γ μ d cb sb R X K ρ m tgt ls st) : gT l γ μ d cb sb R X K ρ m pc ls (vI x :: st) := by
  intro p e s mth args below meth c A K0 ad0 mc ms H locs cells slots ad lsr C E P D S hc hs hl
  have h9 : (Int32.ofInt x).toInt = x := w32_id h
  exact lv_tableIn C.1 C.2.1 hd (by rw [h9]; omega) (by rw [h9]; omega) (by rw [h9]; exact ho) ht (k p e s mth args below meth c A K0 ad0 mc ms H locs cells slots ad lsr C E P D S hc hs hl)
theorem tz_tableOut {dflt lo hi : Int} {offs : Array Int} {len tgt : Nat} {x : Int} (hd : decode μ.2.1 pc = .ok (.tableswitch dflt lo hi offs, len)) (h : -2147483648 ≤ x ∧ x < 2147483648) (h1 : x < lo ∨ hi < x) (ht : (pc : Int) + dflt = (tgt : Int)) (k : gT l γ μ d cb sb R X K ρ m tgt ls st) : gT l γ μ d cb sb R X K ρ m pc ls (vI x :: st) := by
  intro p e s mth args below meth c A K0 ad0 mc ms H locs cells slots ad lsr C E P D S hc hs hl
  have h9 : (Int32.ofInt x).toInt = x := w32_id h
  exact lv_tableOut C.1 C.2.1 hd (by rw [h9]; exact h1) ht (k p e s mth args below meth c A K0 ad0 mc ms H locs cells slots ad lsr C E P D S hc hs hl)
theorem tz_lookup {dflt off : Int} {ps : Array (Int × Int)} {len tgt : Nat} {x : Int} (hd : decode μ.2.1 pc = .ok (.lookupswitch dflt ps, len)) (hp : (ps.toList.zip (ps.toList.drop 1)).all (fun (a, next) => a.1 < next.1) = true) (h : -2147483648 ≤ x ∧ x < 2147483648) (ho : Op.lookupswitch.offset ps.toList dflt x = off) (ht : (pc : Int) + off = (tgt : Int)) (k : gT l γ μ d cb sb R X K ρ m tgt ls st) : gT l γ μ d cb sb R X K ρ m pc ls (vI x :: st) := by
  intro p e s mth args below meth c A K0 ad0 mc ms H locs cells slots ad lsr C E P D S hc hs hl
  have h9 : (Int32.ofInt x).toInt = x := w32_id h
  exact lv_lookup C.1 C.2.1 hd hp (by rw [h9]; exact ho) ht (k p e s mth args below meth c A K0 ad0 mc ms H locs cells slots ad lsr C E P D S hc hs hl)

theorem tz_iloadG {i : Nat} {x : Int} (hd : (decode μ.2.1 pc = .ok (.iload i, 2) ∧ pc + 2 = n) ∨ ∃ q : Fin 4, q.val = i ∧ decode μ.2.1 pc = .ok (.iload_n q, 1) ∧ pc + 1 = n) (hx : ls[i]? = some (some (vI x))) (k : gT l γ μ d cb sb R X K ρ m n ls (vI x :: st)) : gT l γ μ d cb sb R X K ρ m pc ls st := by
  intro p e s mth args below meth c A K0 ad0 mc ms H locs cells slots ad lsr C E P D S hc hs hl
  rcases hd with ⟨hd, rfl⟩ | ⟨q, hq, hd, rfl⟩
  · exact lv_iload C.1 C.2.1 hd (g_ls_at hl hx) (k p e s mth args below meth c A K0 ad0 mc ms H locs cells slots ad lsr C E P D S hc hs hl)
  · exact lv_iload_n C.1 C.2.1 hd hq (g_ls_at hl hx) (k p e s mth args below meth c A K0 ad0 mc ms H locs cells slots ad lsr C E P D S hc hs hl)
theorem tz_lloadG {i : Nat} {x : Int} (hd : (decode μ.2.1 pc = .ok (.lload i, 2) ∧ pc + 2 = n) ∨ ∃ q : Fin 4, q.val = i ∧ decode μ.2.1 pc = .ok (.lload_n q, 1) ∧ pc + 1 = n) (hx : ls[i]? = some (some (vL x))) (k : gT l γ μ d cb sb R X K ρ m n ls (vL x :: st)) : gT l γ μ d cb sb R X K ρ m pc ls st := by
  intro p e s mth args below meth c A K0 ad0 mc ms H locs cells slots ad lsr C E P D S hc hs hl
  rcases hd with ⟨hd, rfl⟩ | ⟨q, hq, hd, rfl⟩
  · exact lv_lload C.1 C.2.1 hd (g_ls_at hl hx) (k p e s mth args below meth c A K0 ad0 mc ms H locs cells slots ad lsr C E P D S hc hs hl)
  · exact lv_lload_n C.1 C.2.1 hd hq (g_ls_at hl hx) (k p e s mth args below meth c A K0 ad0 mc ms H locs cells slots ad lsr C E P D S hc hs hl)
theorem tz_aloadG {i : Nat} {x : Int} (hd : (decode μ.2.1 pc = .ok (.aload i, 2) ∧ pc + 2 = n) ∨ ∃ q : Fin 4, q.val = i ∧ decode μ.2.1 pc = .ok (.aload_n q, 1) ∧ pc + 1 = n) (hx : ls[i]? = some (some (vR x))) (h0 : x ≠ 0) (k : gT l γ μ d cb sb R X K ρ m n ls (vR x :: st)) : gT l γ μ d cb sb R X K ρ m pc ls st := by
  intro p e s mth args below meth c A K0 ad0 mc ms H locs cells slots ad lsr C E P D S hc hs hl
  have h9 : ∃ a, rv γ ad x = .ref a := by
    unfold rv
    rw [if_neg h0]
    split <;> exact ⟨_, rfl⟩
  obtain ⟨a, h9⟩ := h9
  have k9 := k p e s mth args below meth c A K0 ad0 mc ms H locs cells slots ad lsr C E P D S hc hs hl
  have hx9 := g_ls_at hl hx
  simp only [List.map_cons, tv_R, h9] at k9 hx9
  rcases hd with ⟨hd, rfl⟩ | ⟨q, hq, hd, rfl⟩
  · exact lv_aload C.1 C.2.1 hd hx9 k9
  · exact lv_aload_n C.1 C.2.1 hd hq hx9 k9
theorem tz_istoreG {i : Nat} {x : Int} (hd : (decode μ.2.1 pc = .ok (.istore i, 2) ∧ pc + 2 = n) ∨ ∃ q : Fin 4, q.val = i ∧ decode μ.2.1 pc = .ok (.istore_n q, 1) ∧ pc + 1 = n) (hi : i < μ.2.2.1) (hp : ∀ u, 0 < i → ls[i - 1]? = some (some u) → u.1 ≠ 1) (k : gT l γ μ d cb sb R X K ρ m n (ls.set i (some (vI x))) st) : gT l γ μ d cb sb R X K ρ m pc ls (vI x :: st) := by
  intro p e s mth args below meth c A K0 ad0 mc ms H locs cells slots ad lsr C E P D S hc hs hl
  rcases hd with ⟨hd, rfl⟩ | ⟨q, hq, hd, rfl⟩
  · exact lv_istore C.1 C.2.1 hd hl hi rfl (fun ls' h' => k p e s mth args below meth c A K0 ad0 mc ms H locs cells slots ad ls' C E P D S hc hs (g_ls_sub h' (g_ls_set hp)))
  · exact lv_istore_n C.1 C.2.1 hd hq hl hi rfl (fun ls' h' => k p e s mth args below meth c A K0 ad0 mc ms H locs cells slots ad ls' C E P D S hc hs (g_ls_sub h' (g_ls_set hp)))
theorem tz_astoreG {i : Nat} {x : Int} (hd : (decode μ.2.1 pc = .ok (.astore i, 2) ∧ pc + 2 = n) ∨ ∃ q : Fin 4, q.val = i ∧ decode μ.2.1 pc = .ok (.astore_n q, 1) ∧ pc + 1 = n) (hi : i < μ.2.2.1) (hp : ∀ u, 0 < i → ls[i - 1]? = some (some u) → u.1 ≠ 1) (h0 : x ≠ 0) (k : gT l γ μ d cb sb R X K ρ m n (ls.set i (some (vR x))) st) : gT l γ μ d cb sb R X K ρ m pc ls (vR x :: st) := by
  intro p e s mth args below meth c A K0 ad0 mc ms H locs cells slots ad lsr C E P D S hc hs hl
  have h9 : ∃ a, rv γ ad x = .ref a := by
    unfold rv
    rw [if_neg h0]
    split <;> exact ⟨_, rfl⟩
  obtain ⟨a, h9⟩ := h9
  have hs9 := g_ls_set (γ := γ) (ad := ad) (ls := ls) (i := i) (v := vR x) hp
  simp only [tv_R, h9] at hs9
  simp only [List.map_cons, tv_R, h9]
  rcases hd with ⟨hd, rfl⟩ | ⟨q, hq, hd, rfl⟩
  · exact lv_astore C.1 C.2.1 hd hl hi rfl (fun ls' h' => k p e s mth args below meth c A K0 ad0 mc ms H locs cells slots ad ls' C E P D S hc hs (g_ls_sub h' hs9))
  · exact lv_astore_n C.1 C.2.1 hd hq hl hi rfl (fun ls' h' => k p e s mth args below meth c A K0 ad0 mc ms H locs cells slots ad ls' C E P D S hc hs (g_ls_sub h' hs9))
theorem tz_iincG {i : Nat} {x a : Int} (hd : decode μ.2.1 pc = .ok (.iinc i a, 3)) (hn : pc + 3 = n) (hi : i < μ.2.2.1) (hx : ls[i]? = some (some (vI x))) (hp : ∀ u, 0 < i → ls[i - 1]? = some (some u) → u.1 ≠ 1) (k : gT l γ μ d cb sb R X K ρ m n (ls.set i (some (vI (x + a)))) st) : gT l γ μ d cb sb R X K ρ m pc ls st := by
  subst hn
  intro p e s mth args below meth c A K0 ad0 mc ms H locs cells slots ad lsr C E P D S hc hs hl
  obtain ⟨j, hj⟩ := List.getElem?_of_mem (g_ls_mem (γ := γ) (ad := ad) (q := (i, .int (Int32.ofInt x))) |>.mpr ⟨vI x, hx, rfl⟩)
  refine lv_iinc C.1 C.2.1 hd hl hj rfl hi rfl (fun ls' h' => k p e s mth args below meth c A K0 ad0 mc ms H locs cells slots ad ls' C E P D S hc hs (g_ls_sub h' ?_))
  rw [← Int32.ofInt_add]
  exact g_ls_set hp

theorem tz_iload0 {r : List (Option VV)} {x : Int} (hd : decode μ.2.1 pc = .ok (.iload_n 0, 1)) (hn : pc + 1 = n) (k : gT l γ μ d cb sb R X K ρ m n (some (vI x) :: r) (vI x :: st)) : gT l γ μ d cb sb R X K ρ m pc (some (vI x) :: r) st := tz_iloadG (i := 0) (Or.inr ⟨0, rfl, hd, hn⟩) rfl k
theorem tz_aload0 {r : List (Option VV)} {x : Int} (hd : decode μ.2.1 pc = .ok (.aload_n 0, 1)) (hn : pc + 1 = n) (h0 : x ≠ 0) (k : gT l γ μ d cb sb R X K ρ m n (some (vR x) :: r) (vR x :: st)) : gT l γ μ d cb sb R X K ρ m pc (some (vR x) :: r) st := tz_aloadG (i := 0) (Or.inr ⟨0, rfl, hd, hn⟩) rfl h0 k
theorem tz_lload0 {r : List (Option VV)} {x : Int} (hd : decode μ.2.1 pc = .ok (.lload_n 0, 1)) (hn : pc + 1 = n) (k : gT l γ μ d cb sb R X K ρ m n (some (vL x) :: r) (vL x :: st)) : gT l γ μ d cb sb R X K ρ m pc (some (vL x) :: r) st := tz_lloadG (i := 0) (Or.inr ⟨0, rfl, hd, hn⟩) rfl k
theorem tz_istore0 {old : Option VV} {r : List (Option VV)} {x : Int} (hd : decode μ.2.1 pc = .ok (.istore_n 0, 1)) (hn : pc + 1 = n) (hi : 0 < μ.2.2.1) (k : gT l γ μ d cb sb R X K ρ m n (some (vI x) :: r) st) : gT l γ μ d cb sb R X K ρ m pc (old :: r) (vI x :: st) := tz_istoreG (i := 0) (Or.inr ⟨0, rfl, hd, hn⟩) hi (fun _ h => absurd h (by decide)) k
theorem tz_astore0 {old : Option VV} {r : List (Option VV)} {x : Int} (hd : decode μ.2.1 pc = .ok (.astore_n 0, 1)) (hn : pc + 1 = n) (hi : 0 < μ.2.2.1) (h0 : x ≠ 0) (k : gT l γ μ d cb sb R X K ρ m n (some (vR x) :: r) st) : gT l γ μ d cb sb R X K ρ m pc (old :: r) (vR x :: st) := tz_astoreG (i := 0) (Or.inr ⟨0, rfl, hd, hn⟩) hi (fun _ h => absurd h (by decide)) h0 k
theorem tz_iinc0 {r : List (Option VV)} {x a : Int} (hd : decode μ.2.1 pc = .ok (.iinc 0 a, 3)) (hn : pc + 3 = n) (hi : 0 < μ.2.2.1) (k : gT l γ μ d cb sb R X K ρ m n (some (vI (x + a)) :: r) st) : gT l γ μ d cb sb R X K ρ m pc (some (vI x) :: r) st := tz_iincG (i := 0) hd hn hi rfl (fun _ h => absurd h (by decide)) k
theorem tz_iload1 {a0 : Option VV} {r : List (Option VV)} {x : Int} (hd : decode μ.2.1 pc = .ok (.iload_n 1, 1)) (hn : pc + 1 = n) (k : gT l γ μ d cb sb R X K ρ m n (a0 :: some (vI x) :: r) (vI x :: st)) : gT l γ μ d cb sb R X K ρ m pc (a0 :: some (vI x) :: r) st := tz_iloadG (i := 1) (Or.inr ⟨1, rfl, hd, hn⟩) rfl k
theorem tz_aload1 {a0 : Option VV} {r : List (Option VV)} {x : Int} (hd : decode μ.2.1 pc = .ok (.aload_n 1, 1)) (hn : pc + 1 = n) (h0 : x ≠ 0) (k : gT l γ μ d cb sb R X K ρ m n (a0 :: some (vR x) :: r) (vR x :: st)) : gT l γ μ d cb sb R X K ρ m pc (a0 :: some (vR x) :: r) st := tz_aloadG (i := 1) (Or.inr ⟨1, rfl, hd, hn⟩) rfl h0 k
theorem tz_lload1 {a0 : Option VV} {r : List (Option VV)} {x : Int} (hd : decode μ.2.1 pc = .ok (.lload_n 1, 1)) (hn : pc + 1 = n) (k : gT l γ μ d cb sb R X K ρ m n (a0 :: some (vL x) :: r) (vL x :: st)) : gT l γ μ d cb sb R X K ρ m pc (a0 :: some (vL x) :: r) st := tz_lloadG (i := 1) (Or.inr ⟨1, rfl, hd, hn⟩) rfl k
theorem tz_istore1 {a0 old : Option VV} {r : List (Option VV)} {x : Int} (hd : decode μ.2.1 pc = .ok (.istore_n 1, 1)) (hn : pc + 1 = n) (hi : 1 < μ.2.2.1) (hp : ∀ u, a0 = some u → u.1 ≠ 1) (k : gT l γ μ d cb sb R X K ρ m n (a0 :: some (vI x) :: r) st) : gT l γ μ d cb sb R X K ρ m pc (a0 :: old :: r) (vI x :: st) := tz_istoreG (i := 1) (Or.inr ⟨1, rfl, hd, hn⟩) hi (fun u _ h => hp u (by simpa using h)) k
theorem tz_astore1 {a0 old : Option VV} {r : List (Option VV)} {x : Int} (hd : decode μ.2.1 pc = .ok (.astore_n 1, 1)) (hn : pc + 1 = n) (hi : 1 < μ.2.2.1) (hp : ∀ u, a0 = some u → u.1 ≠ 1) (h0 : x ≠ 0) (k : gT l γ μ d cb sb R X K ρ m n (a0 :: some (vR x) :: r) st) : gT l γ μ d cb sb R X K ρ m pc (a0 :: old :: r) (vR x :: st) := tz_astoreG (i := 1) (Or.inr ⟨1, rfl, hd, hn⟩) hi (fun u _ h => hp u (by simpa using h)) h0 k
theorem tz_iinc1 {a0 : Option VV} {r : List (Option VV)} {x a : Int} (hd : decode μ.2.1 pc = .ok (.iinc 1 a, 3)) (hn : pc + 3 = n) (hi : 1 < μ.2.2.1) (hp : ∀ u, a0 = some u → u.1 ≠ 1) (k : gT l γ μ d cb sb R X K ρ m n (a0 :: some (vI (x + a)) :: r) st) : gT l γ μ d cb sb R X K ρ m pc (a0 :: some (vI x) :: r) st := tz_iincG (i := 1) hd hn hi rfl (fun u _ h => hp u (by simpa using h)) k
theorem tz_iload2 {a0 a1 : Option VV} {r : List (Option VV)} {x : Int} (hd : decode μ.2.1 pc = .ok (.iload_n 2, 1)) (hn : pc + 1 = n) (k : gT l γ μ d cb sb R X K ρ m n (a0 :: a1 :: some (vI x) :: r) (vI x :: st)) : gT l γ μ d cb sb R X K ρ m pc (a0 :: a1 :: some (vI x) :: r) st := tz_iloadG (i := 2) (Or.inr ⟨2, rfl, hd, hn⟩) rfl k
theorem tz_aload2 {a0 a1 : Option VV} {r : List (Option VV)} {x : Int} (hd : decode μ.2.1 pc = .ok (.aload_n 2, 1)) (hn : pc + 1 = n) (h0 : x ≠ 0) (k : gT l γ μ d cb sb R X K ρ m n (a0 :: a1 :: some (vR x) :: r) (vR x :: st)) : gT l γ μ d cb sb R X K ρ m pc (a0 :: a1 :: some (vR x) :: r) st := tz_aloadG (i := 2) (Or.inr ⟨2, rfl, hd, hn⟩) rfl h0 k
theorem tz_lload2 {a0 a1 : Option VV} {r : List (Option VV)} {x : Int} (hd : decode μ.2.1 pc = .ok (.lload_n 2, 1)) (hn : pc + 1 = n) (k : gT l γ μ d cb sb R X K ρ m n (a0 :: a1 :: some (vL x) :: r) (vL x :: st)) : gT l γ μ d cb sb R X K ρ m pc (a0 :: a1 :: some (vL x) :: r) st := tz_lloadG (i := 2) (Or.inr ⟨2, rfl, hd, hn⟩) rfl k
theorem tz_istore2 {a0 a1 old : Option VV} {r : List (Option VV)} {x : Int} (hd : decode μ.2.1 pc = .ok (.istore_n 2, 1)) (hn : pc + 1 = n) (hi : 2 < μ.2.2.1) (hp : ∀ u, a1 = some u → u.1 ≠ 1) (k : gT l γ μ d cb sb R X K ρ m n (a0 :: a1 :: some (vI x) :: r) st) : gT l γ μ d cb sb R X K ρ m pc (a0 :: a1 :: old :: r) (vI x :: st) := tz_istoreG (i := 2) (Or.inr ⟨2, rfl, hd, hn⟩) hi (fun u _ h => hp u (by simpa using h)) k
theorem tz_astore2 {a0 a1 old : Option VV} {r : List (Option VV)} {x : Int} (hd : decode μ.2.1 pc = .ok (.astore_n 2, 1)) (hn : pc + 1 = n) (hi : 2 < μ.2.2.1) (hp : ∀ u, a1 = some u → u.1 ≠ 1) (h0 : x ≠ 0) (k : gT l γ μ d cb sb R X K ρ m n (a0 :: a1 :: some (vR x) :: r) st) : gT l γ μ d cb sb R X K ρ m pc (a0 :: a1 :: old :: r) (vR x :: st) := tz_astoreG (i := 2) (Or.inr ⟨2, rfl, hd, hn⟩) hi (fun u _ h => hp u (by simpa using h)) h0 k
theorem tz_iinc2 {a0 a1 : Option VV} {r : List (Option VV)} {x a : Int} (hd : decode μ.2.1 pc = .ok (.iinc 2 a, 3)) (hn : pc + 3 = n) (hi : 2 < μ.2.2.1) (hp : ∀ u, a1 = some u → u.1 ≠ 1) (k : gT l γ μ d cb sb R X K ρ m n (a0 :: a1 :: some (vI (x + a)) :: r) st) : gT l γ μ d cb sb R X K ρ m pc (a0 :: a1 :: some (vI x) :: r) st := tz_iincG (i := 2) hd hn hi rfl (fun u _ h => hp u (by simpa using h)) k
theorem tz_iload3 {a0 a1 a2 : Option VV} {r : List (Option VV)} {x : Int} (hd : decode μ.2.1 pc = .ok (.iload_n 3, 1)) (hn : pc + 1 = n) (k : gT l γ μ d cb sb R X K ρ m n (a0 :: a1 :: a2 :: some (vI x) :: r) (vI x :: st)) : gT l γ μ d cb sb R X K ρ m pc (a0 :: a1 :: a2 :: some (vI x) :: r) st := tz_iloadG (i := 3) (Or.inr ⟨3, rfl, hd, hn⟩) rfl k
theorem tz_aload3 {a0 a1 a2 : Option VV} {r : List (Option VV)} {x : Int} (hd : decode μ.2.1 pc = .ok (.aload_n 3, 1)) (hn : pc + 1 = n) (h0 : x ≠ 0) (k : gT l γ μ d cb sb R X K ρ m n (a0 :: a1 :: a2 :: some (vR x) :: r) (vR x :: st)) : gT l γ μ d cb sb R X K ρ m pc (a0 :: a1 :: a2 :: some (vR x) :: r) st := tz_aloadG (i := 3) (Or.inr ⟨3, rfl, hd, hn⟩) rfl h0 k
theorem tz_lload3 {a0 a1 a2 : Option VV} {r : List (Option VV)} {x : Int} (hd : decode μ.2.1 pc = .ok (.lload_n 3, 1)) (hn : pc + 1 = n) (k : gT l γ μ d cb sb R X K ρ m n (a0 :: a1 :: a2 :: some (vL x) :: r) (vL x :: st)) : gT l γ μ d cb sb R X K ρ m pc (a0 :: a1 :: a2 :: some (vL x) :: r) st := tz_lloadG (i := 3) (Or.inr ⟨3, rfl, hd, hn⟩) rfl k
theorem tz_istore3 {a0 a1 a2 old : Option VV} {r : List (Option VV)} {x : Int} (hd : decode μ.2.1 pc = .ok (.istore_n 3, 1)) (hn : pc + 1 = n) (hi : 3 < μ.2.2.1) (hp : ∀ u, a2 = some u → u.1 ≠ 1) (k : gT l γ μ d cb sb R X K ρ m n (a0 :: a1 :: a2 :: some (vI x) :: r) st) : gT l γ μ d cb sb R X K ρ m pc (a0 :: a1 :: a2 :: old :: r) (vI x :: st) := tz_istoreG (i := 3) (Or.inr ⟨3, rfl, hd, hn⟩) hi (fun u _ h => hp u (by simpa using h)) k
theorem tz_astore3 {a0 a1 a2 old : Option VV} {r : List (Option VV)} {x : Int} (hd : decode μ.2.1 pc = .ok (.astore_n 3, 1)) (hn : pc + 1 = n) (hi : 3 < μ.2.2.1) (hp : ∀ u, a2 = some u → u.1 ≠ 1) (h0 : x ≠ 0) (k : gT l γ μ d cb sb R X K ρ m n (a0 :: a1 :: a2 :: some (vR x) :: r) st) : gT l γ μ d cb sb R X K ρ m pc (a0 :: a1 :: a2 :: old :: r) (vR x :: st) := tz_astoreG (i := 3) (Or.inr ⟨3, rfl, hd, hn⟩) hi (fun u _ h => hp u (by simpa using h)) h0 k
theorem tz_iinc3 {a0 a1 a2 : Option VV} {r : List (Option VV)} {x a : Int} (hd : decode μ.2.1 pc = .ok (.iinc 3 a, 3)) (hn : pc + 3 = n) (hi : 3 < μ.2.2.1) (hp : ∀ u, a2 = some u → u.1 ≠ 1) (k : gT l γ μ d cb sb R X K ρ m n (a0 :: a1 :: a2 :: some (vI (x + a)) :: r) st) : gT l γ μ d cb sb R X K ρ m pc (a0 :: a1 :: a2 :: some (vI x) :: r) st := tz_iincG (i := 3) hd hn hi rfl (fun u _ h => hp u (by simpa using h)) k
theorem tz_iload4 {a0 a1 a2 a3 : Option VV} {r : List (Option VV)} {x : Int} (hd : decode μ.2.1 pc = .ok (.iload 4, 2)) (hn : pc + 2 = n) (k : gT l γ μ d cb sb R X K ρ m n (a0 :: a1 :: a2 :: a3 :: some (vI x) :: r) (vI x :: st)) : gT l γ μ d cb sb R X K ρ m pc (a0 :: a1 :: a2 :: a3 :: some (vI x) :: r) st := tz_iloadG (i := 4) (Or.inl ⟨hd, hn⟩) rfl k
theorem tz_aload4 {a0 a1 a2 a3 : Option VV} {r : List (Option VV)} {x : Int} (hd : decode μ.2.1 pc = .ok (.aload 4, 2)) (hn : pc + 2 = n) (h0 : x ≠ 0) (k : gT l γ μ d cb sb R X K ρ m n (a0 :: a1 :: a2 :: a3 :: some (vR x) :: r) (vR x :: st)) : gT l γ μ d cb sb R X K ρ m pc (a0 :: a1 :: a2 :: a3 :: some (vR x) :: r) st := tz_aloadG (i := 4) (Or.inl ⟨hd, hn⟩) rfl h0 k
theorem tz_lload4 {a0 a1 a2 a3 : Option VV} {r : List (Option VV)} {x : Int} (hd : decode μ.2.1 pc = .ok (.lload 4, 2)) (hn : pc + 2 = n) (k : gT l γ μ d cb sb R X K ρ m n (a0 :: a1 :: a2 :: a3 :: some (vL x) :: r) (vL x :: st)) : gT l γ μ d cb sb R X K ρ m pc (a0 :: a1 :: a2 :: a3 :: some (vL x) :: r) st := tz_lloadG (i := 4) (Or.inl ⟨hd, hn⟩) rfl k
theorem tz_istore4 {a0 a1 a2 a3 old : Option VV} {r : List (Option VV)} {x : Int} (hd : decode μ.2.1 pc = .ok (.istore 4, 2)) (hn : pc + 2 = n) (hi : 4 < μ.2.2.1) (hp : ∀ u, a3 = some u → u.1 ≠ 1) (k : gT l γ μ d cb sb R X K ρ m n (a0 :: a1 :: a2 :: a3 :: some (vI x) :: r) st) : gT l γ μ d cb sb R X K ρ m pc (a0 :: a1 :: a2 :: a3 :: old :: r) (vI x :: st) := tz_istoreG (i := 4) (Or.inl ⟨hd, hn⟩) hi (fun u _ h => hp u (by simpa using h)) k
theorem tz_astore4 {a0 a1 a2 a3 old : Option VV} {r : List (Option VV)} {x : Int} (hd : decode μ.2.1 pc = .ok (.astore 4, 2)) (hn : pc + 2 = n) (hi : 4 < μ.2.2.1) (hp : ∀ u, a3 = some u → u.1 ≠ 1) (h0 : x ≠ 0) (k : gT l γ μ d cb sb R X K ρ m n (a0 :: a1 :: a2 :: a3 :: some (vR x) :: r) st) : gT l γ μ d cb sb R X K ρ m pc (a0 :: a1 :: a2 :: a3 :: old :: r) (vR x :: st) := tz_astoreG (i := 4) (Or.inl ⟨hd, hn⟩) hi (fun u _ h => hp u (by simpa using h)) h0 k
theorem tz_iinc4 {a0 a1 a2 a3 : Option VV} {r : List (Option VV)} {x a : Int} (hd : decode μ.2.1 pc = .ok (.iinc 4 a, 3)) (hn : pc + 3 = n) (hi : 4 < μ.2.2.1) (hp : ∀ u, a3 = some u → u.1 ≠ 1) (k : gT l γ μ d cb sb R X K ρ m n (a0 :: a1 :: a2 :: a3 :: some (vI (x + a)) :: r) st) : gT l γ μ d cb sb R X K ρ m pc (a0 :: a1 :: a2 :: a3 :: some (vI x) :: r) st := tz_iincG (i := 4) hd hn hi rfl (fun u _ h => hp u (by simpa using h)) k
theorem tz_iload5 {a0 a1 a2 a3 a4 : Option VV} {r : List (Option VV)} {x : Int} (hd : decode μ.2.1 pc = .ok (.iload 5, 2)) (hn : pc + 2 = n) (k : gT l γ μ d cb sb R X K ρ m n (a0 :: a1 :: a2 :: a3 :: a4 :: some (vI x) :: r) (vI x :: st)) : gT l γ μ d cb sb R X K ρ m pc (a0 :: a1 :: a2 :: a3 :: a4 :: some (vI x) :: r) st := tz_iloadG (i := 5) (Or.inl ⟨hd, hn⟩) rfl k
theorem tz_aload5 {a0 a1 a2 a3 a4 : Option VV} {r : List (Option VV)} {x : Int} (hd : decode μ.2.1 pc = .ok (.aload 5, 2)) (hn : pc + 2 = n) (h0 : x ≠ 0) (k : gT l γ μ d cb sb R X K ρ m n (a0 :: a1 :: a2 :: a3 :: a4 :: some (vR x) :: r) (vR x :: st)) : gT l γ μ d cb sb R X K ρ m pc (a0 :: a1 :: a2 :: a3 :: a4 :: some (vR x) :: r) st := tz_aloadG (i := 5) (Or.inl ⟨hd, hn⟩) rfl h0 k
theorem tz_lload5 {a0 a1 a2 a3 a4 : Option VV} {r : List (Option VV)} {x : Int} (hd : decode μ.2.1 pc = .ok (.lload 5, 2)) (hn : pc + 2 = n) (k : gT l γ μ d cb sb R X K ρ m n (a0 :: a1 :: a2 :: a3 :: a4 :: some (vL x) :: r) (vL x :: st)) : gT l γ μ d cb sb R X K ρ m pc (a0 :: a1 :: a2 :: a3 :: a4 :: some (vL x) :: r) st := tz_lloadG (i := 5) (Or.inl ⟨hd, hn⟩) rfl k
theorem tz_istore5 {a0 a1 a2 a3 a4 old : Option VV} {r : List (Option VV)} {x : Int} (hd : decode μ.2.1 pc = .ok (.istore 5, 2)) (hn : pc + 2 = n) (hi : 5 < μ.2.2.1) (hp : ∀ u, a4 = some u → u.1 ≠ 1) (k : gT l γ μ d cb sb R X K ρ m n (a0 :: a1 :: a2 :: a3 :: a4 :: some (vI x) :: r) st) : gT l γ μ d cb sb R X K ρ m pc (a0 :: a1 :: a2 :: a3 :: a4 :: old :: r) (vI x :: st) := tz_istoreG (i := 5) (Or.inl ⟨hd, hn⟩) hi (fun u _ h => hp u (by simpa using h)) k
theorem tz_astore5 {a0 a1 a2 a3 a4 old : Option VV} {r : List (Option VV)} {x : Int} (hd : decode μ.2.1 pc = .ok (.astore 5, 2)) (hn : pc + 2 = n) (hi : 5 < μ.2.2.1) (hp : ∀ u, a4 = some u → u.1 ≠ 1) (h0 : x ≠ 0) (k : gT l γ μ d cb sb R X K ρ m n (a0 :: a1 :: a2 :: a3 :: a4 :: some (vR x) :: r) st) : gT l γ μ d cb sb R X K ρ m pc (a0 :: a1 :: a2 :: a3 :: a4 :: old :: r) (vR x :: st) := tz_astoreG (i := 5) (Or.inl ⟨hd, hn⟩) hi (fun u _ h => hp u (by simpa using h)) h0 k
theorem tz_iinc5 {a0 a1 a2 a3 a4 : Option VV} {r : List (Option VV)} {x a : Int} (hd : decode μ.2.1 pc = .ok (.iinc 5 a, 3)) (hn : pc + 3 = n) (hi : 5 < μ.2.2.1) (hp : ∀ u, a4 = some u → u.1 ≠ 1) (k : gT l γ μ d cb sb R X K ρ m n (a0 :: a1 :: a2 :: a3 :: a4 :: some (vI (x + a)) :: r) st) : gT l γ μ d cb sb R X K ρ m pc (a0 :: a1 :: a2 :: a3 :: a4 :: some (vI x) :: r) st := tz_iincG (i := 5) hd hn hi rfl (fun u _ h => hp u (by simpa using h)) k
theorem tz_iload6 {a0 a1 a2 a3 a4 a5 : Option VV} {r : List (Option VV)} {x : Int} (hd : decode μ.2.1 pc = .ok (.iload 6, 2)) (hn : pc + 2 = n) (k : gT l γ μ d cb sb R X K ρ m n (a0 :: a1 :: a2 :: a3 :: a4 :: a5 :: some (vI x) :: r) (vI x :: st)) : gT l γ μ d cb sb R X K ρ m pc (a0 :: a1 :: a2 :: a3 :: a4 :: a5 :: some (vI x) :: r) st := tz_iloadG (i := 6) (Or.inl ⟨hd, hn⟩) rfl k
theorem tz_aload6 {a0 a1 a2 a3 a4 a5 : Option VV} {r : List (Option VV)} {x : Int} (hd : decode μ.2.1 pc = .ok (.aload 6, 2)) (hn : pc + 2 = n) (h0 : x ≠ 0) (k : gT l γ μ d cb sb R X K ρ m n (a0 :: a1 :: a2 :: a3 :: a4 :: a5 :: some (vR x) :: r) (vR x :: st)) : gT l γ μ d cb sb R X K ρ m pc (a0 :: a1 :: a2 :: a3 :: a4 :: a5 :: some (vR x) :: r) st := tz_aloadG (i := 6) (Or.inl ⟨hd, hn⟩) rfl h0 k
theorem tz_lload6 {a0 a1 a2 a3 a4 a5 : Option VV} {r : List (Option VV)} {x : Int} (hd : decode μ.2.1 pc = .ok (.lload 6, 2)) (hn : pc + 2 = n) (k : gT l γ μ d cb sb R X K ρ m n (a0 :: a1 :: a2 :: a3 :: a4 :: a5 :: some (vL x) :: r) (vL x :: st)) : gT l γ μ d cb sb R X K ρ m pc (a0 :: a1 :: a2 :: a3 :: a4 :: a5 :: some (vL x) :: r) st := tz_lloadG (i := 6) (Or.inl ⟨hd, hn⟩) rfl k
theorem tz_istore6 {a0 a1 a2 a3 a4 a5 old : Option VV} {r : List (Option VV)} {x : Int} (hd : decode μ.2.1 pc = .ok (.istore 6, 2)) (hn : pc + 2 = n) (hi : 6 < μ.2.2.1) (hp : ∀ u, a5 = some u → u.1 ≠ 1) (k : gT l γ μ d cb sb R X K ρ m n (a0 :: a1 :: a2 :: a3 :: a4 :: a5 :: some (vI x) :: r) st) : gT l γ μ d cb sb R X K ρ m pc (a0 :: a1 :: a2 :: a3 :: a4 :: a5 :: old :: r) (vI x :: st) := tz_istoreG (i := 6) (Or.inl ⟨hd, hn⟩) hi (fun u _ h => hp u (by simpa using h)) k
theorem tz_astore6 {a0 a1 a2 a3 a4 a5 old : Option VV} {r : List (Option VV)} {x : Int} (hd : decode μ.2.1 pc = .ok (.astore 6, 2)) (hn : pc + 2 = n) (hi : 6 < μ.2.2.1) (hp : ∀ u, a5 = some u → u.1 ≠ 1) (h0 : x ≠ 0) (k : gT l γ μ d cb sb R X K ρ m n (a0 :: a1 :: a2 :: a3 :: a4 :: a5 :: some (vR x) :: r) st) : gT l γ μ d cb sb R X K ρ m pc (a0 :: a1 :: a2 :: a3 :: a4 :: a5 :: old :: r) (vR x :: st) := tz_astoreG (i := 6) (Or.inl ⟨hd, hn⟩) hi (fun u _ h => hp u (by simpa using h)) h0 k
theorem tz_iinc6 {a0 a1 a2 a3 a4 a5 : Option VV} {r : List (Option VV)} {x a : Int} (hd : decode μ.2.1 pc = .ok (.iinc 6 a, 3)) (hn : pc + 3 = n) (hi : 6 < μ.2.2.1) (hp : ∀ u, a5 = some u → u.1 ≠ 1) (k : gT l γ μ d cb sb R X K ρ m n (a0 :: a1 :: a2 :: a3 :: a4 :: a5 :: some (vI (x + a)) :: r) st) : gT l γ μ d cb sb R X K ρ m pc (a0 :: a1 :: a2 :: a3 :: a4 :: a5 :: some (vI x) :: r) st := tz_iincG (i := 6) hd hn hi rfl (fun u _ h => hp u (by simpa using h)) k
theorem tz_iload7 {a0 a1 a2 a3 a4 a5 a6 : Option VV} {r : List (Option VV)} {x : Int} (hd : decode μ.2.1 pc = .ok (.iload 7, 2)) (hn : pc + 2 = n) (k : gT l γ μ d cb sb R X K ρ m n (a0 :: a1 :: a2 :: a3 :: a4 :: a5 :: a6 :: some (vI x) :: r) (vI x :: st)) : gT l γ μ d cb sb R X K ρ m pc (a0 :: a1 :: a2 :: a3 :: a4 :: a5 :: a6 :: some (vI x) :: r) st := tz_iloadG (i := 7) (Or.inl ⟨hd, hn⟩) rfl k
theorem tz_aload7 {a0 a1 a2 a3 a4 a5 a6 : Option VV} {r : List (Option VV)} {x : Int} (hd : decode μ.2.1 pc = .ok (.aload 7, 2)) (hn : pc + 2 = n) (h0 : x ≠ 0) (k : gT l γ μ d cb sb R X K ρ m n (a0 :: a1 :: a2 :: a3 :: a4 :: a5 :: a6 :: some (vR x) :: r) (vR x :: st)) : gT l γ μ d cb sb R X K ρ m pc (a0 :: a1 :: a2 :: a3 :: a4 :: a5 :: a6 :: some (vR x) :: r) st := tz_aloadG (i := 7) (Or.inl ⟨hd, hn⟩) rfl h0 k
theorem tz_lload7 {a0 a1 a2 a3 a4 a5 a6 : Option VV} {r : List (Option VV)} {x : Int} (hd : decode μ.2.1 pc = .ok (.lload 7, 2)) (hn : pc + 2 = n) (k : gT l γ μ d cb sb R X K ρ m n (a0 :: a1 :: a2 :: a3 :: a4 :: a5 :: a6 :: some (vL x) :: r) (vL x :: st)) : gT l γ μ d cb sb R X K ρ m pc (a0 :: a1 :: a2 :: a3 :: a4 :: a5 :: a6 :: some (vL x) :: r) st := tz_lloadG (i := 7) (Or.inl ⟨hd, hn⟩) rfl k
theorem tz_istore7 {a0 a1 a2 a3 a4 a5 a6 old : Option VV} {r : List (Option VV)} {x : Int} (hd : decode μ.2.1 pc = .ok (.istore 7, 2)) (hn : pc + 2 = n) (hi : 7 < μ.2.2.1) (hp : ∀ u, a6 = some u → u.1 ≠ 1) (k : gT l γ μ d cb sb R X K ρ m n (a0 :: a1 :: a2 :: a3 :: a4 :: a5 :: a6 :: some (vI x) :: r) st) : gT l γ μ d cb sb R X K ρ m pc (a0 :: a1 :: a2 :: a3 :: a4 :: a5 :: a6 :: old :: r) (vI x :: st) := tz_istoreG (i := 7) (Or.inl ⟨hd, hn⟩) hi (fun u _ h => hp u (by simpa using h)) k
theorem tz_astore7 {a0 a1 a2 a3 a4 a5 a6 old : Option VV} {r : List (Option VV)} {x : Int} (hd : decode μ.2.1 pc = .ok (.astore 7, 2)) (hn : pc + 2 = n) (hi : 7 < μ.2.2.1) (hp : ∀ u, a6 = some u → u.1 ≠ 1) (h0 : x ≠ 0) (k : gT l γ μ d cb sb R X K ρ m n (a0 :: a1 :: a2 :: a3 :: a4 :: a5 :: a6 :: some (vR x) :: r) st) : gT l γ μ d cb sb R X K ρ m pc (a0 :: a1 :: a2 :: a3 :: a4 :: a5 :: a6 :: old :: r) (vR x :: st) := tz_astoreG (i := 7) (Or.inl ⟨hd, hn⟩) hi (fun u _ h => hp u (by simpa using h)) h0 k
theorem tz_iinc7 {a0 a1 a2 a3 a4 a5 a6 : Option VV} {r : List (Option VV)} {x a : Int} (hd : decode μ.2.1 pc = .ok (.iinc 7 a, 3)) (hn : pc + 3 = n) (hi : 7 < μ.2.2.1) (hp : ∀ u, a6 = some u → u.1 ≠ 1) (k : gT l γ μ d cb sb R X K ρ m n (a0 :: a1 :: a2 :: a3 :: a4 :: a5 :: a6 :: some (vI (x + a)) :: r) st) : gT l γ μ d cb sb R X K ρ m pc (a0 :: a1 :: a2 :: a3 :: a4 :: a5 :: a6 :: some (vI x) :: r) st := tz_iincG (i := 7) hd hn hi rfl (fun u _ h => hp u (by simpa using h)) k
theorem tz_iload8 {a0 a1 a2 a3 a4 a5 a6 a7 : Option VV} {r : List (Option VV)} {x : Int} (hd : decode μ.2.1 pc = .ok (.iload 8, 2)) (hn : pc + 2 = n) (k : gT l γ μ d cb sb R X K ρ m n (a0 :: a1 :: a2 :: a3 :: a4 :: a5 :: a6 :: a7 :: some (vI x) :: r) (vI x :: st)) : gT l γ μ d cb sb R X K ρ m pc (a0 :: a1 :: a2 :: a3 :: a4 :: a5 :: a6 :: a7 :: some (vI x) :: r) st := tz_iloadG (i := 8) (Or.inl ⟨hd, hn⟩) rfl k
theorem tz_aload8 {a0 a1 a2 a3 a4 a5 a6 a7 : Option VV} {r : List (Option VV)} {x : Int} (hd : decode μ.2.1 pc = .ok (.aload 8, 2)) (hn : pc + 2 = n) (h0 : x ≠ 0) (k : gT l γ μ d cb sb R X K ρ m n (a0 :: a1 :: a2 :: a3 :: a4 :: a5 :: a6 :: a7 :: some (vR x) :: r) (vR x :: st)) : gT l γ μ d cb sb R X K ρ m pc (a0 :: a1 :: a2 :: a3 :: a4 :: a5 :: a6 :: a7 :: some (vR x) :: r) st := tz_aloadG (i := 8) (Or.inl ⟨hd, hn⟩) rfl h0 k
theorem tz_lload8 {a0 a1 a2 a3 a4 a5 a6 a7 : Option VV} {r : List (Option VV)} {x : Int} (hd : decode μ.2.1 pc = .ok (.lload 8, 2)) (hn : pc + 2 = n) (k : gT l γ μ d cb sb R X K ρ m n (a0 :: a1 :: a2 :: a3 :: a4 :: a5 :: a6 :: a7 :: some (vL x) :: r) (vL x :: st)) : gT l γ μ d cb sb R X K ρ m pc (a0 :: a1 :: a2 :: a3 :: a4 :: a5 :: a6 :: a7 :: some (vL x) :: r) st := tz_lloadG (i := 8) (Or.inl ⟨hd, hn⟩) rfl k
theorem tz_istore8 {a0 a1 a2 a3 a4 a5 a6 a7 old : Option VV} {r : List (Option VV)} {x : Int} (hd : decode μ.2.1 pc = .ok (.istore 8, 2)) (hn : pc + 2 = n) (hi : 8 < μ.2.2.1) (hp : ∀ u, a7 = some u → u.1 ≠ 1) (k : gT l γ μ d cb sb R X K ρ m n (a0 :: a1 :: a2 :: a3 :: a4 :: a5 :: a6 :: a7 :: some (vI x) :: r) st) : gT l γ μ d cb sb R X K ρ m pc (a0 :: a1 :: a2 :: a3 :: a4 :: a5 :: a6 :: a7 :: old :: r) (vI x :: st) := tz_istoreG (i := 8) (Or.inl ⟨hd, hn⟩) hi (fun u _ h => hp u (by simpa using h)) k
theorem tz_astore8 {a0 a1 a2 a3 a4 a5 a6 a7 old : Option VV} {r : List (Option VV)} {x : Int} (hd : decode μ.2.1 pc = .ok (.astore 8, 2)) (hn : pc + 2 = n) (hi : 8 < μ.2.2.1) (hp : ∀ u, a7 = some u → u.1 ≠ 1) (h0 : x ≠ 0) (k : gT l γ μ d cb sb R X K ρ m n (a0 :: a1 :: a2 :: a3 :: a4 :: a5 :: a6 :: a7 :: some (vR x) :: r) st) : gT l γ μ d cb sb R X K ρ m pc (a0 :: a1 :: a2 :: a3 :: a4 :: a5 :: a6 :: a7 :: old :: r) (vR x :: st) := tz_astoreG (i := 8) (Or.inl ⟨hd, hn⟩) hi (fun u _ h => hp u (by simpa using h)) h0 k
theorem tz_iinc8 {a0 a1 a2 a3 a4 a5 a6 a7 : Option VV} {r : List (Option VV)} {x a : Int} (hd : decode μ.2.1 pc = .ok (.iinc 8 a, 3)) (hn : pc + 3 = n) (hi : 8 < μ.2.2.1) (hp : ∀ u, a7 = some u → u.1 ≠ 1) (k : gT l γ μ d cb sb R X K ρ m n (a0 :: a1 :: a2 :: a3 :: a4 :: a5 :: a6 :: a7 :: some (vI (x + a)) :: r) st) : gT l γ μ d cb sb R X K ρ m pc (a0 :: a1 :: a2 :: a3 :: a4 :: a5 :: a6 :: a7 :: some (vI x) :: r) st := tz_iincG (i := 8) hd hn hi rfl (fun u _ h => hp u (by simpa using h)) k
theorem tz_iload9 {a0 a1 a2 a3 a4 a5 a6 a7 a8 : Option VV} {r : List (Option VV)} {x : Int} (hd : decode μ.2.1 pc = .ok (.iload 9, 2)) (hn : pc + 2 = n) (k : gT l γ μ d cb sb R X K ρ m n (a0 :: a1 :: a2 :: a3 :: a4 :: a5 :: a6 :: a7 :: a8 :: some (vI x) :: r) (vI x :: st)) : gT l γ μ d cb sb R X K ρ m pc (a0 :: a1 :: a2 :: a3 :: a4 :: a5 :: a6 :: a7 :: a8 :: some (vI x) :: r) st := tz_iloadG (i := 9) (Or.inl ⟨hd, hn⟩) rfl k
theorem tz_aload9 {a0 a1 a2 a3 a4 a5 a6 a7 a8 : Option VV} {r : List (Option VV)} {x : Int} (hd : decode μ.2.1 pc = .ok (.aload 9, 2)) (hn : pc + 2 = n) (h0 : x ≠ 0) (k : gT l γ μ d cb sb R X K ρ m n (a0 :: a1 :: a2 :: a3 :: a4 :: a5 :: a6 :: a7 :: a8 :: some (vR x) :: r) (vR x :: st)) : gT l γ μ d cb sb R X K ρ m pc (a0 :: a1 :: a2 :: a3 :: a4 :: a5 :: a6 :: a7 :: a8 :: some (vR x) :: r) st := tz_aloadG (i := 9) (Or.inl ⟨hd, hn⟩) rfl h0 k
theorem tz_lload9 {a0 a1 a2 a3 a4 a5 a6 a7 a8 : Option VV} {r : List (Option VV)} {x : Int} (hd : decode μ.2.1 pc = .ok (.lload 9, 2)) (hn : pc + 2 = n) (k : gT l γ μ d cb sb R X K ρ m n (a0 :: a1 :: a2 :: a3 :: a4 :: a5 :: a6 :: a7 :: a8 :: some (vL x) :: r) (vL x :: st)) : gT l γ μ d cb sb R X K ρ m pc (a0 :: a1 :: a2 :: a3 :: a4 :: a5 :: a6 :: a7 :: a8 :: some (vL x) :: r) st := tz_lloadG (i := 9) (Or.inl ⟨hd, hn⟩) rfl k
theorem tz_istore9 {a0 a1 a2 a3 a4 a5 a6 a7 a8 old : Option VV} {r : List (Option VV)} {x : Int} (hd : decode μ.2.1 pc = .ok (.istore 9, 2)) (hn : pc + 2 = n) (hi : 9 < μ.2.2.1) (hp : ∀ u, a8 = some u → u.1 ≠ 1) (k : gT l γ μ d cb sb R X K ρ m n (a0 :: a1 :: a2 :: a3 :: a4 :: a5 :: a6 :: a7 :: a8 :: some (vI x) :: r) st) : gT l γ μ d cb sb R X K ρ m pc (a0 :: a1 :: a2 :: a3 :: a4 :: a5 :: a6 :: a7 :: a8 :: old :: r) (vI x :: st) := tz_istoreG (i := 9) (Or.inl ⟨hd, hn⟩) hi (fun u _ h => hp u (by simpa using h)) k
theorem tz_astore9 {a0 a1 a2 a3 a4 a5 a6 a7 a8 old : Option VV} {r : List (Option VV)} {x : Int} (hd : decode μ.2.1 pc = .ok (.astore 9, 2)) (hn : pc + 2 = n) (hi : 9 < μ.2.2.1) (hp : ∀ u, a8 = some u → u.1 ≠ 1) (h0 : x ≠ 0) (k : gT l γ μ d cb sb R X K ρ m n (a0 :: a1 :: a2 :: a3 :: a4 :: a5 :: a6 :: a7 :: a8 :: some (vR x) :: r) st) : gT l γ μ d cb sb R X K ρ m pc (a0 :: a1 :: a2 :: a3 :: a4 :: a5 :: a6 :: a7 :: a8 :: old :: r) (vR x :: st) := tz_astoreG (i := 9) (Or.inl ⟨hd, hn⟩) hi (fun u _ h => hp u (by simpa using h)) h0 k
theorem tz_iinc9 {a0 a1 a2 a3 a4 a5 a6 a7 a8 : Option VV} {r : List (Option VV)} {x a : Int} (hd : decode μ.2.1 pc = .ok (.iinc 9 a, 3)) (hn : pc + 3 = n) (hi : 9 < μ.2.2.1) (hp : ∀ u, a8 = some u → u.1 ≠ 1) (k : gT l γ μ d cb sb R X K ρ m n (a0 :: a1 :: a2 :: a3 :: a4 :: a5 :: a6 :: a7 :: a8 :: some (vI (x + a)) :: r) st) : gT l γ μ d cb sb R X K ρ m pc (a0 :: a1 :: a2 :: a3 :: a4 :: a5 :: a6 :: a7 :: a8 :: some (vI x) :: r) st := tz_iincG (i := 9) hd hn hi rfl (fun u _ h => hp u (by simpa using h)) k
theorem tz_iload10 {a0 a1 a2 a3 a4 a5 a6 a7 a8 a9 : Option VV} {r : List (Option VV)} {x : Int} (hd : decode μ.2.1 pc = .ok (.iload 10, 2)) (hn : pc + 2 = n) (k : gT l γ μ d cb sb R X K ρ m n (a0 :: a1 :: a2 :: a3 :: a4 :: a5 :: a6 :: a7 :: a8 :: a9 :: some (vI x) :: r) (vI x :: st)) : gT l γ μ d cb sb R X K ρ m pc (a0 :: a1 :: a2 :: a3 :: a4 :: a5 :: a6 :: a7 :: a8 :: a9 :: some (vI x) :: r) st := tz_iloadG (i := 10) (Or.inl ⟨hd, hn⟩) rfl k
theorem tz_aload10 {a0 a1 a2 a3 a4 a5 a6 a7 a8 a9 : Option VV} {r : List (Option VV)} {x : Int} (hd : decode μ.2.1 pc = .ok (.aload 10, 2)) (hn : pc + 2 = n) (h0 : x ≠ 0) (k : gT l γ μ d cb sb R X K ρ m n (a0 :: a1 :: a2 :: a3 :: a4 :: a5 :: a6 :: a7 :: a8 :: a9 :: some (vR x) :: r) (vR x :: st)) : gT l γ μ d cb sb R X K ρ m pc (a0 :: a1 :: a2 :: a3 :: a4 :: a5 :: a6 :: a7 :: a8 :: a9 :: some (vR x) :: r) st := tz_aloadG (i := 10) (Or.inl ⟨hd, hn⟩) rfl h0 k
theorem tz_lload10 {a0 a1 a2 a3 a4 a5 a6 a7 a8 a9 : Option VV} {r : List (Option VV)} {x : Int} (hd : decode μ.2.1 pc = .ok (.lload 10, 2)) (hn : pc + 2 = n) (k : gT l γ μ d cb sb R X K ρ m n (a0 :: a1 :: a2 :: a3 :: a4 :: a5 :: a6 :: a7 :: a8 :: a9 :: some (vL x) :: r) (vL x :: st)) : gT l γ μ d cb sb R X K ρ m pc (a0 :: a1 :: a2 :: a3 :: a4 :: a5 :: a6 :: a7 :: a8 :: a9 :: some (vL x) :: r) st := tz_lloadG (i := 10) (Or.inl ⟨hd, hn⟩) rfl k
theorem tz_istore10 {a0 a1 a2 a3 a4 a5 a6 a7 a8 a9 old : Option VV} {r : List (Option VV)} {x : Int} (hd : decode μ.2.1 pc = .ok (.istore 10, 2)) (hn : pc + 2 = n) (hi : 10 < μ.2.2.1) (hp : ∀ u, a9 = some u → u.1 ≠ 1) (k : gT l γ μ d cb sb R X K ρ m n (a0 :: a1 :: a2 :: a3 :: a4 :: a5 :: a6 :: a7 :: a8 :: a9 :: some (vI x) :: r) st) : gT l γ μ d cb sb R X K ρ m pc (a0 :: a1 :: a2 :: a3 :: a4 :: a5 :: a6 :: a7 :: a8 :: a9 :: old :: r) (vI x :: st) := tz_istoreG (i := 10) (Or.inl ⟨hd, hn⟩) hi (fun u _ h => hp u (by simpa using h)) k
theorem tz_astore10 {a0 a1 a2 a3 a4 a5 a6 a7 a8 a9 old : Option VV} {r : List (Option VV)} {x : Int} (hd : decode μ.2.1 pc = .ok (.astore 10, 2)) (hn : pc + 2 = n) (hi : 10 < μ.2.2.1) (hp : ∀ u, a9 = some u → u.1 ≠ 1) (h0 : x ≠ 0) (k : gT l γ μ d cb sb R X K ρ m n (a0 :: a1 :: a2 :: a3 :: a4 :: a5 :: a6 :: a7 :: a8 :: a9 :: some (vR x) :: r) st) : gT l γ μ d cb sb R X K ρ m pc (a0 :: a1 :: a2 :: a3 :: a4 :: a5 :: a6 :: a7 :: a8 :: a9 :: old :: r) (vR x :: st) := tz_astoreG (i := 10) (Or.inl ⟨hd, hn⟩) hi (fun u _ h => hp u (by simpa using h)) h0 k
theorem tz_iinc10 {a0 a1 a2 a3 a4 a5 a6 a7 a8 a9 : Option VV} {r : List (Option VV)} {x a : Int} (hd : decode μ.2.1 pc = .ok (.iinc 10 a, 3)) (hn : pc + 3 = n) (hi : 10 < μ.2.2.1) (hp : ∀ u, a9 = some u → u.1 ≠ 1) (k : gT l γ μ d cb sb R X K ρ m n (a0 :: a1 :: a2 :: a3 :: a4 :: a5 :: a6 :: a7 :: a8 :: a9 :: some (vI (x + a)) :: r) st) : gT l γ μ d cb sb R X K ρ m pc (a0 :: a1 :: a2 :: a3 :: a4 :: a5 :: a6 :: a7 :: a8 :: a9 :: some (vI x) :: r) st := tz_iincG (i := 10) hd hn hi rfl (fun u _ h => hp u (by simpa using h)) k
theorem tz_iload11 {a0 a1 a2 a3 a4 a5 a6 a7 a8 a9 a10 : Option VV} {r : List (Option VV)} {x : Int} (hd : decode μ.2.1 pc = .ok (.iload 11, 2)) (hn : pc + 2 = n) (k : gT l γ μ d cb sb R X K ρ m n (a0 :: a1 :: a2 :: a3 :: a4 :: a5 :: a6 :: a7 :: a8 :: a9 :: a10 :: some (vI x) :: r) (vI x :: st)) : gT l γ μ d cb sb R X K ρ m pc (a0 :: a1 :: a2 :: a3 :: a4 :: a5 :: a6 :: a7 :: a8 :: a9 :: a10 :: some (vI x) :: r) st := tz_iloadG (i := 11) (Or.inl ⟨hd, hn⟩) rfl k
theorem tz_aload11 {a0 a1 a2 a3 a4 a5 a6 a7 a8 a9 a10 : Option VV} {r : List (Option VV)} {x : Int} (hd : decode μ.2.1 pc = .ok (.aload 11, 2)) (hn : pc + 2 = n) (h0 : x ≠ 0) (k : gT l γ μ d cb sb R X K ρ m n (a0 :: a1 :: a2 :: a3 :: a4 :: a5 :: a6 :: a7 :: a8 :: a9 :: a10 :: some (vR x) :: r) (vR x :: st)) : gT l γ μ d cb sb R X K ρ m pc (a0 :: a1 :: a2 :: a3 :: a4 :: a5 :: a6 :: a7 :: a8 :: a9 :: a10 :: some (vR x) :: r) st := tz_aloadG (i := 11) (Or.inl ⟨hd, hn⟩) rfl h0 k
theorem tz_lload11 {a0 a1 a2 a3 a4 a5 a6 a7 a8 a9 a10 : Option VV} {r : List (Option VV)} {x : Int} (hd : decode μ.2.1 pc = .ok (.lload 11, 2)) (hn : pc + 2 = n) (k : gT l γ μ d cb sb R X K ρ m n (a0 :: a1 :: a2 :: a3 :: a4 :: a5 :: a6 :: a7 :: a8 :: a9 :: a10 :: some (vL x) :: r) (vL x :: st)) : gT l γ μ d cb sb R X K ρ m pc (a0 :: a1 :: a2 :: a3 :: a4 :: a5 :: a6 :: a7 :: a8 :: a9 :: a10 :: some (vL x) :: r) st := tz_lloadG (i := 11) (Or.inl ⟨hd, hn⟩) rfl k
theorem tz_istore11 {a0 a1 a2 a3 a4 a5 a6 a7 a8 a9 a10 old : Option VV} {r : List (Option VV)} {x : Int} (hd : decode μ.2.1 pc = .ok (.istore 11, 2)) (hn : pc + 2 = n) (hi : 11 < μ.2.2.1) (hp : ∀ u, a10 = some u → u.1 ≠ 1) (k : gT l γ μ d cb sb R X K ρ m n (a0 :: a1 :: a2 :: a3 :: a4 :: a5 :: a6 :: a7 :: a8 :: a9 :: a10 :: some (vI x) :: r) st) : gT l γ μ d cb sb R X K ρ m pc (a0 :: a1 :: a2 :: a3 :: a4 :: a5 :: a6 :: a7 :: a8 :: a9 :: a10 :: old :: r) (vI x :: st) := tz_istoreG (i := 11) (Or.inl ⟨hd, hn⟩) hi (fun u _ h => hp u (by simpa using h)) k
theorem tz_astore11 {a0 a1 a2 a3 a4 a5 a6 a7 a8 a9 a10 old : Option VV} {r : List (Option VV)} {x : Int} (hd : decode μ.2.1 pc = .ok (.astore 11, 2)) (hn : pc + 2 = n) (hi : 11 < μ.2.2.1) (hp : ∀ u, a10 = some u → u.1 ≠ 1) (h0 : x ≠ 0) (k : gT l γ μ d cb sb R X K ρ m n (a0 :: a1 :: a2 :: a3 :: a4 :: a5 :: a6 :: a7 :: a8 :: a9 :: a10 :: some (vR x) :: r) st) : gT l γ μ d cb sb R X K ρ m pc (a0 :: a1 :: a2 :: a3 :: a4 :: a5 :: a6 :: a7 :: a8 :: a9 :: a10 :: old :: r) (vR x :: st) := tz_astoreG (i := 11) (Or.inl ⟨hd, hn⟩) hi (fun u _ h => hp u (by simpa using h)) h0 k
theorem tz_iinc11 {a0 a1 a2 a3 a4 a5 a6 a7 a8 a9 a10 : Option VV} {r : List (Option VV)} {x a : Int} (hd : decode μ.2.1 pc = .ok (.iinc 11 a, 3)) (hn : pc + 3 = n) (hi : 11 < μ.2.2.1) (hp : ∀ u, a10 = some u → u.1 ≠ 1) (k : gT l γ μ d cb sb R X K ρ m n (a0 :: a1 :: a2 :: a3 :: a4 :: a5 :: a6 :: a7 :: a8 :: a9 :: a10 :: some (vI (x + a)) :: r) st) : gT l γ μ d cb sb R X K ρ m pc (a0 :: a1 :: a2 :: a3 :: a4 :: a5 :: a6 :: a7 :: a8 :: a9 :: a10 :: some (vI x) :: r) st := tz_iincG (i := 11) hd hn hi rfl (fun u _ h => hp u (by simpa using h)) k
theorem tz_iload12 {a0 a1 a2 a3 a4 a5 a6 a7 a8 a9 a10 a11 : Option VV} {r : List (Option VV)} {x : Int} (hd : decode μ.2.1 pc = .ok (.iload 12, 2)) (hn : pc + 2 = n) (k : gT l γ μ d cb sb R X K ρ m n (a0 :: a1 :: a2 :: a3 :: a4 :: a5 :: a6 :: a7 :: a8 :: a9 :: a10 :: a11 :: some (vI x) :: r) (vI x :: st)) : gT l γ μ d cb sb R X K ρ m pc (a0 :: a1 :: a2 :: a3 :: a4 :: a5 :: a6 :: a7 :: a8 :: a9 :: a10 :: a11 :: some (vI x) :: r) st := tz_iloadG (i := 12) (Or.inl ⟨hd, hn⟩) rfl k
theorem tz_aload12 {a0 a1 a2 a3 a4 a5 a6 a7 a8 a9 a10 a11 : Option VV} {r : List (Option VV)} {x : Int} (hd : decode μ.2.1 pc = .ok (.aload 12, 2)) (hn : pc + 2 = n) (h0 : x ≠ 0) (k : gT l γ μ d cb sb R X K ρ m n (a0 :: a1 :: a2 :: a3 :: a4 :: a5 :: a6 :: a7 :: a8 :: a9 :: a10 :: a11 :: some (vR x) :: r) (vR x :: st)) : gT l γ μ d cb sb R X K ρ m pc (a0 :: a1 :: a2 :: a3 :: a4 :: a5 :: a6 :: a7 :: a8 :: a9 :: a10 :: a11 :: some (vR x) :: r) st := tz_aloadG (i := 12) (Or.inl ⟨hd, hn⟩) rfl h0 k
theorem tz_lload12 {a0 a1 a2 a3 a4 a5 a6 a7 a8 a9 a10 a11 : Option VV} {r : List (Option VV)} {x : Int} (hd : decode μ.2.1 pc = .ok (.lload 12, 2)) (hn : pc + 2 = n) (k : gT l γ μ d cb sb R X K ρ m n (a0 :: a1 :: a2 :: a3 :: a4 :: a5 :: a6 :: a7 :: a8 :: a9 :: a10 :: a11 :: some (vL x) :: r) (vL x :: st)) : gT l γ μ d cb sb R X K ρ m pc (a0 :: a1 :: a2 :: a3 :: a4 :: a5 :: a6 :: a7 :: a8 :: a9 :: a10 :: a11 :: some (vL x) :: r) st := tz_lloadG (i := 12) (Or.inl ⟨hd, hn⟩) rfl k
theorem tz_istore12 {a0 a1 a2 a3 a4 a5 a6 a7 a8 a9 a10 a11 old : Option VV} {r : List (Option VV)} {x : Int} (hd : decode μ.2.1 pc = .ok (.istore 12, 2)) (hn : pc + 2 = n) (hi : 12 < μ.2.2.1) (hp : ∀ u, a11 = some u → u.1 ≠ 1) (k : gT l γ μ d cb sb R X K ρ m n (a0 :: a1 :: a2 :: a3 :: a4 :: a5 :: a6 :: a7 :: a8 :: a9 :: a10 :: a11 :: some (vI x) :: r) st) : gT l γ μ d cb sb R X K ρ m pc (a0 :: a1 :: a2 :: a3 :: a4 :: a5 :: a6 :: a7 :: a8 :: a9 :: a10 :: a11 :: old :: r) (vI x :: st) := tz_istoreG (i := 12) (Or.inl ⟨hd, hn⟩) hi (fun u _ h => hp u (by simpa using h)) k
theorem tz_astore12 {a0 a1 a2 a3 a4 a5 a6 a7 a8 a9 a10 a11 old : Option VV} {r : List (Option VV)} {x : Int} (hd : decode μ.2.1 pc = .ok (.astore 12, 2)) (hn : pc + 2 = n) (hi : 12 < μ.2.2.1) (hp : ∀ u, a11 = some u → u.1 ≠ 1) (h0 : x ≠ 0) (k : gT l γ μ d cb sb R X K ρ m n (a0 :: a1 :: a2 :: a3 :: a4 :: a5 :: a6 :: a7 :: a8 :: a9 :: a10 :: a11 :: some (vR x) :: r) st) : gT l γ μ d cb sb R X K ρ m pc (a0 :: a1 :: a2 :: a3 :: a4 :: a5 :: a6 :: a7 :: a8 :: a9 :: a10 :: a11 :: old :: r) (vR x :: st) := tz_astoreG (i := 12) (Or.inl ⟨hd, hn⟩) hi (fun u _ h => hp u (by simpa using h)) h0 k
theorem tz_iinc12 {a0 a1 a2 a3 a4 a5 a6 a7 a8 a9 a10 a11 : Option VV} {r : List (Option VV)} {x a : Int} (hd : decode μ.2.1 pc = .ok (.iinc 12 a, 3)) (hn : pc + 3 = n) (hi : 12 < μ.2.2.1) (hp : ∀ u, a11 = some u → u.1 ≠ 1) (k : gT l γ μ d cb sb R X K ρ m n (a0 :: a1 :: a2 :: a3 :: a4 :: a5 :: a6 :: a7 :: a8 :: a9 :: a10 :: a11 :: some (vI (x + a)) :: r) st) : gT l γ μ d cb sb R X K ρ m pc (a0 :: a1 :: a2 :: a3 :: a4 :: a5 :: a6 :: a7 :: a8 :: a9 :: a10 :: a11 :: some (vI x) :: r) st := tz_iincG (i := 12) hd hn hi rfl (fun u _ h => hp u (by simpa using h)) k
theorem tz_iload13 {a0 a1 a2 a3 a4 a5 a6 a7 a8 a9 a10 a11 a12 : Option VV} {r : List (Option VV)} {x : Int} (hd : decode μ.2.1 pc = .ok (.iload 13, 2)) (hn : pc + 2 = n) (k : gT l γ μ d cb sb R X K ρ m n (a0 :: a1 :: a2 :: a3 :: a4 :: a5 :: a6 :: a7 :: a8 :: a9 :: a10 :: a11 :: a12 :: some (vI x) :: r) (vI x :: st)) : gT l γ μ d cb sb R X K ρ m pc (a0 :: a1 :: a2 :: a3 :: a4 :: a5 :: a6 :: a7 :: a8 :: a9 :: a10 :: a11 :: a12 :: some (vI x) :: r) st := tz_iloadG (i := 13) (Or.inl ⟨hd, hn⟩) rfl k
theorem tz_aload13 {a0 a1 a2 a3 a4 a5 a6 a7 a8 a9 a10 a11 a12 : Option VV} {r : List (Option VV)} {x : Int} (hd : decode μ.2.1 pc = .ok (.aload 13, 2)) (hn : pc + 2 = n) (h0 : x ≠ 0) (k : gT l γ μ d cb sb R X K ρ m n (a0 :: a1 :: a2 :: a3 :: a4 :: a5 :: a6 :: a7 :: a8 :: a9 :: a10 :: a11 :: a12 :: some (vR x) :: r) (vR x :: st)) : gT l γ μ d cb sb R X K ρ m pc (a0 :: a1 :: a2 :: a3 :: a4 :: a5 :: a6 :: a7 :: a8 :: a9 :: a10 :: a11 :: a12 :: some (vR x) :: r) st := tz_aloadG (i := 13) (Or.inl ⟨hd, hn⟩) rfl h0 k
theorem tz_lload13 {a0 a1 a2 a3 a4 a5 a6 a7 a8 a9 a10 a11 a12 : Option VV} {r : List (Option VV)} {x : Int} (hd : decode μ.2.1 pc = .ok (.lload 13, 2)) (hn : pc + 2 = n) (k : gT l γ μ d cb sb R X K ρ m n (a0 :: a1 :: a2 :: a3 :: a4 :: a5 :: a6 :: a7 :: a8 :: a9 :: a10 :: a11 :: a12 :: some (vL x) :: r) (vL x :: st)) : gT l γ μ d cb sb R X K ρ m pc (a0 :: a1 :: a2 :: a3 :: a4 :: a5 :: a6 :: a7 :: a8 :: a9 :: a10 :: a11 :: a12 :: some (vL x) :: r) st := tz_lloadG (i := 13) (Or.inl ⟨hd, hn⟩) rfl k
theorem tz_istore13 {a0 a1 a2 a3 a4 a5 a6 a7 a8 a9 a10 a11 a12 old : Option VV} {r : List (Option VV)} {x : Int} (hd : decode μ.2.1 pc = .ok (.istore 13, 2)) (hn : pc + 2 = n) (hi : 13 < μ.2.2.1) (hp : ∀ u, a12 = some u → u.1 ≠ 1) (k : gT l γ μ d cb sb R X K ρ m n (a0 :: a1 :: a2 :: a3 :: a4 :: a5 :: a6 :: a7 :: a8 :: a9 :: a10 :: a11 :: a12 :: some (vI x) :: r) st) : gT l γ μ d cb sb R X K ρ m pc (a0 :: a1 :: a2 :: a3 :: a4 :: a5 :: a6 :: a7 :: a8 :: a9 :: a10 :: a11 :: a12 :: old :: r) (vI x :: st) := tz_istoreG (i := 13) (Or.inl ⟨hd, hn⟩) hi (fun u _ h => hp u (by simpa using h)) k
theorem tz_astore13 {a0 a1 a2 a3 a4 a5 a6 a7 a8 a9 a10 a11 a12 old : Option VV} {r : List (Option VV)} {x : Int} (hd : decode μ.2.1 pc = .ok (.astore 13, 2)) (hn : pc + 2 = n) (hi : 13 < μ.2.2.1) (hp : ∀ u, a12 = some u → u.1 ≠ 1) (h0 : x ≠ 0) (k : gT l γ μ d cb sb R X K ρ m n (a0 :: a1 :: a2 :: a3 :: a4 :: a5 :: a6 :: a7 :: a8 :: a9 :: a10 :: a11 :: a12 :: some (vR x) :: r) st) : gT l γ μ d cb sb R X K ρ m pc (a0 :: a1 :: a2 :: a3 :: a4 :: a5 :: a6 :: a7 :: a8 :: a9 :: a10 :: a11 :: a12 :: old :: r) (vR x :: st) := tz_astoreG (i := 13) (Or.inl ⟨hd, hn⟩) hi (fun u _ h => hp u (by simpa using h)) h0 k
theorem tz_iinc13 {a0 a1 a2 a3 a4 a5 a6 a7 a8 a9 a10 a11 a12 : Option VV} {r : List (Option VV)} {x a : Int} (hd : decode μ.2.1 pc = .ok (.iinc 13 a, 3)) (hn : pc + 3 = n) (hi : 13 < μ.2.2.1) (hp : ∀ u, a12 = some u → u.1 ≠ 1) (k : gT l γ μ d cb sb R X K ρ m n (a0 :: a1 :: a2 :: a3 :: a4 :: a5 :: a6 :: a7 :: a8 :: a9 :: a10 :: a11 :: a12 :: some (vI (x + a)) :: r) st) : gT l γ μ d cb sb R X K ρ m pc (a0 :: a1 :: a2 :: a3 :: a4 :: a5 :: a6 :: a7 :: a8 :: a9 :: a10 :: a11 :: a12 :: some (vI x) :: r) st := tz_iincG (i := 13) hd hn hi rfl (fun u _ h => hp u (by simpa using h)) k
theorem tz_iload14 {a0 a1 a2 a3 a4 a5 a6 a7 a8 a9 a10 a11 a12 a13 : Option VV} {r : List (Option VV)} {x : Int} (hd : decode μ.2.1 pc = .ok (.iload 14, 2)) (hn : pc + 2 = n) (k : gT l γ μ d cb sb R X K ρ m n (a0 :: a1 :: a2 :: a3 :: a4 :: a5 :: a6 :: a7 :: a8 :: a9 :: a10 :: a11 :: a12 :: a13 :: some (vI x) :: r) (vI x :: st)) : gT l γ μ d cb sb R X K ρ m pc (a0 :: a1 :: a2 :: a3 :: a4 :: a5 :: a6 :: a7 :: a8 :: a9 :: a10 :: a11 :: a12 :: a13 :: some (vI x) :: r) st := tz_iloadG (i := 14) (Or.inl ⟨hd, hn⟩) rfl k
theorem tz_aload14 {a0 a1 a2 a3 a4 a5 a6 a7 a8 a9 a10 a11 a12 a13 : Option VV} {r : List (Option VV)} {x : Int} (hd : decode μ.2.1 pc = .ok (.aload 14, 2)) (hn : pc + 2 = n) (h0 : x ≠ 0) (k : gT l γ μ d cb sb R X K ρ m n (a0 :: a1 :: a2 :: a3 :: a4 :: a5 :: a6 :: a7 :: a8 :: a9 :: a10 :: a11 :: a12 :: a13 :: some (vR x) :: r) (vR x :: st)) : gT l γ μ d cb sb R X K ρ m pc (a0 :: a1 :: a2 :: a3 :: a4 :: a5 :: a6 :: a7 :: a8 :: a9 :: a10 :: a11 :: a12 :: a13 :: some (vR x) :: r) st := tz_aloadG (i := 14) (Or.inl ⟨hd, hn⟩) rfl h0 k
theorem tz_lload14 {a0 a1 a2 a3 a4 a5 a6 a7 a8 a9 a10 a11 a12 a13 : Option VV} {r : List (Option VV)} {x : Int} (hd : decode μ.2.1 pc = .ok (.lload 14, 2)) (hn : pc + 2 = n) (k : gT l γ μ d cb sb R X K ρ m n (a0 :: a1 :: a2 :: a3 :: a4 :: a5 :: a6 :: a7 :: a8 :: a9 :: a10 :: a11 :: a12 :: a13 :: some (vL x) :: r) (vL x :: st)) : gT l γ μ d cb sb R X K ρ m pc (a0 :: a1 :: a2 :: a3 :: a4 :: a5 :: a6 :: a7 :: a8 :: a9 :: a10 :: a11 :: a12 :: a13 :: some (vL x) :: r) st := tz_lloadG (i := 14) (Or.inl ⟨hd, hn⟩) rfl k
theorem tz_istore14 {a0 a1 a2 a3 a4 a5 a6 a7 a8 a9 a10 a11 a12 a13 old : Option VV} {r : List (Option VV)} {x : Int} (hd : decode μ.2.1 pc = .ok (.istore 14, 2)) (hn : pc + 2 = n) (hi : 14 < μ.2.2.1) (hp : ∀ u, a13 = some u → u.1 ≠ 1) (k : gT l γ μ d cb sb R X K ρ m n (a0 :: a1 :: a2 :: a3 :: a4 :: a5 :: a6 :: a7 :: a8 :: a9 :: a10 :: a11 :: a12 :: a13 :: some (vI x) :: r) st) : gT l γ μ d cb sb R X K ρ m pc (a0 :: a1 :: a2 :: a3 :: a4 :: a5 :: a6 :: a7 :: a8 :: a9 :: a10 :: a11 :: a12 :: a13 :: old :: r) (vI x :: st) := tz_istoreG (i := 14) (Or.inl ⟨hd, hn⟩) hi (fun u _ h => hp u (by simpa using h)) k
theorem tz_astore14 {a0 a1 a2 a3 a4 a5 a6 a7 a8 a9 a10 a11 a12 a13 old : Option VV} {r : List (Option VV)} {x : Int} (hd : decode μ.2.1 pc = .ok (.astore 14, 2)) (hn : pc + 2 = n) (hi : 14 < μ.2.2.1) (hp : ∀ u, a13 = some u → u.1 ≠ 1) (h0 : x ≠ 0) (k : gT l γ μ d cb sb R X K ρ m n (a0 :: a1 :: a2 :: a3 :: a4 :: a5 :: a6 :: a7 :: a8 :: a9 :: a10 :: a11 :: a12 :: a13 :: some (vR x) :: r) st) : gT l γ μ d cb sb R X K ρ m pc (a0 :: a1 :: a2 :: a3 :: a4 :: a5 :: a6 :: a7 :: a8 :: a9 :: a10 :: a11 :: a12 :: a13 :: old :: r) (vR x :: st) := tz_astoreG (i := 14) (Or.inl ⟨hd, hn⟩) hi (fun u _ h => hp u (by simpa using h)) h0 k
theorem tz_iinc14 {a0 a1 a2 a3 a4 a5 a6 a7 a8 a9 a10 a11 a12 a13 : Option VV} {r : List (Option VV)} {x a : Int} (hd : decode μ.2.1 pc = .ok (.iinc 14 a, 3)) (hn : pc + 3 = n) (hi : 14 < μ.2.2.1) (hp : ∀ u, a13 = some u → u.1 ≠ 1) (k : gT l γ μ d cb sb R X K ρ m n (a0 :: a1 :: a2 :: a3 :: a4 :: a5 :: a6 :: a7 :: a8 :: a9 :: a10 :: a11 :: a12 :: a13 :: some (vI (x + a)) :: r) st) : gT l γ μ d cb sb R X K ρ m pc (a0 :: a1 :: a2 :: a3 :: a4 :: a5 :: a6 :: a7 :: a8 :: a9 :: a10 :: a11 :: a12 :: a13 :: some (vI x) :: r) st := tz_iincG (i := 14) hd hn hi rfl (fun u _ h => hp u (by simpa using h)) k
theorem tz_iload15 {a0 a1 a2 a3 a4 a5 a6 a7 a8 a9 a10 a11 a12 a13 a14 : Option VV} {r : List (Option VV)} {x : Int} (hd : decode μ.2.1 pc = .ok (.iload 15, 2)) (hn : pc + 2 = n) (k : gT l γ μ d cb sb R X K ρ m n (a0 :: a1 :: a2 :: a3 :: a4 :: a5 :: a6 :: a7 :: a8 :: a9 :: a10 :: a11 :: a12 :: a13 :: a14 :: some (vI x) :: r) (vI x :: st)) : gT l γ μ d cb sb R X K ρ m pc (a0 :: a1 :: a2 :: a3 :: a4 :: a5 :: a6 :: a7 :: a8 :: a9 :: a10 :: a11 :: a12 :: a13 :: a14 :: some (vI x) :: r) st := tz_iloadG (i := 15) (Or.inl ⟨hd, hn⟩) rfl k
theorem tz_aload15 {a0 a1 a2 a3 a4 a5 a6 a7 a8 a9 a10 a11 a12 a13 a14 : Option VV} {r : List (Option VV)} {x : Int} (hd : decode μ.2.1 pc = .ok (.aload 15, 2)) (hn : pc + 2 = n) (h0 : x ≠ 0) (k : gT l γ μ d cb sb R X K ρ m n (a0 :: a1 :: a2 :: a3 :: a4 :: a5 :: a6 :: a7 :: a8 :: a9 :: a10 :: a11 :: a12 :: a13 :: a14 :: some (vR x) :: r) (vR x :: st)) : gT l γ μ d cb sb R X K ρ m pc (a0 :: a1 :: a2 :: a3 :: a4 :: a5 :: a6 :: a7 :: a8 :: a9 :: a10 :: a11 :: a12 :: a13 :: a14 :: some (vR x) :: r) st := tz_aloadG (i := 15) (Or.inl ⟨hd, hn⟩) rfl h0 k
theorem tz_lload15 {a0 a1 a2 a3 a4 a5 a6 a7 a8 a9 a10 a11 a12 a13 a14 : Option VV} {r : List (Option VV)} {x : Int} (hd : decode μ.2.1 pc = .ok (.lload 15, 2)) (hn : pc + 2 = n) (k : gT l γ μ d cb sb R X K ρ m n (a0 :: a1 :: a2 :: a3 :: a4 :: a5 :: a6 :: a7 :: a8 :: a9 :: a10 :: a11 :: a12 :: a13 :: a14 :: some (vL x) :: r) (vL x :: st)) : gT l γ μ d cb sb R X K ρ m pc (a0 :: a1 :: a2 :: a3 :: a4 :: a5 :: a6 :: a7 :: a8 :: a9 :: a10 :: a11 :: a12 :: a13 :: a14 :: some (vL x) :: r) st := tz_lloadG (i := 15) (Or.inl ⟨hd, hn⟩) rfl k
theorem tz_istore15 {a0 a1 a2 a3 a4 a5 a6 a7 a8 a9 a10 a11 a12 a13 a14 old : Option VV} {r : List (Option VV)} {x : Int} (hd : decode μ.2.1 pc = .ok (.istore 15, 2)) (hn : pc + 2 = n) (hi : 15 < μ.2.2.1) (hp : ∀ u, a14 = some u → u.1 ≠ 1) (k : gT l γ μ d cb sb R X K ρ m n (a0 :: a1 :: a2 :: a3 :: a4 :: a5 :: a6 :: a7 :: a8 :: a9 :: a10 :: a11 :: a12 :: a13 :: a14 :: some (vI x) :: r) st) : gT l γ μ d cb sb R X K ρ m pc (a0 :: a1 :: a2 :: a3 :: a4 :: a5 :: a6 :: a7 :: a8 :: a9 :: a10 :: a11 :: a12 :: a13 :: a14 :: old :: r) (vI x :: st) := tz_istoreG (i := 15) (Or.inl ⟨hd, hn⟩) hi (fun u _ h => hp u (by simpa using h)) k
theorem tz_astore15 {a0 a1 a2 a3 a4 a5 a6 a7 a8 a9 a10 a11 a12 a13 a14 old : Option VV} {r : List (Option VV)} {x : Int} (hd : decode μ.2.1 pc = .ok (.astore 15, 2)) (hn : pc + 2 = n) (hi : 15 < μ.2.2.1) (hp : ∀ u, a14 = some u → u.1 ≠ 1) (h0 : x ≠ 0) (k : gT l γ μ d cb sb R X K ρ m n (a0 :: a1 :: a2 :: a3 :: a4 :: a5 :: a6 :: a7 :: a8 :: a9 :: a10 :: a11 :: a12 :: a13 :: a14 :: some (vR x) :: r) st) : gT l γ μ d cb sb R X K ρ m pc (a0 :: a1 :: a2 :: a3 :: a4 :: a5 :: a6 :: a7 :: a8 :: a9 :: a10 :: a11 :: a12 :: a13 :: a14 :: old :: r) (vR x :: st) := tz_astoreG (i := 15) (Or.inl ⟨hd, hn⟩) hi (fun u _ h => hp u (by simpa using h)) h0 k
theorem tz_iinc15 {a0 a1 a2 a3 a4 a5 a6 a7 a8 a9 a10 a11 a12 a13 a14 : Option VV} {r : List (Option VV)} {x a : Int} (hd : decode μ.2.1 pc = .ok (.iinc 15 a, 3)) (hn : pc + 3 = n) (hi : 15 < μ.2.2.1) (hp : ∀ u, a14 = some u → u.1 ≠ 1) (k : gT l γ μ d cb sb R X K ρ m n (a0 :: a1 :: a2 :: a3 :: a4 :: a5 :: a6 :: a7 :: a8 :: a9 :: a10 :: a11 :: a12 :: a13 :: a14 :: some (vI (x + a)) :: r) st) : gT l γ μ d cb sb R X K ρ m pc (a0 :: a1 :: a2 :: a3 :: a4 :: a5 :: a6 :: a7 :: a8 :: a9 :: a10 :: a11 :: a12 :: a13 :: a14 :: some (vI x) :: r) st := tz_iincG (i := 15) hd hn hi rfl (fun u _ h => hp u (by simpa using h)) k
end
