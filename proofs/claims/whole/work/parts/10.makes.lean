/-! Throws, catches and makings in the logic. -/
section
variable {l : Launch} {γ : Gh} {μ : MD} {d cb sb : Nat} {R : RR} {X : XX} {K : List Kd} {ρ m : Mm} {pc n : Nat} {ls : List (Option VV)} {st : List VV}
def g_TW (own : String) (ic : Nat) (cls Y9 : String) (i1 : Nat) (b1 : ByteArray) (r : List String) (ik : Nat) : Prop :=
  Bundle.fit cls = true ∧ Bundle.fit Y9 = true ∧ (∀ n ∈ r, Bundle.fit n = true) ∧ decode b1 0 = .ok (.aload_n 0, 1) ∧ decode b1 1 = .ok (.aload_n 1, 1) ∧ decode b1 2 = .ok (.invokespecial i1, 3) ∧ decode b1 5 = .ok (.return_, 1) ∧ r.length ≤ 1 ∧
  Cond.classLink own ik cls ∈ g_TS ∧ Cond.initialized cls ∈ g_TS ∧ ∀ w ∈ (ny_at own ic cls Y9 i1 b1 r).filter vx_no, w ∈ g_TS ∨ w ∈ g_NS
theorem g_NSon {w : Cond} (h : w ∈ g_NS) : w.onTables = true := by
  have := (List.mem_filter.mp h).2
  cases w <;> first | rfl | cases this
theorem tz_throw {cls Y9 text : String} {ic i1 ik is i9 w9 : Nat} {b1 : ByteArray} {r : List String} (tw : g_TW μ.1.cls ic cls Y9 i1 b1 r ik) (hst9 : g_st[i9]? = some (μ.1.cls, is, text))
    (d0 : decode μ.2.1 pc = .ok (.new ik, 3)) (d3 : decode μ.2.1 (pc + 3) = .ok (.dup, 1)) (d4 : (decode μ.2.1 (pc + 4) = .ok (.ldc is, 2) ∧ w9 = 2) ∨ (decode μ.2.1 (pc + 4) = .ok (.ldc_w is, 3) ∧ w9 = 3)) (d6 : decode μ.2.1 (pc + 4 + w9) = .ok (.invokespecial ic, 3)) (d9 : decode μ.2.1 (pc + 4 + w9 + 3) = .ok (.athrow, 1))
    (hh : μ.2.2.2.2 = []) (hb : 1 ≤ cb ∧ 6 ≤ sb ∧ 6 ≤ d) (hcat : g_cat st ≤ 8) (h : X cls K ρ m) : gT l γ μ d cb sb R X K ρ m pc ls st := by
  intro p e s mth args below meth c A K0 ad0 mc ms H locs cells slots ad lsr C E P D S hc hs hl
  obtain ⟨t1, t2, t3, t4, t5, t6, t7, t8, t9, t10, t11⟩ := tw
  obtain ⟨c1, c2, c3, c4, c5, c6, c7, c8, c9, c10, c11, c12⟩ := C
  have hcl := g_cat_le (γ := γ) (ad := ad) st
  refine ny_throw c1 c2 c12 c6 t1 t2 t3 t4 t5 t6 t7 (c9 _ t9) (c9 _ t10) (c11.2.2.2.2.2.2.1.1 i9 _ hst9) (fun w hw => ?_) (fun w hw => ?_) c11.2.2.1 c11.2.2.2.1 S (by rw [c4]; exact hl.1) d0 d3 d4 d6 d9 (fun x hx => ?_) ?_ ?_ ?_ ?_ c5 (fun t ha hz hq => ?_) S.2.2 (by omega) (by omega)
  · rcases t11 w hw with h9 | h9
    · exact c9 w h9
    · exact (c11.2.1 w h9).use (g_NSon h9)
  · unfold vx_ot
    have hg : ∀ w ∈ g_TS, (w.onTables || goodWord w) = true := fun w h => by rw [g_goodTS w h, Bool.or_true]
    rcases List.mem_cons.mp hw with rfl | hw
    · exact hg _ t9
    · rcases List.mem_cons.mp hw with rfl | hw
      · exact hg _ t10
      · rcases t11 w hw with h9 | h9
        · exact hg _ h9
        · rw [g_NSon h9, Bool.true_or]
  · rw [c8, hh] at hx
    cases hx
  · show r.length + 1 + 3 < d
    omega
  · show _ + (13 * (r.length + 1 + 1) + 43) ≤ 60 * d
    omega
  · show cells + 1 ≤ mc
    omega
  · show slots + 6 ≤ ms
    omega
  · refine ⟨⟨K, ρ, m, ad, h, E, P.kept fun k q hk => hq _ (P k q hk).lt, D⟩, Nat.le_trans S.1 hz, fun q h1 h2 => ?_⟩
    rw [hq q (Nat.lt_of_lt_of_le h1 S.1), S.2.1 q h1 h2]
/-- caught: the handler's first instruction stores the exception, which is forgotten -/
theorem tx_catch {E9 name : String} {i n9 : Nat} (pre : List ExceptionTableEntry) (x : ExceptionTableEntry) (suf : List ExceptionTableEntry) (hsplit : tableOf μ.2.2.2.2 = pre ++ x :: suf)
    (hpass : ∀ z ∈ pre, covers z pc = false ∨ (z.catchType ≠ 0 ∧ Cond.classLink μ.1.cls z.catchType "java/util/NoSuchElementException" ∈ g_TS ∧ E9 = "java/lang/IllegalArgumentException")) (hx : covers x pc = true) (h0 : x.catchType ≠ 0)
    (hlink : Cond.classLink μ.1.cls x.catchType name ∈ g_TS) (hcast : Cond.castable E9 name ∈ g_NS)
    (hd : (decode μ.2.1 x.handlerPc = .ok (.astore i, 2) ∧ x.handlerPc + 2 = n9) ∨ ∃ q : Fin 4, q.val = i ∧ decode μ.2.1 x.handlerPc = .ok (.astore_n q, 1) ∧ x.handlerPc + 1 = n9) (hi : i < μ.2.2.1) (hp : ∀ u, 0 < i → ls[i - 1]? = some (some u) → u.1 ≠ 1)
    (k : gT l γ μ d cb sb R X K ρ m n9 (ls.set i none) []) : gX l γ μ d cb sb R X K ρ m pc ls E9 := by
  intro p e s mth args below meth c A K0 ad0 mc ms H locs cells slots ad lsr rest q ce C E P D S hc hs hl h1 h2 h3
  have hcx := C
  obtain ⟨c1, c2, c3, c4, c5, c6, c7, c8, c9, c10, c11, c12⟩ := C
  refine vx_catch c6 pre x suf (by rw [c8]; exact hsplit) (fun z hz => ?_) hx h0 (c9 _ hlink) ((c11.2.1 _ hcast).use (g_NSon hcast)) h1 h2 h3 ?_
  · rcases hpass z hz with h | ⟨ha, hb, rfl⟩
    · exact Or.inl h
    · exact Or.inr ⟨ha, _, c9 _ hb, c11.2.2.2.2.2.2.2⟩
  · have hsub : ∀ q9 ∈ g_ls γ ad (ls.set i none), q9 ∈ (i, Value.ref q) :: (g_ls γ ad ls).filter (fun q => !(q.1 == i) && !(q.1 + 1 == i && q.2.category == 2)) := by
      intro q9 hq9
      obtain ⟨u, hu, h8⟩ := g_ls_mem.mp hq9
      by_cases hi9 : q9.1 = i
      · rw [hi9] at hu
        have hlt : i < ls.length := by
          have := (List.getElem?_eq_some_iff.mp hu).1
          simpa using this
        rw [List.getElem?_set_self hlt] at hu
        cases hu
      · rw [List.getElem?_set_ne (fun h => hi9 h.symm)] at hu
        refine List.mem_cons_of_mem _ (List.mem_filter.mpr ⟨g_ls_mem.mpr ⟨u, hu, h8⟩, ?_⟩)
        simp only [Bool.and_eq_true, Bool.not_eq_true', beq_eq_false_iff_ne, ne_eq, hi9, not_false_eq_true, true_and, Bool.and_eq_false_imp, beq_iff_eq]
        intro h7
        have := hp u (by omega) (by rw [← h7]; simpa using hu)
        rw [h8, tv_cat this]
        decide
    rcases hd with ⟨hd, rfl⟩ | ⟨q4, hq4, hd, rfl⟩
    · exact lv_astore c1 c2 hd hl hi rfl (fun ls' h' => k p e s mth args below meth c A K0 ad0 mc ms H locs cells slots ad ls' hcx E P D S hc hs (g_ls_sub h' hsub))
    · exact lv_astore_n c1 c2 hd hq4 hl hi rfl (fun ls' h' => k p e s mth args below meth c A K0 ad0 mc ms H locs cells slots ad ls' hcx E P D S hc hs (g_ls_sub h' hsub))
theorem g_ft_le (c k : Nat) : g_ft c k ≤ 2 := by
  unfold g_ft
  split
  · split
    · next t _ => cases t <;> simp [g_tag]
    · exact Nat.zero_le _
  · exact Nat.zero_le _
/-- a new cell of zeros -/
def nw (m : Mm) (r : Int) : Mm := fun a j => if a = r then 0 else m a j
def g_up (ad : Nat → Nat) (r q : Nat) : Nat → Nat := fun i => if i = r then q else ad i
def g_ok (K : List Kd) (v : VV) : Prop := v.1 < 2 ∨ v.2 ≤ (K.length : Int)
theorem tv_up {ad : Nat → Nat} {q : Nat} {v : VV} (h : g_ok K v) : tv γ (g_up ad (K.length + 1) q) v = tv γ ad v := by
  obtain ⟨t, x⟩ := v
  match t, h with
  | 0, _ => rfl
  | 1, _ => rfl
  | t + 2, h =>
    have hx : x ≤ (K.length : Int) := by
      rcases h with h | h
      · exact absurd h (by simp)
      · exact h
    show rv γ (g_up ad (K.length + 1) q) x = rv γ ad x
    unfold rv g_up
    split
    · rfl
    · split
      · rfl
      · rw [if_neg (by omega)]
theorem g_ce_up {ad : Nat → Nat} {q : Nat} {ρ' m' : Mm} {r : Int} (hr1 : ρ' r = ρ r) (hr : m' r = m r) (hm : ∀ k, ρ r k ≤ (K.length : Int)) (kd : Kd) : g_ce γ (g_up ad (K.length + 1) q) ρ' m' r kd = g_ce γ ad ρ m r kd := by
  rw [g_ce_off (ρ := ρ) (m := m) hr1 hr]
  cases kd with
  | inl c =>
    unfold g_ce g_fs
    simp only
    congr 2
    refine List.map_congr_left fun k _ => ?_
    by_cases h2 : g_ft c k = 2
    · rw [h2]
      exact tv_up (Or.inr (hm k))
    · match h9 : g_ft c k with
      | 0 => rfl
      | 1 => rfl
      | 2 => exact absurd h9 h2
      | t + 3 => exact absurd (g_ft_le c k) (by omega)
  | inr x =>
    obtain ⟨t, n9⟩ := x
    match t with
    | 0 => rfl
    | 1 => rfl
    | t + 2 => rfl
theorem g_ws_push {ad : Nat → Nat} {q : Nat} {kd : Kd} (hm : ∀ a k, ρ a k ≤ (K.length : Int)) : g_ws γ ad K ρ m ++ [(q, g_ce γ (g_up ad (K.length + 1) q) (nw ρ ((K.length : Int) + 1)) (nw m ((K.length : Int) + 1)) ((K.length : Int) + 1) kd)] = g_ws γ (g_up ad (K.length + 1) q) (K ++ [kd]) (nw ρ ((K.length : Int) + 1)) (nw m ((K.length : Int) + 1)) := by
  have hlen : (g_ws γ ad K ρ m).length = K.length := by simp [g_ws]
  refine List.ext_getElem? fun i => ?_
  rw [g_ws_get, List.getElem?_append, List.getElem?_append, hlen]
  by_cases h : i < K.length
  · rw [if_pos h, if_pos h, g_ws_get, List.getElem?_eq_getElem h, Option.map_some, Option.map_some]
    have e1 : g_up ad (K.length + 1) q (i + 1) = ad (i + 1) := if_neg (by omega)
    have e2 : ∀ z : Mm, nw z ((K.length : Int) + 1) ((i : Int) + 1) = z ((i : Int) + 1) := fun z => funext fun j => if_neg (by omega)
    rw [e1, g_ce_up (e2 ρ) (e2 m) (hm _)]
  · rw [if_neg h, if_neg h]
    by_cases h2 : i = K.length
    · subst h2
      simp [g_up]
    · rw [List.getElem?_eq_none (by simp; omega), List.getElem?_eq_none (by simp; omega)]
      rfl
theorem g_ls_up {ad : Nat → Nat} {q : Nat} {lsr : Array Slot} {nL : Nat} (h : ∀ (i : Nat) (v : VV), ls[i]? = some (some v) → g_ok K v) (hl : lv_has lsr nL (g_ls γ ad ls)) : lv_has lsr nL (g_ls γ (g_up ad (K.length + 1) q) ls) :=
  g_ls_sub hl fun z hz => by
    obtain ⟨v, hv, h2⟩ := g_ls_mem.mp hz
    exact g_ls_mem.mpr ⟨v, hv, by rw [h2, tv_up (h _ _ hv)]⟩
theorem g_st_up {ad : Nat → Nat} {q : Nat} (h : ∀ v ∈ st, g_ok K v) : st.map (tv γ (g_up ad (K.length + 1) q)) = st.map (tv γ ad) := List.map_congr_left fun v hv => tv_up (h v hv)
theorem g_Ex.push {K0 : List Kd} {ad0 ad : Nat → Nat} {q : Nat} {kd : Kd} (E : g_Ex K0 ad0 K ad) : g_Ex K0 ad0 (K ++ [kd]) (g_up ad (K.length + 1) q) := by
  obtain ⟨⟨K1, rfl⟩, h2⟩ := E
  refine ⟨⟨K1 ++ [kd], by simp⟩, fun i hi => ?_⟩
  simp only [List.length_append, List.length_cons, List.length_nil] at hi
  have : ¬ i = (K0 ++ K1).length + 1 := by simp only [List.length_append]; omega
  rw [g_up, if_neg this, h2 i (by simp only [List.length_append]; omega)]
def g_NW (own : String) (idx ci : Nat) : Prop := ∃ (C : String) (T : u_T) (N : Nat), vwCl[ci]? = some (C, T, N) ∧ Cond.classLink own idx C ∈ g_TS ∧ Cond.instantiable C N ∈ g_TS ∧ Cond.initialized C ∈ g_TS ∧ ∀ k, k < N → parseFieldDescriptor (T k).2.2.1 ≠ some .float ∧ parseFieldDescriptor (T k).2.2.1 ≠ some .double
theorem tz_new {idx ci cb' sb' : Nat} (nw9 : g_NW μ.1.cls idx ci) (hm : ∀ a k, ρ a k ≤ (K.length : Int)) (hls : ∀ (i : Nat) (v : VV), ls[i]? = some (some v) → g_ok K v) (hst : ∀ v ∈ st, g_ok K v) (hd : decode μ.2.1 pc = .ok (.new idx, 3)) (hn : pc + 3 = n) (hb : cb' + 1 ≤ cb ∧ sb' + g_nF ci ≤ sb)
    (k : gT l γ μ d cb' sb' R X (K ++ [.inl ci]) (nw ρ ((K.length : Int) + 1)) (nw m ((K.length : Int) + 1)) n ls (vR ((K.length : Int) + 1) :: st)) : gT l γ μ d cb sb R X K ρ m pc ls st := by
  subst hn
  intro p e s mth args below meth c A K0 ad0 mc ms H locs cells slots ad lsr C E P D S hc hs hl
  obtain ⟨Cn, T, N, hcl, w1, w2, w3, w4⟩ := nw9
  obtain ⟨hin, ty0, hty, hnm⟩ := g_co hcl
  have hcx := C
  obtain ⟨c1, c2, c3, c4, c5, c6, c7, c8, c9, c10, c11, c12⟩ := C
  rw [g_nF_of hcl] at hb
  refine va_new (ci := ci) (fs := g_fs γ ad (fun _ _ => 0) (fun _ _ => 0) ((K.length : Int) + 1) ci) c1 c2 c9 hin ty0 hty c6 (c9 _ w1) (c9 _ w2) (c9 _ w3) c11.1 P D S c10 hcl (fun j hj => ?_) (show cells + 1 ≤ mc by omega) (show slots + N ≤ ms by omega) hd (fun q H1 P1 D1 S1 => ?_)
  · rw [vp_V, List.getD_eq_getElem?_getD, g_fs_get (by rw [g_nF_of hcl]; exact hj), g_ft_of hcl (hty j hj)]
    have z6 : g_rd (fun _ _ => 0) (fun _ _ => 0) (g_tag (ty0 j)) ((K.length : Int) + 1) j = 0 := by unfold g_rd; split <;> rfl
    rw [z6]
    have h8 := hty j hj
    have h7 := w4 j hj
    generalize ty0 j = t9 at h8 ⊢
    cases t9 <;> first | rfl | exact absurd h8 h7.1 | exact absurd h8 h7.2
  · have hfs : g_fs γ ad (fun _ _ => 0) (fun _ _ => 0) ((K.length : Int) + 1) ci = g_fs γ (g_up ad (K.length + 1) q) (nw ρ ((K.length : Int) + 1)) (nw m ((K.length : Int) + 1)) ((K.length : Int) + 1) ci := by
      unfold g_fs
      refine List.map_congr_left fun k _ => ?_
      have z9 : ∀ z : Mm, nw z ((K.length : Int) + 1) ((K.length : Int) + 1) k = 0 := fun z => if_pos rfl
      have z8 : g_rd (nw ρ ((K.length : Int) + 1)) (nw m ((K.length : Int) + 1)) (g_ft ci k) ((K.length : Int) + 1) k = 0 := by unfold g_rd; split <;> exact z9 _
      have z7 : g_rd (fun _ _ => 0) (fun _ _ => 0) (g_ft ci k) ((K.length : Int) + 1) k = 0 := by unfold g_rd; split <;> rfl
      rw [z8, z7, tv_up (Or.inr (show (0 : Int) ≤ _ by omega))]
    have hws : g_ws γ ad K ρ m ++ [(q, .inr (ci, g_fs γ ad (fun _ _ => 0) (fun _ _ => 0) ((K.length : Int) + 1) ci))] = g_ws γ (g_up ad (K.length + 1) q) (K ++ [.inl ci]) (nw ρ ((K.length : Int) + 1)) (nw m ((K.length : Int) + 1)) := by
      rw [← g_ws_push hm, hfs]
      rfl
    rw [hws] at P1 D1
    have k9 := k p e s mth args below meth c A K0 ad0 mc ms H1 locs (cells + 1) (slots + N) (g_up ad (K.length + 1) q) lsr hcx E.push P1 D1 S1 (by omega) (by omega) (g_ls_up hls hl)
    rw [List.map_cons, g_st_up hst, tv_R, rv_pos (by omega), show ((K.length : Int) + 1).toNat = K.length + 1 by omega, show g_up ad (K.length + 1) q (K.length + 1) = q from if_pos rfl] at k9
    exact k9

theorem tz_newaI {N cb' sb' : Nat} (hm : ∀ a k, ρ a k ≤ (K.length : Int)) (hls : ∀ (i : Nat) (v : VV), ls[i]? = some (some v) → g_ok K v) (hst : ∀ v ∈ st, g_ok K v) (hN : N < 100000) (hw : Cond.arrayClass .int ∈ g_TS) (hd : decode μ.2.1 pc = .ok (.newarray .int, 2)) (hn : pc + 2 = n) (hb : cb' + 1 ≤ cb ∧ sb' + N ≤ sb)
    (k : gT l γ μ d cb' sb' R X (K ++ [.inr (0, N)]) (nw ρ ((K.length : Int) + 1)) (nw m ((K.length : Int) + 1)) n ls (vR ((K.length : Int) + 1) :: st)) : gT l γ μ d cb sb R X K ρ m pc ls (vI N :: st) := by
  subst hn
  intro p e s mth args below meth c A K0 ad0 mc ms H locs cells slots ad lsr C E P D S hc hs hl
  have hcx := C
  obtain ⟨c1, c2, c3, c4, c5, c6, c7, c8, c9, c10, c11, c12⟩ := C
  have hNi : (Int32.ofInt (N : Int)).toInt = N := w32_id ⟨by omega, by omega⟩
  refine va_newa (atype := .int) (ty := .int) (a0 := (N, .inl fun _ => 0)) (N' := N) c1 c2 (c9 _ hw) rfl c11.1 P D S c10 (fun _ => rfl) ?_ ?_ ?_ (show cells + 1 ≤ mc by omega) (show slots + N ≤ ms by omega) hd (fun q cA H1 K1 P1 D1 S1 => ?_)
  · rw [Int32.lt_iff_toInt_lt, hNi]
    show ¬ (N : Int) < 0
    omega
  · unfold Int32.toNatClampNeg
    rw [hNi]
    omega
  · have : componentBytes .int ≤ 8 := by decide
    have h9 : N * componentBytes .int ≤ 100000 * 8 := Nat.mul_le_mul (by omega) this
    omega
  · have e1 : s.vm.findClass _ = some cA := (K1.2 3 (cA, .int) rfl).2
    have e2 : s.vm.findClass _ = some (g_cA γ 0) := (K1.2 0 (g_cA γ 0, .int) rfl).2
    have hcA : cA = g_cA γ 0 := Option.some.inj (e1.symm.trans e2)
    subst hcA
    have hws : g_ws γ ad K ρ m ++ [(q, .inl (g_cA γ 0, N, .inl fun _ => 0))] = g_ws γ (g_up ad (K.length + 1) q) (K ++ [.inr (0, N)]) (nw ρ ((K.length : Int) + 1)) (nw m ((K.length : Int) + 1)) := by
      rw [← g_ws_push hm]
      have : g_ce γ (g_up ad (K.length + 1) q) (nw ρ ((K.length : Int) + 1)) (nw m ((K.length : Int) + 1)) ((K.length : Int) + 1) (.inr (0, N)) = .inl (g_cA γ 0, N, .inl fun _ => 0) := by
        unfold g_ce
        simp only [nw, if_true]
        rfl
      rw [this]
    rw [hws] at P1 D1
    have k9 := k p e s mth args below meth c A K0 ad0 mc ms H1 locs (cells + 1) (slots + N) (g_up ad (K.length + 1) q) lsr hcx E.push P1 D1 S1 (by omega) (by omega) (g_ls_up hls hl)
    rw [List.map_cons, g_st_up hst, tv_R, rv_pos (by omega), show ((K.length : Int) + 1).toNat = K.length + 1 by omega, show g_up ad (K.length + 1) q (K.length + 1) = q from if_pos rfl] at k9
    exact k9

theorem tz_newaZ {N cb' sb' : Nat} (hm : ∀ a k, ρ a k ≤ (K.length : Int)) (hls : ∀ (i : Nat) (v : VV), ls[i]? = some (some v) → g_ok K v) (hst : ∀ v ∈ st, g_ok K v) (hN : N < 100000) (hw : Cond.arrayClass .boolean ∈ g_TS) (hd : decode μ.2.1 pc = .ok (.newarray .boolean, 2)) (hn : pc + 2 = n) (hb : cb' + 1 ≤ cb ∧ sb' + N ≤ sb)
    (k : gT l γ μ d cb' sb' R X (K ++ [.inr (1, N)]) (nw ρ ((K.length : Int) + 1)) (nw m ((K.length : Int) + 1)) n ls (vR ((K.length : Int) + 1) :: st)) : gT l γ μ d cb sb R X K ρ m pc ls (vI N :: st) := by
  subst hn
  intro p e s mth args below meth c A K0 ad0 mc ms H locs cells slots ad lsr C E P D S hc hs hl
  have hcx := C
  obtain ⟨c1, c2, c3, c4, c5, c6, c7, c8, c9, c10, c11, c12⟩ := C
  have hNi : (Int32.ofInt (N : Int)).toInt = N := w32_id ⟨by omega, by omega⟩
  refine va_newa (atype := .boolean) (ty := .boolean) (a0 := (N, .inl fun _ => 0)) (N' := N) c1 c2 (c9 _ hw) rfl c11.1 P D S c10 (fun _ => rfl) ?_ ?_ ?_ (show cells + 1 ≤ mc by omega) (show slots + N ≤ ms by omega) hd (fun q cA H1 K1 P1 D1 S1 => ?_)
  · rw [Int32.lt_iff_toInt_lt, hNi]
    show ¬ (N : Int) < 0
    omega
  · unfold Int32.toNatClampNeg
    rw [hNi]
    omega
  · have : componentBytes .boolean ≤ 8 := by decide
    have h9 : N * componentBytes .boolean ≤ 100000 * 8 := Nat.mul_le_mul (by omega) this
    omega
  · have e1 : s.vm.findClass _ = some cA := (K1.2 3 (cA, .boolean) rfl).2
    have e2 : s.vm.findClass _ = some (g_cA γ 1) := (K1.2 1 (g_cA γ 1, .boolean) rfl).2
    have hcA : cA = g_cA γ 1 := Option.some.inj (e1.symm.trans e2)
    subst hcA
    have hws : g_ws γ ad K ρ m ++ [(q, .inl (g_cA γ 1, N, .inl fun _ => 0))] = g_ws γ (g_up ad (K.length + 1) q) (K ++ [.inr (1, N)]) (nw ρ ((K.length : Int) + 1)) (nw m ((K.length : Int) + 1)) := by
      rw [← g_ws_push hm]
      have : g_ce γ (g_up ad (K.length + 1) q) (nw ρ ((K.length : Int) + 1)) (nw m ((K.length : Int) + 1)) ((K.length : Int) + 1) (.inr (1, N)) = .inl (g_cA γ 1, N, .inl fun _ => 0) := by
        unfold g_ce
        simp only [nw, if_true]
        rfl
      rw [this]
    rw [hws] at P1 D1
    have k9 := k p e s mth args below meth c A K0 ad0 mc ms H1 locs (cells + 1) (slots + N) (g_up ad (K.length + 1) q) lsr hcx E.push P1 D1 S1 (by omega) (by omega) (g_ls_up hls hl)
    rw [List.map_cons, g_st_up hst, tv_R, rv_pos (by omega), show ((K.length : Int) + 1).toNat = K.length + 1 by omega, show g_up ad (K.length + 1) q (K.length + 1) = q from if_pos rfl] at k9
    exact k9

theorem tz_newaJ {N cb' sb' : Nat} (hm : ∀ a k, ρ a k ≤ (K.length : Int)) (hls : ∀ (i : Nat) (v : VV), ls[i]? = some (some v) → g_ok K v) (hst : ∀ v ∈ st, g_ok K v) (hN : N < 100000) (hw : Cond.arrayClass .long ∈ g_TS) (hd : decode μ.2.1 pc = .ok (.newarray .long, 2)) (hn : pc + 2 = n) (hb : cb' + 1 ≤ cb ∧ sb' + N ≤ sb)
    (k : gT l γ μ d cb' sb' R X (K ++ [.inr (2, N)]) (nw ρ ((K.length : Int) + 1)) (nw m ((K.length : Int) + 1)) n ls (vR ((K.length : Int) + 1) :: st)) : gT l γ μ d cb sb R X K ρ m pc ls (vI N :: st) := by
  subst hn
  intro p e s mth args below meth c A K0 ad0 mc ms H locs cells slots ad lsr C E P D S hc hs hl
  have hcx := C
  obtain ⟨c1, c2, c3, c4, c5, c6, c7, c8, c9, c10, c11, c12⟩ := C
  have hNi : (Int32.ofInt (N : Int)).toInt = N := w32_id ⟨by omega, by omega⟩
  refine va_newa (atype := .long) (ty := .long) (a0 := (N, .inr (.inl fun _ => 0))) (N' := N) c1 c2 (c9 _ hw) rfl c11.1 P D S c10 (fun _ => rfl) ?_ ?_ ?_ (show cells + 1 ≤ mc by omega) (show slots + N ≤ ms by omega) hd (fun q cA H1 K1 P1 D1 S1 => ?_)
  · rw [Int32.lt_iff_toInt_lt, hNi]
    show ¬ (N : Int) < 0
    omega
  · unfold Int32.toNatClampNeg
    rw [hNi]
    omega
  · have : componentBytes .long ≤ 8 := by decide
    have h9 : N * componentBytes .long ≤ 100000 * 8 := Nat.mul_le_mul (by omega) this
    omega
  · have e1 : s.vm.findClass _ = some cA := (K1.2 3 (cA, .long) rfl).2
    have e2 : s.vm.findClass _ = some (g_cA γ 2) := (K1.2 2 (g_cA γ 2, .long) rfl).2
    have hcA : cA = g_cA γ 2 := Option.some.inj (e1.symm.trans e2)
    subst hcA
    have hws : g_ws γ ad K ρ m ++ [(q, .inl (g_cA γ 2, N, .inr (.inl fun _ => 0)))] = g_ws γ (g_up ad (K.length + 1) q) (K ++ [.inr (2, N)]) (nw ρ ((K.length : Int) + 1)) (nw m ((K.length : Int) + 1)) := by
      rw [← g_ws_push hm]
      have : g_ce γ (g_up ad (K.length + 1) q) (nw ρ ((K.length : Int) + 1)) (nw m ((K.length : Int) + 1)) ((K.length : Int) + 1) (.inr (2, N)) = .inl (g_cA γ 2, N, .inr (.inl fun _ => 0)) := by
        unfold g_ce
        simp only [nw, if_true]
        rfl
      rw [this]
    rw [hws] at P1 D1
    have k9 := k p e s mth args below meth c A K0 ad0 mc ms H1 locs (cells + 1) (slots + N) (g_up ad (K.length + 1) q) lsr hcx E.push P1 D1 S1 (by omega) (by omega) (g_ls_up hls hl)
    rw [List.map_cons, g_st_up hst, tv_R, rv_pos (by omega), show ((K.length : Int) + 1).toNat = K.length + 1 by omega, show g_up ad (K.length + 1) q (K.length + 1) = q from if_pos rfl] at k9
    exact k9

end
