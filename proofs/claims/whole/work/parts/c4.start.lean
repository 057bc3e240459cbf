/-! What the statement gives of the start. -/
abbrev NAR : Cond := Jvm.Cond.and given_1 narrow_1
def SL : List (String × Nat × String) := [("TurnPosts", 110, "the tape has not so many bytes"), ("TurnPosts$Tokens", 42, ";()+-*/<="), ("TurnPosts$Reader", 60, "crossing"), ("TurnPosts$Reader", 69, "road"), ("TurnPosts$Reader", 74, "person"), ("TurnPosts$Reader", 79, "arm"), ("TurnPosts$Reader", 84, "heeds"), ("TurnPosts$Reader", 183, "not"), ("TurnPosts$Reader", 203, "roads"), ("TurnPosts$Reader", 204, "purse"), ("TurnPosts$Reader", 205, "with"), ("TurnPosts$Reader", 207, "day"), ("TurnPosts$Reader", 181, "and"), ("TurnPosts$Reader", 173, "or"), ("TurnPosts$Reader", 89, "turns"), ("TurnPosts", 431, "no such what"), ("TurnPosts", 425, "no such crossing"), ("TurnPosts", 427, "no such road"), ("TurnPosts", 429, "no such person"), ("TurnPosts", 433, "not so many days"), ("TurnPosts", 348, "no such tenths"), ("TurnPosts", 353, "both are one"), ("TurnPosts", 408, "no such place in the tour")]
theorem g_st_SL : g_st = SL := g_st_v
def tmS (i : Nat) : Term := .string (SL.getD i ("", 0, "")).1 (SL.getD i ("", 0, "")).2.1
def len9 : List Nat := SL.map fun q => q.2.2.length
def byt9 : List (List Int32) := SL.map fun q => q.2.2.toList.map fun c => Int32.ofNat c.toNat
def spS (j : Nat) : List Cond := ([.exactly (tmS j) "java/lang/String", .eq (.field (tmS j) "java/lang/String" "coder" "B") (.int 0), .arrayOf (.field (tmS j) "java/lang/String" "value" "[B") .byte, .eq (.length (.field (tmS j) "java/lang/String" "value" "[B")) (.int (Int32.ofNat (len9.getD j 0)))] ++ (List.range (len9.getD j 0)).map fun k => .eq (.elem (.field (tmS j) "java/lang/String" "value" "[B") (.int (Int32.ofNat k))) (.int ((byt9.getD j []).getD k 0))) ++ (List.range j).map fun i => .not (.eq (tmS i) (tmS j))
theorem fl_sp : (flatC NAR).drop 37 = (List.range 23).flatMap spS := by decide +kernel
theorem fl_m {w : Cond} {j : Nat} (hj : j < 23) (h : w ∈ spS j) : w ∈ flatC NAR := List.mem_of_mem_drop (i := 37) (by rw [fl_sp]; exact List.mem_flatMap.mpr ⟨j, List.mem_range.mpr hj, h⟩)
theorem fl_4 {w : Cond} {j : Nat} (hj : j < 23) (h : w ∈ ([.exactly (tmS j) "java/lang/String", .eq (.field (tmS j) "java/lang/String" "coder" "B") (.int 0), .arrayOf (.field (tmS j) "java/lang/String" "value" "[B") .byte, .eq (.length (.field (tmS j) "java/lang/String" "value" "[B")) (.int (Int32.ofNat (len9.getD j 0)))] : List Cond)) : w ∈ flatC NAR := fl_m hj (List.mem_append_left _ (List.mem_append_left _ h))
theorem fs_start {args : Array Value} {s : State} {A : Nat → Prop} (hs : ∀ w ∈ flatC NAR, w.before args s = true) (ht : ∀ w ∈ tables_1, w.before args s = true) (hA : ∀ a : Nat, a < s.heap.size → ¬ A a) : ∃ adK adV : Nat → Nat, vk_S g_st.length g_len g_byt adK adV A s s.heap ∧ ∀ (i : Nat) (q : String × Nat × String), g_st[i]? = some q → i < 23 ∧ vk_R q.1 q.2.1 q.2.2 (adK i) s := by
  obtain ⟨adK, adV, h1, h2⟩ := vk_Sof (args := args) (s := s) (N := 23) (tm := tmS) (len := len9) (byt := byt9) (A := A) (by decide +kernel)
    (fun i hi => hs _ (fl_4 hi (List.mem_of_getElem? (i := 0) rfl)))
    (fun i hi => hs _ (fl_4 hi (List.mem_of_getElem? (i := 1) rfl)))
    (fun i hi => hs _ (fl_4 hi (List.mem_of_getElem? (i := 2) rfl)))
    (fun i hi => hs _ (fl_4 hi (List.mem_of_getElem? (i := 3) rfl)))
    (fun i hi j hj => hs _ (fl_m hi (List.mem_append_left _ (List.mem_append_right _ (List.mem_map.mpr ⟨j, List.mem_range.mpr hj, rfl⟩)))))
    (fun i j hi hj hij => by
      by_cases h : i < j
      · exact Or.inl (hs _ (fl_m hj (List.mem_append_right _ (List.mem_map.mpr ⟨i, List.mem_range.mpr h, rfl⟩))))
      · exact Or.inr (hs _ (fl_m hi (List.mem_append_right _ (List.mem_map.mpr ⟨j, List.mem_range.mpr (by omega), rfl⟩))))) hA
  have e1 : g_st.length = 23 := by rw [g_st_SL]; rfl
  have e2 : g_len = len9 := by unfold g_len len9; rw [g_st_SL]
  have e3 : g_byt = byt9 := by unfold g_byt byt9; rw [g_st_SL]
  refine ⟨adK, adV, by rw [e1, e2, e3]; exact h1, fun i q hq => ?_⟩
  have hi : i < 23 := by rw [← e1]; exact (List.getElem?_eq_some_iff.mp hq).1
  refine ⟨hi, ?_⟩
  have hr := h2 i hi
  have e : tmS i = Term.string q.1 q.2.1 := by
    unfold tmS
    rw [← g_st_SL, List.getD_eq_getElem?_getD, hq]
    rfl
  rw [e] at hr
  obtain ⟨w, hw, hwq⟩ := List.mem_filterMap.mp (List.mem_of_getElem? hq)
  cases w <;> cases hwq
  exact vk_R.of (ht _ hw) hr
theorem nw_any : ∀ c : Nat, c < 12 → ∃ (own : String) (idx : Nat), g_NW own idx c
  | 0, _ => ⟨_, _, nw_X10_43⟩
  | 1, _ => ⟨_, _, nw_X10_85⟩
  | 2, _ => ⟨_, _, nw_X6_37⟩
  | 3, _ => ⟨_, _, nw_X10_27⟩
  | 4, _ => ⟨_, _, nw_X6_27⟩
  | 5, _ => ⟨_, _, nw_X10_50⟩
  | 6, _ => ⟨_, _, nw_X10_17⟩
  | 7, _ => ⟨_, _, nw_X3_9⟩
  | 8, _ => ⟨_, _, nw_X10_69⟩
  | 9, _ => ⟨_, _, nw_X10_78⟩
  | 10, _ => ⟨_, _, nw_L_8⟩
  | 11, _ => ⟨_, _, nw_L_123⟩
  | c + 12, h => absurd h (by omega)
theorem kn_start {args : Array Value} {s : State} (hg : ∀ w ∈ g_TS, w.before args s = true) : ∃ r : Nat → ClassId × (Nat → Nat), ∀ (c : Nat) (q : vw_C), vwCl[c]? = some q → u_Kn s q.1 q.2.1 q.2.2 (r c).1 (r c).2 := by
  refine Classical.axiomOfChoice (r := fun c (r : ClassId × (Nat → Nat)) => ∀ q : vw_C, vwCl[c]? = some q → u_Kn s q.1 q.2.1 q.2.2 r.1 r.2) fun c => ?_
  by_cases hc : c < 12
  · obtain ⟨own, idx, C, U, N, h1, -, h3, -⟩ := nw_any c hc
    obtain ⟨cC, iS, hk⟩ := u_known (C := C) (T := U) (N := N) hg (g_co h1).1 (hg _ h3)
    refine ⟨(cC, iS), fun q hq => ?_⟩
    rw [h1] at hq
    cases hq
    exact hk
  · refine ⟨(0, fun _ => 0), fun q hq => absurd ((List.getElem?_eq_some_iff.mp hq).1) ?_⟩
    exact hc
theorem ar_start {args : Array Value} {s : State} {ty : FieldType} (h : (Cond.arrayClass ty).before args s = true) : ∃ cA : ClassId, ArrOfT s cA ty ∧ s.vm.findClass ("[" ++ ty.toString) = some cA := by
  obtain ⟨cA, kA, comp, h1, h2, h3⟩ := Cond.arrayClass_spec h
  exact ⟨cA, fun n z => ⟨fun k h => (by cases h), kA, h2, comp, h3⟩, h1⟩
theorem fx_start {s : State} {b L : Nat} {xs : Nat → Int32} (hs : ∀ w ∈ flatC NAR, w.before #[Value.ref b] s = true) (ht : ∀ w ∈ tables_1, w.before #[Value.ref b] s = true) (hg : ∀ w ∈ g_TS, w.before #[Value.ref b] s = true) (hX : va_X b L xs s s.heap) (hbl : b < s.heap.size) : ∃ γ : Gh, g_Fx γ (fun q => s.heap.size ≤ q) s s.heap ∧ g_sp γ 1 = b ∧ γ.2.2.2.2.1 = L := by
  have hA : ∀ a : Nat, a < s.heap.size → ¬ (fun q : Nat => s.heap.size ≤ q) a := fun a h => Nat.not_le.mpr h
  obtain ⟨adK, adV, hS, hV⟩ := fs_start (A := fun q : Nat => s.heap.size ≤ q) hs ht hA
  obtain ⟨r, hr⟩ := kn_start hg
  obtain ⟨c0, a0, f0⟩ := ar_start (hg _ ac_int)
  obtain ⟨c1, a1, f1⟩ := ar_start (hg _ ac_boolean)
  obtain ⟨c2, a2, f2⟩ := ar_start (hg _ ac_long)
  have hz1 : vx_Zq "java/lang/Throwable" "UNASSIGNED_STACK" "[Ljava/lang/StackTraceElement;" (fun q : Nat => s.heap.size ≤ q) s s.heap := vx_Zqof (ht _ (g_m3 (List.mem_of_getElem? (i := 166) rfl))) (ht _ (g_m1 (List.mem_of_getElem? (i := 13) rfl))) (hs _ (List.mem_of_getElem? (i := 4) rfl)) hA
  have hz2 : vx_Zq "java/lang/Throwable" "SUPPRESSED_SENTINEL" "Ljava/util/List;" (fun q : Nat => s.heap.size ≤ q) s s.heap := vx_Zqof (ht _ (g_m3 (List.mem_of_getElem? (i := 168) rfl))) (ht _ (g_m1 (List.mem_of_getElem? (i := 13) rfl))) (hs _ (List.mem_of_getElem? (i := 5) rfl)) hA
  have hz3 : va_Z "java/lang/String" "COMPACT_STRINGS" "Z" (.int 1) (fun q : Nat => s.heap.size ≤ q) s s.heap := va_Zof (ht _ (g_m4 (List.mem_of_getElem? (i := 6) rfl))) (ht _ (g_m1 (List.mem_of_getElem? (i := 19) rfl))) (va_eqt (hs _ (List.mem_of_getElem? (i := 6) rfl))) hA
  have hz4 : vx_Zq "jdk/internal/util/Preconditions" "SIOOBE_FORMATTER" "Ljava/util/function/BiFunction;" (fun q : Nat => s.heap.size ≤ q) s s.heap := vx_Zqof (ht _ (g_m4 (List.mem_of_getElem? (i := 45) rfl))) (ht _ (g_m1 (List.mem_of_getElem? (i := 22) rfl))) (hs _ (List.mem_of_getElem? (i := 7) rfl)) hA
  obtain ⟨t0, ht0⟩ : ∃ t0 : Nat, va_Z "jdk/internal/util/Preconditions" "SIOOBE_FORMATTER" "Ljava/util/function/BiFunction;" .null (fun q : Nat => s.heap.size ≤ q) s s.heap ∨ va_Z "jdk/internal/util/Preconditions" "SIOOBE_FORMATTER" "Ljava/util/function/BiFunction;" (.ref t0) (fun q : Nat => s.heap.size ≤ q) s s.heap := by
    rcases hz4.1 with h | ⟨t, h⟩
    · exact ⟨0, Or.inl h⟩
    · exact ⟨t, Or.inr h⟩
  have hnc : va_Nc "java/lang/IllegalArgumentException" "java/util/NoSuchElementException" s := va_Nc.of (hs _ (List.mem_of_getElem? (i := 36) rfl))
  obtain ⟨sp, hsp⟩ : ∃ sp : Nat → Nat, sp = fun k => if k = 1 then b else if k = 1000 then t0 else if k % 2 = 0 then adK ((k - 2) / 2) else adV ((k - 3) / 2) := ⟨_, rfl⟩
  have s1 : sp 1 = b := by rw [hsp]; rfl
  have s2 : sp 1000 = t0 := by rw [hsp]; rfl
  have sK : ∀ i : Nat, i < 23 → sp (2 + 2 * i) = adK i := fun i hi => by
    rw [hsp]
    show (if 2 + 2 * i = 1 then b else if 2 + 2 * i = 1000 then t0 else if (2 + 2 * i) % 2 = 0 then adK ((2 + 2 * i - 2) / 2) else adV ((2 + 2 * i - 3) / 2)) = adK i
    rw [if_neg (by omega), if_neg (by omega), if_pos (by omega), show (2 + 2 * i - 2) / 2 = i by omega]
  have sV : ∀ i : Nat, i < 23 → sp (3 + 2 * i) = adV i := fun i hi => by
    rw [hsp]
    show (if 3 + 2 * i = 1 then b else if 3 + 2 * i = 1000 then t0 else if (3 + 2 * i) % 2 = 0 then adK ((3 + 2 * i - 2) / 2) else adV ((3 + 2 * i - 3) / 2)) = adV i
    rw [if_neg (by omega), if_neg (by omega), if_neg (by omega), show (3 + 2 * i - 3) / 2 = i by omega]
  have e1 : g_st.length = 23 := by rw [g_st_SL]; rfl
  refine ⟨(fun c => (r c).1, fun c => (r c).2, fun i => if i = 0 then c0 else if i = 1 then c1 else c2, sp, L, xs), ⟨⟨hr, fun k q hq => ?_⟩, fun w hw => va_Nw.of (g_NSon hw) (ht w (List.mem_filter.mp hw).1), hz1, hz2, ⟨?_, ?_, ?_⟩, ⟨hz3, ?_⟩, ⟨fun i q hq => ?_, ?_, ?_⟩, hnc⟩, s1, rfl⟩
  · match k, hq with
    | 0, hq => cases hq; exact ⟨a0, f0⟩
    | 1, hq => cases hq; exact ⟨a1, f1⟩
    | 2, hq => cases hq; exact ⟨a2, f2⟩
    | k + 3, hq => exact absurd (List.getElem?_eq_some_iff.mp hq).1 (by show ¬ k + 3 < 3; omega)
  · show va_X (sp 1) L xs s s.heap
    rw [s1]; exact hX
  · show ¬ s.heap.size ≤ sp 1
    rw [s1]; omega
  · show sp 1 < s.heap.size
    rw [s1]; exact hbl
  · show va_Z "jdk/internal/util/Preconditions" "SIOOBE_FORMATTER" "Ljava/util/function/BiFunction;" .null (fun q : Nat => s.heap.size ≤ q) s s.heap ∨ va_Z "jdk/internal/util/Preconditions" "SIOOBE_FORMATTER" "Ljava/util/function/BiFunction;" (.ref (sp 1000)) (fun q : Nat => s.heap.size ≤ q) s s.heap
    rw [s2]; exact ht0
  · show vk_R q.1 q.2.1 q.2.2 (sp (2 + 2 * i)) s
    rw [sK i (hV i q hq).1]; exact (hV i q hq).2
  · intro i hi
    show va_O "java/lang/String" (sp (2 + 2 * i)) _ s s.heap ∧ va_OF "java/lang/String" "coder" "B" (.int 0) (sp (2 + 2 * i)) _ s s.heap ∧ va_OF "java/lang/String" "value" "[B" (.ref (sp (3 + 2 * i))) (sp (2 + 2 * i)) _ s s.heap ∧ va_T .byte (sp (3 + 2 * i)) (g_len.getD i 0) (fun j => .int ((g_byt.getD i []).getD j 0)) _ s s.heap
    rw [sK i (by omega), sV i (by omega)]
    exact hS.1 i hi
  · intro i j hi hj e
    have e9 : sp (2 + 2 * i) = sp (2 + 2 * j) := e
    rw [sK i (by omega), sK j (by omega)] at e9
    exact hS.2 i j hi hj e9
