/-! What the tables say, in the logic's words: classes, fields by their entries, methods. -/
theorem g_m1 {w : Cond} (h : w ∈ tables_1_1) : w ∈ tables_1 := List.mem_append_left _ h
theorem g_m2 {w : Cond} (h : w ∈ tables_1_2) : w ∈ tables_1 := List.mem_append_right _ (List.mem_append_left _ h)
theorem g_m3 {w : Cond} (h : w ∈ tables_1_3) : w ∈ tables_1 := List.mem_append_right _ (List.mem_append_right _ (List.mem_append_left _ h))
theorem g_m4 {w : Cond} (h : w ∈ tables_1_4) : w ∈ tables_1 := List.mem_append_right _ (List.mem_append_right _ (List.mem_append_right _ (List.mem_append_left _ h)))
theorem g_m5 {w : Cond} (h : w ∈ tables_1_5) : w ∈ tables_1 := List.mem_append_right _ (List.mem_append_right _ (List.mem_append_right _ (List.mem_append_right _ (List.mem_append_left _ h))))
theorem g_m6 {w : Cond} (h : w ∈ tables_1_6) : w ∈ tables_1 := List.mem_append_right _ (List.mem_append_right _ (List.mem_append_right _ (List.mem_append_right _ (List.mem_append_right _ (List.mem_append_left _ h)))))
theorem g_m7 {w : Cond} (h : w ∈ tables_1_7) : w ∈ tables_1 := List.mem_append_right _ (List.mem_append_right _ (List.mem_append_right _ (List.mem_append_right _ (List.mem_append_right _ (List.mem_append_right _ (List.mem_append_left _ h))))))
theorem g_m8 {w : Cond} (h : w ∈ tables_1_8) : w ∈ tables_1 := List.mem_append_right _ (List.mem_append_right _ (List.mem_append_right _ (List.mem_append_right _ (List.mem_append_right _ (List.mem_append_right _ (List.mem_append_right _ (List.mem_append_left _ h)))))))
theorem g_m9 {w : Cond} (h : w ∈ tables_1_9) : w ∈ tables_1 := List.mem_append_right _ (List.mem_append_right _ (List.mem_append_right _ (List.mem_append_right _ (List.mem_append_right _ (List.mem_append_right _ (List.mem_append_right _ (List.mem_append_right _ (List.mem_append_left _ h))))))))
theorem g_m10 {w : Cond} (h : w ∈ tables_1_10) : w ∈ tables_1 := List.mem_append_right _ (List.mem_append_right _ (List.mem_append_right _ (List.mem_append_right _ (List.mem_append_right _ (List.mem_append_right _ (List.mem_append_right _ (List.mem_append_right _ (List.mem_append_right _ (h)))))))))
theorem g_in {w : Cond} (h : w ∈ tables_1) (g : goodWord w = true) : w ∈ g_TS := List.mem_filter.mpr ⟨List.mem_append_right _ h, g⟩
theorem g_inP {q : MethodName × Nat} (h : q ∈ lw_privs) : Cond.selects q.1.cls q.1 q.1 ∈ g_TS := List.mem_filter.mpr ⟨List.mem_append_left _ (List.mem_map.mpr ⟨q, h, rfl⟩), rfl⟩
theorem g_inN {w : Cond} (h : w ∈ tables_1) (g : g_isN w = true) : w ∈ g_NS := List.mem_filter.mpr ⟨h, g⟩
/-- own's entry idx names field k of class ci, of type ty -/
def g_FK (own : String) (idx ci k : Nat) (fin : Bool) (ty : FieldType) : Prop := ∃ (C : String) (T : u_T) (N : Nat), vwCl[ci]? = some (C, T, N) ∧ k < N ∧ (T k).2.2.2 = fin ∧ parseFieldDescriptor (T k).2.2.1 = some ty ∧ (Cond.fieldLink own idx (T k).1 (T k).2.1 (T k).2.2.1 ∈ g_TS ∨ ∃ host, Cond.fieldLinkNest own idx (T k).1 (T k).2.1 (T k).2.2.1 host ∈ g_NS)
/-- own's entry idx names the method y: own or another's (0), a nest mate's (1) -/
def g_ML (own : String) (idx : Nat) (y : MethodName) : Prop := Cond.methodLink own idx y ∈ g_TS ∨ ∃ host, Cond.methodLinkNest own idx y host ∈ g_NS
def g_MO (μ : MD) : Prop := g_w0 μ ∈ g_TS ∧ Cond.initialized μ.1.cls ∈ g_TS ∧ (μ.1.cls ≠ "java/lang/invoke/MethodHandle" ∧ μ.1.cls ≠ "java/lang/invoke/VarHandle") ∧ plainName μ.1.cls = true
def g_MV (μ : MD) : Prop := Cond.instanceMethod μ.1 ∈ g_TS ∧ Cond.selects μ.1.cls μ.1 μ.1 ∈ g_TS
def g_MS (μ : MD) : Prop := Cond.static μ.1 ∈ g_TS
abbrev g_NP (μ : MD) (n : Nat) : Prop := (parseMethodDescriptor μ.1.desc).map (fun d => d.parameters.length) = some n
def g_MI (μ : MD) : Prop := Cond.instanceMethod μ.1 ∈ g_TS ∧ μ.1.name = "<init>"
theorem g_goodTS : ∀ w ∈ g_TS, goodWord w = true := fun w h => (List.mem_filter.mp h).2
def g_CO (C : String) (T : u_T) (N : Nat) : Prop := (∀ w ∈ u_ws C T N, w ∈ g_TS) ∧ ∃ ty : Nat → FieldType, (∀ k, k < N → parseFieldDescriptor (T k).2.2.1 = some (ty k)) ∧ ∀ a, a < N → ∀ b, b < N → a ≠ b → (T a).2.1 ≠ (T b).2.1
theorem inX0 : ∀ w ∈ u_ws RX0 TX0 3, w ∈ g_TS := by
  intro w hw
  obtain ⟨k, hk, rfl⟩ := List.mem_map.mp hw
  have hk := List.mem_range.mp hk
  match k, hk with
  | 0, _ => exact (g_in (g_m1 (List.mem_of_getElem? (i := 221) rfl)) rfl)
  | 1, _ => exact (g_in (g_m1 (List.mem_of_getElem? (i := 223) rfl)) rfl)
  | 2, _ => exact (g_in (g_m1 (List.mem_of_getElem? (i := 225) rfl)) rfl)
  | k + 3, h => exact absurd h (by omega)
theorem inX1 : ∀ w ∈ u_ws RX1 TX1 1, w ∈ g_TS := by
  intro w hw
  obtain ⟨k, hk, rfl⟩ := List.mem_map.mp hw
  have hk := List.mem_range.mp hk
  match k, hk with
  | 0, _ => exact (g_in (g_m2 (List.mem_of_getElem? (i := 89) rfl)) rfl)
  | k + 1, h => exact absurd h (by omega)
theorem inX2 : ∀ w ∈ u_ws RX2 TX2 5, w ∈ g_TS := by
  intro w hw
  obtain ⟨k, hk, rfl⟩ := List.mem_map.mp hw
  have hk := List.mem_range.mp hk
  match k, hk with
  | 0, _ => exact (g_in (g_m1 (List.mem_of_getElem? (i := 86) rfl)) rfl)
  | 1, _ => exact (g_in (g_m1 (List.mem_of_getElem? (i := 88) rfl)) rfl)
  | 2, _ => exact (g_in (g_m1 (List.mem_of_getElem? (i := 90) rfl)) rfl)
  | 3, _ => exact (g_in (g_m1 (List.mem_of_getElem? (i := 92) rfl)) rfl)
  | 4, _ => exact (g_in (g_m1 (List.mem_of_getElem? (i := 94) rfl)) rfl)
  | k + 5, h => exact absurd h (by omega)
theorem inX3 : ∀ w ∈ u_ws RX3 TX3 6, w ∈ g_TS := by
  intro w hw
  obtain ⟨k, hk, rfl⟩ := List.mem_map.mp hw
  have hk := List.mem_range.mp hk
  match k, hk with
  | 0, _ => exact (g_in (g_m1 (List.mem_of_getElem? (i := 196) rfl)) rfl)
  | 1, _ => exact (g_in (g_m1 (List.mem_of_getElem? (i := 198) rfl)) rfl)
  | 2, _ => exact (g_in (g_m1 (List.mem_of_getElem? (i := 200) rfl)) rfl)
  | 3, _ => exact (g_in (g_m1 (List.mem_of_getElem? (i := 202) rfl)) rfl)
  | 4, _ => exact (g_in (g_m1 (List.mem_of_getElem? (i := 204) rfl)) rfl)
  | 5, _ => exact (g_in (g_m1 (List.mem_of_getElem? (i := 206) rfl)) rfl)
  | k + 6, h => exact absurd h (by omega)
theorem inX4 : ∀ w ∈ u_ws RX4 TX4 3, w ∈ g_TS := by
  intro w hw
  obtain ⟨k, hk, rfl⟩ := List.mem_map.mp hw
  have hk := List.mem_range.mp hk
  match k, hk with
  | 0, _ => exact (g_in (g_m1 (List.mem_of_getElem? (i := 51) rfl)) rfl)
  | 1, _ => exact (g_in (g_m1 (List.mem_of_getElem? (i := 53) rfl)) rfl)
  | 2, _ => exact (g_in (g_m1 (List.mem_of_getElem? (i := 55) rfl)) rfl)
  | k + 3, h => exact absurd h (by omega)
theorem inX5 : ∀ w ∈ u_ws RX5 TX5 4, w ∈ g_TS := by
  intro w hw
  obtain ⟨k, hk, rfl⟩ := List.mem_map.mp hw
  have hk := List.mem_range.mp hk
  match k, hk with
  | 0, _ => exact (g_in (g_m1 (List.mem_of_getElem? (i := 239) rfl)) rfl)
  | 1, _ => exact (g_in (g_m2 (List.mem_of_getElem? (i := 1) rfl)) rfl)
  | 2, _ => exact (g_in (g_m2 (List.mem_of_getElem? (i := 3) rfl)) rfl)
  | 3, _ => exact (g_in (g_m2 (List.mem_of_getElem? (i := 5) rfl)) rfl)
  | k + 4, h => exact absurd h (by omega)
theorem inX6 : ∀ w ∈ u_ws RX6 TX6 10, w ∈ g_TS := by
  intro w hw
  obtain ⟨k, hk, rfl⟩ := List.mem_map.mp hw
  have hk := List.mem_range.mp hk
  match k, hk with
  | 0, _ => exact (g_in (g_m1 (List.mem_of_getElem? (i := 134) rfl)) rfl)
  | 1, _ => exact (g_in (g_m1 (List.mem_of_getElem? (i := 136) rfl)) rfl)
  | 2, _ => exact (g_in (g_m1 (List.mem_of_getElem? (i := 138) rfl)) rfl)
  | 3, _ => exact (g_in (g_m1 (List.mem_of_getElem? (i := 140) rfl)) rfl)
  | 4, _ => exact (g_in (g_m1 (List.mem_of_getElem? (i := 142) rfl)) rfl)
  | 5, _ => exact (g_in (g_m1 (List.mem_of_getElem? (i := 144) rfl)) rfl)
  | 6, _ => exact (g_in (g_m1 (List.mem_of_getElem? (i := 146) rfl)) rfl)
  | 7, _ => exact (g_in (g_m1 (List.mem_of_getElem? (i := 148) rfl)) rfl)
  | 8, _ => exact (g_in (g_m1 (List.mem_of_getElem? (i := 150) rfl)) rfl)
  | 9, _ => exact (g_in (g_m1 (List.mem_of_getElem? (i := 152) rfl)) rfl)
  | k + 10, h => exact absurd h (by omega)
theorem inX7 : ∀ w ∈ u_ws RX7 TX7 6, w ∈ g_TS := by
  intro w hw
  obtain ⟨k, hk, rfl⟩ := List.mem_map.mp hw
  have hk := List.mem_range.mp hk
  match k, hk with
  | 0, _ => exact (g_in (g_m1 (List.mem_of_getElem? (i := 176) rfl)) rfl)
  | 1, _ => exact (g_in (g_m1 (List.mem_of_getElem? (i := 178) rfl)) rfl)
  | 2, _ => exact (g_in (g_m1 (List.mem_of_getElem? (i := 180) rfl)) rfl)
  | 3, _ => exact (g_in (g_m1 (List.mem_of_getElem? (i := 182) rfl)) rfl)
  | 4, _ => exact (g_in (g_m1 (List.mem_of_getElem? (i := 184) rfl)) rfl)
  | 5, _ => exact (g_in (g_m1 (List.mem_of_getElem? (i := 186) rfl)) rfl)
  | k + 6, h => exact absurd h (by omega)
theorem inX8 : ∀ w ∈ u_ws RX8 TX8 5, w ∈ g_TS := by
  intro w hw
  obtain ⟨k, hk, rfl⟩ := List.mem_map.mp hw
  have hk := List.mem_range.mp hk
  match k, hk with
  | 0, _ => exact (g_in (g_m2 (List.mem_of_getElem? (i := 25) rfl)) rfl)
  | 1, _ => exact (g_in (g_m2 (List.mem_of_getElem? (i := 27) rfl)) rfl)
  | 2, _ => exact (g_in (g_m2 (List.mem_of_getElem? (i := 29) rfl)) rfl)
  | 3, _ => exact (g_in (g_m2 (List.mem_of_getElem? (i := 31) rfl)) rfl)
  | 4, _ => exact (g_in (g_m2 (List.mem_of_getElem? (i := 33) rfl)) rfl)
  | k + 5, h => exact absurd h (by omega)
theorem inX9 : ∀ w ∈ u_ws RX9 TX9 11, w ∈ g_TS := by
  intro w hw
  obtain ⟨k, hk, rfl⟩ := List.mem_map.mp hw
  have hk := List.mem_range.mp hk
  match k, hk with
  | 0, _ => exact (g_in (g_m2 (List.mem_of_getElem? (i := 58) rfl)) rfl)
  | 1, _ => exact (g_in (g_m2 (List.mem_of_getElem? (i := 60) rfl)) rfl)
  | 2, _ => exact (g_in (g_m2 (List.mem_of_getElem? (i := 62) rfl)) rfl)
  | 3, _ => exact (g_in (g_m2 (List.mem_of_getElem? (i := 64) rfl)) rfl)
  | 4, _ => exact (g_in (g_m2 (List.mem_of_getElem? (i := 66) rfl)) rfl)
  | 5, _ => exact (g_in (g_m2 (List.mem_of_getElem? (i := 68) rfl)) rfl)
  | 6, _ => exact (g_in (g_m2 (List.mem_of_getElem? (i := 70) rfl)) rfl)
  | 7, _ => exact (g_in (g_m2 (List.mem_of_getElem? (i := 72) rfl)) rfl)
  | 8, _ => exact (g_in (g_m2 (List.mem_of_getElem? (i := 74) rfl)) rfl)
  | 9, _ => exact (g_in (g_m2 (List.mem_of_getElem? (i := 76) rfl)) rfl)
  | 10, _ => exact (g_in (g_m2 (List.mem_of_getElem? (i := 78) rfl)) rfl)
  | k + 11, h => exact absurd h (by omega)
theorem inX10 : ∀ w ∈ u_ws RX10 TX10 20, w ∈ g_TS := by
  intro w hw
  obtain ⟨k, hk, rfl⟩ := List.mem_map.mp hw
  have hk := List.mem_range.mp hk
  match k, hk with
  | 0, _ => exact (g_in (g_m2 (List.mem_of_getElem? (i := 112) rfl)) rfl)
  | 1, _ => exact (g_in (g_m2 (List.mem_of_getElem? (i := 114) rfl)) rfl)
  | 2, _ => exact (g_in (g_m2 (List.mem_of_getElem? (i := 116) rfl)) rfl)
  | 3, _ => exact (g_in (g_m2 (List.mem_of_getElem? (i := 118) rfl)) rfl)
  | 4, _ => exact (g_in (g_m2 (List.mem_of_getElem? (i := 120) rfl)) rfl)
  | 5, _ => exact (g_in (g_m2 (List.mem_of_getElem? (i := 122) rfl)) rfl)
  | 6, _ => exact (g_in (g_m2 (List.mem_of_getElem? (i := 124) rfl)) rfl)
  | 7, _ => exact (g_in (g_m2 (List.mem_of_getElem? (i := 126) rfl)) rfl)
  | 8, _ => exact (g_in (g_m2 (List.mem_of_getElem? (i := 128) rfl)) rfl)
  | 9, _ => exact (g_in (g_m2 (List.mem_of_getElem? (i := 130) rfl)) rfl)
  | 10, _ => exact (g_in (g_m2 (List.mem_of_getElem? (i := 132) rfl)) rfl)
  | 11, _ => exact (g_in (g_m2 (List.mem_of_getElem? (i := 134) rfl)) rfl)
  | 12, _ => exact (g_in (g_m2 (List.mem_of_getElem? (i := 136) rfl)) rfl)
  | 13, _ => exact (g_in (g_m2 (List.mem_of_getElem? (i := 138) rfl)) rfl)
  | 14, _ => exact (g_in (g_m2 (List.mem_of_getElem? (i := 140) rfl)) rfl)
  | 15, _ => exact (g_in (g_m2 (List.mem_of_getElem? (i := 142) rfl)) rfl)
  | 16, _ => exact (g_in (g_m2 (List.mem_of_getElem? (i := 144) rfl)) rfl)
  | 17, _ => exact (g_in (g_m2 (List.mem_of_getElem? (i := 146) rfl)) rfl)
  | 18, _ => exact (g_in (g_m2 (List.mem_of_getElem? (i := 148) rfl)) rfl)
  | 19, _ => exact (g_in (g_m2 (List.mem_of_getElem? (i := 150) rfl)) rfl)
  | k + 20, h => exact absurd h (by omega)
theorem inX11 : ∀ w ∈ u_ws RX11 TX11 69, w ∈ g_TS := by
  intro w hw
  obtain ⟨k, hk, rfl⟩ := List.mem_map.mp hw
  have hk := List.mem_range.mp hk
  match k, hk with
  | 0, _ => exact (g_in (g_m7 (List.mem_of_getElem? (i := 55) rfl)) rfl)
  | 1, _ => exact (g_in (g_m7 (List.mem_of_getElem? (i := 57) rfl)) rfl)
  | 2, _ => exact (g_in (g_m7 (List.mem_of_getElem? (i := 59) rfl)) rfl)
  | 3, _ => exact (g_in (g_m7 (List.mem_of_getElem? (i := 61) rfl)) rfl)
  | 4, _ => exact (g_in (g_m7 (List.mem_of_getElem? (i := 63) rfl)) rfl)
  | 5, _ => exact (g_in (g_m7 (List.mem_of_getElem? (i := 65) rfl)) rfl)
  | 6, _ => exact (g_in (g_m7 (List.mem_of_getElem? (i := 67) rfl)) rfl)
  | 7, _ => exact (g_in (g_m7 (List.mem_of_getElem? (i := 69) rfl)) rfl)
  | 8, _ => exact (g_in (g_m7 (List.mem_of_getElem? (i := 71) rfl)) rfl)
  | 9, _ => exact (g_in (g_m7 (List.mem_of_getElem? (i := 73) rfl)) rfl)
  | 10, _ => exact (g_in (g_m7 (List.mem_of_getElem? (i := 75) rfl)) rfl)
  | 11, _ => exact (g_in (g_m7 (List.mem_of_getElem? (i := 77) rfl)) rfl)
  | 12, _ => exact (g_in (g_m7 (List.mem_of_getElem? (i := 79) rfl)) rfl)
  | 13, _ => exact (g_in (g_m7 (List.mem_of_getElem? (i := 81) rfl)) rfl)
  | 14, _ => exact (g_in (g_m7 (List.mem_of_getElem? (i := 83) rfl)) rfl)
  | 15, _ => exact (g_in (g_m7 (List.mem_of_getElem? (i := 85) rfl)) rfl)
  | 16, _ => exact (g_in (g_m7 (List.mem_of_getElem? (i := 87) rfl)) rfl)
  | 17, _ => exact (g_in (g_m7 (List.mem_of_getElem? (i := 89) rfl)) rfl)
  | 18, _ => exact (g_in (g_m7 (List.mem_of_getElem? (i := 91) rfl)) rfl)
  | 19, _ => exact (g_in (g_m7 (List.mem_of_getElem? (i := 93) rfl)) rfl)
  | 20, _ => exact (g_in (g_m7 (List.mem_of_getElem? (i := 95) rfl)) rfl)
  | 21, _ => exact (g_in (g_m7 (List.mem_of_getElem? (i := 97) rfl)) rfl)
  | 22, _ => exact (g_in (g_m7 (List.mem_of_getElem? (i := 99) rfl)) rfl)
  | 23, _ => exact (g_in (g_m7 (List.mem_of_getElem? (i := 101) rfl)) rfl)
  | 24, _ => exact (g_in (g_m7 (List.mem_of_getElem? (i := 103) rfl)) rfl)
  | 25, _ => exact (g_in (g_m7 (List.mem_of_getElem? (i := 105) rfl)) rfl)
  | 26, _ => exact (g_in (g_m7 (List.mem_of_getElem? (i := 107) rfl)) rfl)
  | 27, _ => exact (g_in (g_m7 (List.mem_of_getElem? (i := 109) rfl)) rfl)
  | 28, _ => exact (g_in (g_m7 (List.mem_of_getElem? (i := 111) rfl)) rfl)
  | 29, _ => exact (g_in (g_m7 (List.mem_of_getElem? (i := 113) rfl)) rfl)
  | 30, _ => exact (g_in (g_m7 (List.mem_of_getElem? (i := 115) rfl)) rfl)
  | 31, _ => exact (g_in (g_m7 (List.mem_of_getElem? (i := 117) rfl)) rfl)
  | 32, _ => exact (g_in (g_m7 (List.mem_of_getElem? (i := 119) rfl)) rfl)
  | 33, _ => exact (g_in (g_m7 (List.mem_of_getElem? (i := 121) rfl)) rfl)
  | 34, _ => exact (g_in (g_m7 (List.mem_of_getElem? (i := 123) rfl)) rfl)
  | 35, _ => exact (g_in (g_m7 (List.mem_of_getElem? (i := 125) rfl)) rfl)
  | 36, _ => exact (g_in (g_m7 (List.mem_of_getElem? (i := 127) rfl)) rfl)
  | 37, _ => exact (g_in (g_m7 (List.mem_of_getElem? (i := 129) rfl)) rfl)
  | 38, _ => exact (g_in (g_m7 (List.mem_of_getElem? (i := 131) rfl)) rfl)
  | 39, _ => exact (g_in (g_m7 (List.mem_of_getElem? (i := 133) rfl)) rfl)
  | 40, _ => exact (g_in (g_m7 (List.mem_of_getElem? (i := 135) rfl)) rfl)
  | 41, _ => exact (g_in (g_m7 (List.mem_of_getElem? (i := 137) rfl)) rfl)
  | 42, _ => exact (g_in (g_m7 (List.mem_of_getElem? (i := 139) rfl)) rfl)
  | 43, _ => exact (g_in (g_m7 (List.mem_of_getElem? (i := 141) rfl)) rfl)
  | 44, _ => exact (g_in (g_m7 (List.mem_of_getElem? (i := 143) rfl)) rfl)
  | 45, _ => exact (g_in (g_m7 (List.mem_of_getElem? (i := 145) rfl)) rfl)
  | 46, _ => exact (g_in (g_m7 (List.mem_of_getElem? (i := 147) rfl)) rfl)
  | 47, _ => exact (g_in (g_m7 (List.mem_of_getElem? (i := 149) rfl)) rfl)
  | 48, _ => exact (g_in (g_m7 (List.mem_of_getElem? (i := 151) rfl)) rfl)
  | 49, _ => exact (g_in (g_m7 (List.mem_of_getElem? (i := 153) rfl)) rfl)
  | 50, _ => exact (g_in (g_m7 (List.mem_of_getElem? (i := 155) rfl)) rfl)
  | 51, _ => exact (g_in (g_m7 (List.mem_of_getElem? (i := 157) rfl)) rfl)
  | 52, _ => exact (g_in (g_m7 (List.mem_of_getElem? (i := 159) rfl)) rfl)
  | 53, _ => exact (g_in (g_m7 (List.mem_of_getElem? (i := 161) rfl)) rfl)
  | 54, _ => exact (g_in (g_m7 (List.mem_of_getElem? (i := 163) rfl)) rfl)
  | 55, _ => exact (g_in (g_m7 (List.mem_of_getElem? (i := 165) rfl)) rfl)
  | 56, _ => exact (g_in (g_m7 (List.mem_of_getElem? (i := 167) rfl)) rfl)
  | 57, _ => exact (g_in (g_m7 (List.mem_of_getElem? (i := 169) rfl)) rfl)
  | 58, _ => exact (g_in (g_m7 (List.mem_of_getElem? (i := 171) rfl)) rfl)
  | 59, _ => exact (g_in (g_m7 (List.mem_of_getElem? (i := 173) rfl)) rfl)
  | 60, _ => exact (g_in (g_m7 (List.mem_of_getElem? (i := 175) rfl)) rfl)
  | 61, _ => exact (g_in (g_m7 (List.mem_of_getElem? (i := 177) rfl)) rfl)
  | 62, _ => exact (g_in (g_m7 (List.mem_of_getElem? (i := 179) rfl)) rfl)
  | 63, _ => exact (g_in (g_m7 (List.mem_of_getElem? (i := 181) rfl)) rfl)
  | 64, _ => exact (g_in (g_m7 (List.mem_of_getElem? (i := 183) rfl)) rfl)
  | 65, _ => exact (g_in (g_m7 (List.mem_of_getElem? (i := 185) rfl)) rfl)
  | 66, _ => exact (g_in (g_m7 (List.mem_of_getElem? (i := 187) rfl)) rfl)
  | 67, _ => exact (g_in (g_m7 (List.mem_of_getElem? (i := 189) rfl)) rfl)
  | 68, _ => exact (g_in (g_m7 (List.mem_of_getElem? (i := 191) rfl)) rfl)
  | k + 69, h => exact absurd h (by omega)
theorem g_co {ci : Nat} {C : String} {T : u_T} {N : Nat} (h : vwCl[ci]? = some (C, T, N)) : g_CO C T N := by
  match ci, h with
  | 0, h => cases h; exact ⟨inX0, tyX0, tyX0_ok, nmX0⟩
  | 1, h => cases h; exact ⟨inX1, tyX1, tyX1_ok, nmX1⟩
  | 2, h => cases h; exact ⟨inX2, tyX2, tyX2_ok, nmX2⟩
  | 3, h => cases h; exact ⟨inX3, tyX3, tyX3_ok, nmX3⟩
  | 4, h => cases h; exact ⟨inX4, tyX4, tyX4_ok, nmX4⟩
  | 5, h => cases h; exact ⟨inX5, tyX5, tyX5_ok, nmX5⟩
  | 6, h => cases h; exact ⟨inX6, tyX6, tyX6_ok, nmX6⟩
  | 7, h => cases h; exact ⟨inX7, tyX7, tyX7_ok, nmX7⟩
  | 8, h => cases h; exact ⟨inX8, tyX8, tyX8_ok, nmX8⟩
  | 9, h => cases h; exact ⟨inX9, tyX9, tyX9_ok, nmX9⟩
  | 10, h => cases h; exact ⟨inX10, tyX10, tyX10_ok, nmX10⟩
  | 11, h => cases h; exact ⟨inX11, tyX11, tyX11_ok, nmX11⟩
  | ci + 12, h => exact absurd (List.getElem?_eq_some_iff.mp h).1 (by simp)
theorem fk_X4_9 : g_FK RX4 9 4 0 true (.array .int) := ⟨_, _, _, rfl, by decide, rfl, by decide +kernel, Or.inl (g_in (g_m1 (List.mem_of_getElem? (i := 47) rfl)) rfl)⟩
theorem fk_X4_15 : g_FK RX4 15 4 1 true (.array .int) := ⟨_, _, _, rfl, by decide, rfl, by decide +kernel, Or.inl (g_in (g_m1 (List.mem_of_getElem? (i := 48) rfl)) rfl)⟩
theorem fk_X4_18 : g_FK RX4 18 4 2 false .int := ⟨_, _, _, rfl, by decide, rfl, by decide +kernel, Or.inl (g_in (g_m1 (List.mem_of_getElem? (i := 49) rfl)) rfl)⟩
theorem fk_X6_57 : g_FK RX6 57 4 2 false .int := ⟨_, _, _, rfl, by decide, rfl, by decide +kernel, Or.inr ⟨_, g_inN (g_m1 (List.mem_of_getElem? (i := 50) rfl)) rfl⟩⟩
theorem fk_X2_24 : g_FK RX2 24 2 0 false .int := ⟨_, _, _, rfl, by decide, rfl, by decide +kernel, Or.inl (g_in (g_m1 (List.mem_of_getElem? (i := 65) rfl)) rfl)⟩
theorem fk_X8_68 : g_FK RX8 68 2 0 false .int := ⟨_, _, _, rfl, by decide, rfl, by decide +kernel, Or.inr ⟨_, g_inN (g_m1 (List.mem_of_getElem? (i := 66) rfl)) rfl⟩⟩
theorem fk_X10_145 : g_FK RX10 145 2 0 false .int := ⟨_, _, _, rfl, by decide, rfl, by decide +kernel, Or.inr ⟨_, g_inN (g_m1 (List.mem_of_getElem? (i := 67) rfl)) rfl⟩⟩
theorem fk_X2_9 : g_FK RX2 9 2 1 true (.array .int) := ⟨_, _, _, rfl, by decide, rfl, by decide +kernel, Or.inl (g_in (g_m1 (List.mem_of_getElem? (i := 68) rfl)) rfl)⟩
theorem fk_X9_40 : g_FK RX9 40 2 1 true (.array .int) := ⟨_, _, _, rfl, by decide, rfl, by decide +kernel, Or.inr ⟨_, g_inN (g_m1 (List.mem_of_getElem? (i := 69) rfl)) rfl⟩⟩
theorem fk_X8_61 : g_FK RX8 61 2 1 true (.array .int) := ⟨_, _, _, rfl, by decide, rfl, by decide +kernel, Or.inr ⟨_, g_inN (g_m1 (List.mem_of_getElem? (i := 70) rfl)) rfl⟩⟩
theorem fk_X6_67 : g_FK RX6 67 2 1 true (.array .int) := ⟨_, _, _, rfl, by decide, rfl, by decide +kernel, Or.inr ⟨_, g_inN (g_m1 (List.mem_of_getElem? (i := 71) rfl)) rfl⟩⟩
theorem fk_X5_55 : g_FK RX5 55 2 1 true (.array .int) := ⟨_, _, _, rfl, by decide, rfl, by decide +kernel, Or.inr ⟨_, g_inN (g_m1 (List.mem_of_getElem? (i := 72) rfl)) rfl⟩⟩
theorem fk_X10_224 : g_FK RX10 224 2 1 true (.array .int) := ⟨_, _, _, rfl, by decide, rfl, by decide +kernel, Or.inr ⟨_, g_inN (g_m1 (List.mem_of_getElem? (i := 73) rfl)) rfl⟩⟩
theorem fk_X3_147 : g_FK RX3 147 2 1 true (.array .int) := ⟨_, _, _, rfl, by decide, rfl, by decide +kernel, Or.inr ⟨_, g_inN (g_m1 (List.mem_of_getElem? (i := 74) rfl)) rfl⟩⟩
theorem fk_X2_15 : g_FK RX2 15 2 2 true (.array .int) := ⟨_, _, _, rfl, by decide, rfl, by decide +kernel, Or.inl (g_in (g_m1 (List.mem_of_getElem? (i := 75) rfl)) rfl)⟩
theorem fk_X8_108 : g_FK RX8 108 2 2 true (.array .int) := ⟨_, _, _, rfl, by decide, rfl, by decide +kernel, Or.inr ⟨_, g_inN (g_m1 (List.mem_of_getElem? (i := 76) rfl)) rfl⟩⟩
theorem fk_X6_80 : g_FK RX6 80 2 2 true (.array .int) := ⟨_, _, _, rfl, by decide, rfl, by decide +kernel, Or.inr ⟨_, g_inN (g_m1 (List.mem_of_getElem? (i := 77) rfl)) rfl⟩⟩
theorem fk_X10_230 : g_FK RX10 230 2 2 true (.array .int) := ⟨_, _, _, rfl, by decide, rfl, by decide +kernel, Or.inr ⟨_, g_inN (g_m1 (List.mem_of_getElem? (i := 78) rfl)) rfl⟩⟩
theorem fk_X3_155 : g_FK RX3 155 2 2 true (.array .int) := ⟨_, _, _, rfl, by decide, rfl, by decide +kernel, Or.inr ⟨_, g_inN (g_m1 (List.mem_of_getElem? (i := 79) rfl)) rfl⟩⟩
theorem fk_X2_18 : g_FK RX2 18 2 3 true (.array .int) := ⟨_, _, _, rfl, by decide, rfl, by decide +kernel, Or.inl (g_in (g_m1 (List.mem_of_getElem? (i := 80) rfl)) rfl)⟩
theorem fk_X8_105 : g_FK RX8 105 2 3 true (.array .int) := ⟨_, _, _, rfl, by decide, rfl, by decide +kernel, Or.inr ⟨_, g_inN (g_m1 (List.mem_of_getElem? (i := 81) rfl)) rfl⟩⟩
theorem fk_X10_197 : g_FK RX10 197 2 3 true (.array .int) := ⟨_, _, _, rfl, by decide, rfl, by decide +kernel, Or.inr ⟨_, g_inN (g_m1 (List.mem_of_getElem? (i := 82) rfl)) rfl⟩⟩
theorem fk_X3_158 : g_FK RX3 158 2 3 true (.array .int) := ⟨_, _, _, rfl, by decide, rfl, by decide +kernel, Or.inr ⟨_, g_inN (g_m1 (List.mem_of_getElem? (i := 83) rfl)) rfl⟩⟩
theorem fk_X2_21 : g_FK RX2 21 2 4 true (.array .int) := ⟨_, _, _, rfl, by decide, rfl, by decide +kernel, Or.inl (g_in (g_m1 (List.mem_of_getElem? (i := 84) rfl)) rfl)⟩
theorem fk_X10_176 : g_FK RX10 176 2 4 true (.array .int) := ⟨_, _, _, rfl, by decide, rfl, by decide +kernel, Or.inr ⟨_, g_inN (g_m1 (List.mem_of_getElem? (i := 85) rfl)) rfl⟩⟩
theorem fk_X6_44 : g_FK RX6 44 6 0 false .int := ⟨_, _, _, rfl, by decide, rfl, by decide +kernel, Or.inl (g_in (g_m1 (List.mem_of_getElem? (i := 97) rfl)) rfl)⟩
theorem fk_X9_53 : g_FK RX9 53 6 0 false .int := ⟨_, _, _, rfl, by decide, rfl, by decide +kernel, Or.inr ⟨_, g_inN (g_m1 (List.mem_of_getElem? (i := 98) rfl)) rfl⟩⟩
theorem fk_X10_139 : g_FK RX10 139 6 0 false .int := ⟨_, _, _, rfl, by decide, rfl, by decide +kernel, Or.inr ⟨_, g_inN (g_m1 (List.mem_of_getElem? (i := 99) rfl)) rfl⟩⟩
theorem fk_X3_113 : g_FK RX3 113 6 0 false .int := ⟨_, _, _, rfl, by decide, rfl, by decide +kernel, Or.inr ⟨_, g_inN (g_m1 (List.mem_of_getElem? (i := 100) rfl)) rfl⟩⟩
theorem fk_X6_48 : g_FK RX6 48 6 1 false .int := ⟨_, _, _, rfl, by decide, rfl, by decide +kernel, Or.inl (g_in (g_m1 (List.mem_of_getElem? (i := 101) rfl)) rfl)⟩
theorem fk_X8_48 : g_FK RX8 48 6 1 false .int := ⟨_, _, _, rfl, by decide, rfl, by decide +kernel, Or.inr ⟨_, g_inN (g_m1 (List.mem_of_getElem? (i := 102) rfl)) rfl⟩⟩
theorem fk_X10_142 : g_FK RX10 142 6 1 false .int := ⟨_, _, _, rfl, by decide, rfl, by decide +kernel, Or.inr ⟨_, g_inN (g_m1 (List.mem_of_getElem? (i := 103) rfl)) rfl⟩⟩
theorem fk_X3_140 : g_FK RX3 140 6 1 false .int := ⟨_, _, _, rfl, by decide, rfl, by decide +kernel, Or.inr ⟨_, g_inN (g_m1 (List.mem_of_getElem? (i := 104) rfl)) rfl⟩⟩
theorem fk_X9_120 : g_FK RX9 120 6 1 false .int := ⟨_, _, _, rfl, by decide, rfl, by decide +kernel, Or.inr ⟨_, g_inN (g_m1 (List.mem_of_getElem? (i := 105) rfl)) rfl⟩⟩
theorem fk_X6_9 : g_FK RX6 9 6 2 true (.array .int) := ⟨_, _, _, rfl, by decide, rfl, by decide +kernel, Or.inl (g_in (g_m1 (List.mem_of_getElem? (i := 106) rfl)) rfl)⟩
theorem fk_X9_90 : g_FK RX9 90 6 2 true (.array .int) := ⟨_, _, _, rfl, by decide, rfl, by decide +kernel, Or.inr ⟨_, g_inN (g_m1 (List.mem_of_getElem? (i := 107) rfl)) rfl⟩⟩
theorem fk_X8_128 : g_FK RX8 128 6 2 true (.array .int) := ⟨_, _, _, rfl, by decide, rfl, by decide +kernel, Or.inr ⟨_, g_inN (g_m1 (List.mem_of_getElem? (i := 108) rfl)) rfl⟩⟩
theorem fk_X10_188 : g_FK RX10 188 6 2 true (.array .int) := ⟨_, _, _, rfl, by decide, rfl, by decide +kernel, Or.inr ⟨_, g_inN (g_m1 (List.mem_of_getElem? (i := 109) rfl)) rfl⟩⟩
theorem fk_X3_123 : g_FK RX3 123 6 2 true (.array .int) := ⟨_, _, _, rfl, by decide, rfl, by decide +kernel, Or.inr ⟨_, g_inN (g_m1 (List.mem_of_getElem? (i := 110) rfl)) rfl⟩⟩
theorem fk_X6_15 : g_FK RX6 15 6 3 true (.array .int) := ⟨_, _, _, rfl, by decide, rfl, by decide +kernel, Or.inl (g_in (g_m1 (List.mem_of_getElem? (i := 111) rfl)) rfl)⟩
theorem fk_X10_191 : g_FK RX10 191 6 3 true (.array .int) := ⟨_, _, _, rfl, by decide, rfl, by decide +kernel, Or.inr ⟨_, g_inN (g_m1 (List.mem_of_getElem? (i := 112) rfl)) rfl⟩⟩
theorem fk_X3_127 : g_FK RX3 127 6 3 true (.array .int) := ⟨_, _, _, rfl, by decide, rfl, by decide +kernel, Or.inr ⟨_, g_inN (g_m1 (List.mem_of_getElem? (i := 113) rfl)) rfl⟩⟩
theorem fk_X9_140 : g_FK RX9 140 6 3 true (.array .int) := ⟨_, _, _, rfl, by decide, rfl, by decide +kernel, Or.inr ⟨_, g_inN (g_m1 (List.mem_of_getElem? (i := 114) rfl)) rfl⟩⟩
theorem fk_X6_18 : g_FK RX6 18 6 4 true (.array .int) := ⟨_, _, _, rfl, by decide, rfl, by decide +kernel, Or.inl (g_in (g_m1 (List.mem_of_getElem? (i := 115) rfl)) rfl)⟩
theorem fk_X9_76 : g_FK RX9 76 6 4 true (.array .int) := ⟨_, _, _, rfl, by decide, rfl, by decide +kernel, Or.inr ⟨_, g_inN (g_m1 (List.mem_of_getElem? (i := 116) rfl)) rfl⟩⟩
theorem fk_X8_58 : g_FK RX8 58 6 4 true (.array .int) := ⟨_, _, _, rfl, by decide, rfl, by decide +kernel, Or.inr ⟨_, g_inN (g_m1 (List.mem_of_getElem? (i := 117) rfl)) rfl⟩⟩
theorem fk_X10_194 : g_FK RX10 194 6 4 true (.array .int) := ⟨_, _, _, rfl, by decide, rfl, by decide +kernel, Or.inr ⟨_, g_inN (g_m1 (List.mem_of_getElem? (i := 118) rfl)) rfl⟩⟩
theorem fk_X3_133 : g_FK RX3 133 6 4 true (.array .int) := ⟨_, _, _, rfl, by decide, rfl, by decide +kernel, Or.inr ⟨_, g_inN (g_m1 (List.mem_of_getElem? (i := 119) rfl)) rfl⟩⟩
theorem fk_X6_21 : g_FK RX6 21 6 5 true (.array .int) := ⟨_, _, _, rfl, by decide, rfl, by decide +kernel, Or.inl (g_in (g_m1 (List.mem_of_getElem? (i := 120) rfl)) rfl)⟩
theorem fk_X6_24 : g_FK RX6 24 6 6 true (.array .int) := ⟨_, _, _, rfl, by decide, rfl, by decide +kernel, Or.inl (g_in (g_m1 (List.mem_of_getElem? (i := 121) rfl)) rfl)⟩
theorem fk_X8_134 : g_FK RX8 134 6 6 true (.array .int) := ⟨_, _, _, rfl, by decide, rfl, by decide +kernel, Or.inr ⟨_, g_inN (g_m1 (List.mem_of_getElem? (i := 122) rfl)) rfl⟩⟩
theorem fk_X10_227 : g_FK RX10 227 6 6 true (.array .int) := ⟨_, _, _, rfl, by decide, rfl, by decide +kernel, Or.inr ⟨_, g_inN (g_m1 (List.mem_of_getElem? (i := 123) rfl)) rfl⟩⟩
theorem fk_X3_152 : g_FK RX3 152 6 6 true (.array .int) := ⟨_, _, _, rfl, by decide, rfl, by decide +kernel, Or.inr ⟨_, g_inN (g_m1 (List.mem_of_getElem? (i := 124) rfl)) rfl⟩⟩
theorem fk_X3_24 : g_FK RX3 24 6 7 true (.object "TurnPosts$Rule") := ⟨_, _, _, rfl, by decide, rfl, by decide +kernel, Or.inr ⟨_, g_inN (g_m1 (List.mem_of_getElem? (i := 125) rfl)) rfl⟩⟩
theorem fk_X6_30 : g_FK RX6 30 6 7 true (.object "TurnPosts$Rule") := ⟨_, _, _, rfl, by decide, rfl, by decide +kernel, Or.inl (g_in (g_m1 (List.mem_of_getElem? (i := 126) rfl)) rfl)⟩
theorem fk_X8_71 : g_FK RX8 71 6 7 true (.object "TurnPosts$Rule") := ⟨_, _, _, rfl, by decide, rfl, by decide +kernel, Or.inr ⟨_, g_inN (g_m1 (List.mem_of_getElem? (i := 127) rfl)) rfl⟩⟩
theorem fk_X6_34 : g_FK RX6 34 6 8 true (.object "TurnPosts$Rule") := ⟨_, _, _, rfl, by decide, rfl, by decide +kernel, Or.inl (g_in (g_m1 (List.mem_of_getElem? (i := 128) rfl)) rfl)⟩
theorem fk_X3_91 : g_FK RX3 91 6 8 true (.object "TurnPosts$Rule") := ⟨_, _, _, rfl, by decide, rfl, by decide +kernel, Or.inr ⟨_, g_inN (g_m1 (List.mem_of_getElem? (i := 129) rfl)) rfl⟩⟩
theorem fk_X8_79 : g_FK RX8 79 6 8 true (.object "TurnPosts$Rule") := ⟨_, _, _, rfl, by decide, rfl, by decide +kernel, Or.inr ⟨_, g_inN (g_m1 (List.mem_of_getElem? (i := 130) rfl)) rfl⟩⟩
theorem fk_X6_40 : g_FK RX6 40 6 9 true (.object "TurnPosts$Moment") := ⟨_, _, _, rfl, by decide, rfl, by decide +kernel, Or.inl (g_in (g_m1 (List.mem_of_getElem? (i := 131) rfl)) rfl)⟩
theorem fk_X10_120 : g_FK RX10 120 6 9 true (.object "TurnPosts$Moment") := ⟨_, _, _, rfl, by decide, rfl, by decide +kernel, Or.inr ⟨_, g_inN (g_m1 (List.mem_of_getElem? (i := 132) rfl)) rfl⟩⟩
theorem fk_X3_143 : g_FK RX3 143 6 9 true (.object "TurnPosts$Moment") := ⟨_, _, _, rfl, by decide, rfl, by decide +kernel, Or.inr ⟨_, g_inN (g_m1 (List.mem_of_getElem? (i := 133) rfl)) rfl⟩⟩
theorem fk_X7_7 : g_FK RX7 7 7 0 true (.array .int) := ⟨_, _, _, rfl, by decide, rfl, by decide +kernel, Or.inl (g_in (g_m1 (List.mem_of_getElem? (i := 167) rfl)) rfl)⟩
theorem fk_X7_19 : g_FK RX7 19 7 1 false .int := ⟨_, _, _, rfl, by decide, rfl, by decide +kernel, Or.inl (g_in (g_m1 (List.mem_of_getElem? (i := 168) rfl)) rfl)⟩
theorem fk_X7_23 : g_FK RX7 23 7 2 false .int := ⟨_, _, _, rfl, by decide, rfl, by decide +kernel, Or.inl (g_in (g_m1 (List.mem_of_getElem? (i := 169) rfl)) rfl)⟩
theorem fk_X3_47 : g_FK RX3 47 7 3 false .int := ⟨_, _, _, rfl, by decide, rfl, by decide +kernel, Or.inr ⟨_, g_inN (g_m1 (List.mem_of_getElem? (i := 170) rfl)) rfl⟩⟩
theorem fk_X7_39 : g_FK RX7 39 7 3 false .int := ⟨_, _, _, rfl, by decide, rfl, by decide +kernel, Or.inl (g_in (g_m1 (List.mem_of_getElem? (i := 171) rfl)) rfl)⟩
theorem fk_X3_54 : g_FK RX3 54 7 4 false .int := ⟨_, _, _, rfl, by decide, rfl, by decide +kernel, Or.inr ⟨_, g_inN (g_m1 (List.mem_of_getElem? (i := 172) rfl)) rfl⟩⟩
theorem fk_X7_29 : g_FK RX7 29 7 4 false .int := ⟨_, _, _, rfl, by decide, rfl, by decide +kernel, Or.inl (g_in (g_m1 (List.mem_of_getElem? (i := 173) rfl)) rfl)⟩
theorem fk_X7_32 : g_FK RX7 32 7 5 false .int := ⟨_, _, _, rfl, by decide, rfl, by decide +kernel, Or.inl (g_in (g_m1 (List.mem_of_getElem? (i := 174) rfl)) rfl)⟩
theorem fk_X3_110 : g_FK RX3 110 7 5 false .int := ⟨_, _, _, rfl, by decide, rfl, by decide +kernel, Or.inr ⟨_, g_inN (g_m1 (List.mem_of_getElem? (i := 175) rfl)) rfl⟩⟩
theorem fk_X3_14 : g_FK RX3 14 3 0 true (.object "TurnPosts$Tokens") := ⟨_, _, _, rfl, by decide, rfl, by decide +kernel, Or.inl (g_in (g_m1 (List.mem_of_getElem? (i := 189) rfl)) rfl)⟩
theorem fk_X3_20 : g_FK RX3 20 3 1 false (.object "TurnPosts$Shire") := ⟨_, _, _, rfl, by decide, rfl, by decide +kernel, Or.inl (g_in (g_m1 (List.mem_of_getElem? (i := 190) rfl)) rfl)⟩
theorem fk_X3_30 : g_FK RX3 30 3 2 false (.object "TurnPosts$Rule") := ⟨_, _, _, rfl, by decide, rfl, by decide +kernel, Or.inl (g_in (g_m1 (List.mem_of_getElem? (i := 191) rfl)) rfl)⟩
theorem fk_X3_36 : g_FK RX3 36 3 3 false .int := ⟨_, _, _, rfl, by decide, rfl, by decide +kernel, Or.inl (g_in (g_m1 (List.mem_of_getElem? (i := 192) rfl)) rfl)⟩
theorem fk_X3_40 : g_FK RX3 40 3 4 false .int := ⟨_, _, _, rfl, by decide, rfl, by decide +kernel, Or.inl (g_in (g_m1 (List.mem_of_getElem? (i := 193) rfl)) rfl)⟩
theorem fk_X3_57 : g_FK RX3 57 3 5 false .int := ⟨_, _, _, rfl, by decide, rfl, by decide +kernel, Or.inl (g_in (g_m1 (List.mem_of_getElem? (i := 194) rfl)) rfl)⟩
theorem fk_X10_119 : g_FK RX10 119 3 5 false .int := ⟨_, _, _, rfl, by decide, rfl, by decide +kernel, Or.inr ⟨_, g_inN (g_m1 (List.mem_of_getElem? (i := 195) rfl)) rfl⟩⟩
theorem fk_X0_11 : g_FK RX0 11 0 0 true (.array .int) := ⟨_, _, _, rfl, by decide, rfl, by decide +kernel, Or.inl (g_in (g_m1 (List.mem_of_getElem? (i := 217) rfl)) rfl)⟩
theorem fk_X0_17 : g_FK RX0 17 0 1 false .int := ⟨_, _, _, rfl, by decide, rfl, by decide +kernel, Or.inl (g_in (g_m1 (List.mem_of_getElem? (i := 218) rfl)) rfl)⟩
theorem fk_X0_21 : g_FK RX0 21 0 2 false .int := ⟨_, _, _, rfl, by decide, rfl, by decide +kernel, Or.inl (g_in (g_m1 (List.mem_of_getElem? (i := 219) rfl)) rfl)⟩
theorem fk_X10_172 : g_FK RX10 172 0 2 false .int := ⟨_, _, _, rfl, by decide, rfl, by decide +kernel, Or.inr ⟨_, g_inN (g_m1 (List.mem_of_getElem? (i := 220) rfl)) rfl⟩⟩
theorem fk_X5_9 : g_FK RX5 9 5 0 true (.array .int) := ⟨_, _, _, rfl, by decide, rfl, by decide +kernel, Or.inl (g_in (g_m1 (List.mem_of_getElem? (i := 234) rfl)) rfl)⟩
theorem fk_X5_15 : g_FK RX5 15 5 1 true (.array .int) := ⟨_, _, _, rfl, by decide, rfl, by decide +kernel, Or.inl (g_in (g_m1 (List.mem_of_getElem? (i := 235) rfl)) rfl)⟩
theorem fk_X5_18 : g_FK RX5 18 5 2 true (.array .int) := ⟨_, _, _, rfl, by decide, rfl, by decide +kernel, Or.inl (g_in (g_m1 (List.mem_of_getElem? (i := 236) rfl)) rfl)⟩
theorem fk_X5_21 : g_FK RX5 21 5 3 false .int := ⟨_, _, _, rfl, by decide, rfl, by decide +kernel, Or.inl (g_in (g_m1 (List.mem_of_getElem? (i := 237) rfl)) rfl)⟩
theorem fk_X10_175 : g_FK RX10 175 5 3 false .int := ⟨_, _, _, rfl, by decide, rfl, by decide +kernel, Or.inr ⟨_, g_inN (g_m1 (List.mem_of_getElem? (i := 238) rfl)) rfl⟩⟩
theorem fk_X8_30 : g_FK RX8 30 8 0 false (.object "TurnPosts$Shire") := ⟨_, _, _, rfl, by decide, rfl, by decide +kernel, Or.inl (g_in (g_m2 (List.mem_of_getElem? (i := 16) rfl)) rfl)⟩
theorem fk_X8_12 : g_FK RX8 12 8 1 true (.object "TurnPosts$Moment") := ⟨_, _, _, rfl, by decide, rfl, by decide +kernel, Or.inl (g_in (g_m2 (List.mem_of_getElem? (i := 17) rfl)) rfl)⟩
theorem fk_X5_35 : g_FK RX5 35 8 1 true (.object "TurnPosts$Moment") := ⟨_, _, _, rfl, by decide, rfl, by decide +kernel, Or.inr ⟨_, g_inN (g_m2 (List.mem_of_getElem? (i := 18) rfl)) rfl⟩⟩
theorem fk_X10_258 : g_FK RX10 258 8 1 true (.object "TurnPosts$Moment") := ⟨_, _, _, rfl, by decide, rfl, by decide +kernel, Or.inr ⟨_, g_inN (g_m2 (List.mem_of_getElem? (i := 19) rfl)) rfl⟩⟩
theorem fk_X8_18 : g_FK RX8 18 8 2 true (.array .int) := ⟨_, _, _, rfl, by decide, rfl, by decide +kernel, Or.inl (g_in (g_m2 (List.mem_of_getElem? (i := 20) rfl)) rfl)⟩
theorem fk_X10_274 : g_FK RX10 274 8 2 true (.array .int) := ⟨_, _, _, rfl, by decide, rfl, by decide +kernel, Or.inr ⟨_, g_inN (g_m2 (List.mem_of_getElem? (i := 21) rfl)) rfl⟩⟩
theorem fk_X8_22 : g_FK RX8 22 8 3 true (.array .int) := ⟨_, _, _, rfl, by decide, rfl, by decide +kernel, Or.inl (g_in (g_m2 (List.mem_of_getElem? (i := 22) rfl)) rfl)⟩
theorem fk_X10_284 : g_FK RX10 284 8 3 true (.array .int) := ⟨_, _, _, rfl, by decide, rfl, by decide +kernel, Or.inr ⟨_, g_inN (g_m2 (List.mem_of_getElem? (i := 23) rfl)) rfl⟩⟩
theorem fk_X8_27 : g_FK RX8 27 8 4 true (.array .int) := ⟨_, _, _, rfl, by decide, rfl, by decide +kernel, Or.inl (g_in (g_m2 (List.mem_of_getElem? (i := 24) rfl)) rfl)⟩
theorem fk_X9_36 : g_FK RX9 36 9 0 false (.object "TurnPosts$Shire") := ⟨_, _, _, rfl, by decide, rfl, by decide +kernel, Or.inl (g_in (g_m2 (List.mem_of_getElem? (i := 42) rfl)) rfl)⟩
theorem fk_X9_9 : g_FK RX9 9 9 1 true (.array .int) := ⟨_, _, _, rfl, by decide, rfl, by decide +kernel, Or.inl (g_in (g_m2 (List.mem_of_getElem? (i := 43) rfl)) rfl)⟩
theorem fk_X9_15 : g_FK RX9 15 9 2 true (.array .int) := ⟨_, _, _, rfl, by decide, rfl, by decide +kernel, Or.inl (g_in (g_m2 (List.mem_of_getElem? (i := 44) rfl)) rfl)⟩
theorem fk_X9_18 : g_FK RX9 18 9 3 true (.array .int) := ⟨_, _, _, rfl, by decide, rfl, by decide +kernel, Or.inl (g_in (g_m2 (List.mem_of_getElem? (i := 45) rfl)) rfl)⟩
theorem fk_X10_417 : g_FK RX10 417 9 3 true (.array .int) := ⟨_, _, _, rfl, by decide, rfl, by decide +kernel, Or.inr ⟨_, g_inN (g_m2 (List.mem_of_getElem? (i := 46) rfl)) rfl⟩⟩
theorem fk_X9_21 : g_FK RX9 21 9 4 true (.array .int) := ⟨_, _, _, rfl, by decide, rfl, by decide +kernel, Or.inl (g_in (g_m2 (List.mem_of_getElem? (i := 47) rfl)) rfl)⟩
theorem fk_X10_207 : g_FK RX10 207 9 4 true (.array .int) := ⟨_, _, _, rfl, by decide, rfl, by decide +kernel, Or.inr ⟨_, g_inN (g_m2 (List.mem_of_getElem? (i := 48) rfl)) rfl⟩⟩
theorem fk_X9_24 : g_FK RX9 24 9 5 true (.array .int) := ⟨_, _, _, rfl, by decide, rfl, by decide +kernel, Or.inl (g_in (g_m2 (List.mem_of_getElem? (i := 49) rfl)) rfl)⟩
theorem fk_X9_27 : g_FK RX9 27 9 6 true (.array .int) := ⟨_, _, _, rfl, by decide, rfl, by decide +kernel, Or.inl (g_in (g_m2 (List.mem_of_getElem? (i := 50) rfl)) rfl)⟩
theorem fk_X9_30 : g_FK RX9 30 9 7 true (.array .int) := ⟨_, _, _, rfl, by decide, rfl, by decide +kernel, Or.inl (g_in (g_m2 (List.mem_of_getElem? (i := 51) rfl)) rfl)⟩
theorem fk_X10_242 : g_FK RX10 242 9 7 true (.array .int) := ⟨_, _, _, rfl, by decide, rfl, by decide +kernel, Or.inr ⟨_, g_inN (g_m2 (List.mem_of_getElem? (i := 52) rfl)) rfl⟩⟩
theorem fk_X9_143 : g_FK RX9 143 9 8 false .int := ⟨_, _, _, rfl, by decide, rfl, by decide +kernel, Or.inl (g_in (g_m2 (List.mem_of_getElem? (i := 53) rfl)) rfl)⟩
theorem fk_X10_385 : g_FK RX10 385 9 8 false .int := ⟨_, _, _, rfl, by decide, rfl, by decide +kernel, Or.inr ⟨_, g_inN (g_m2 (List.mem_of_getElem? (i := 54) rfl)) rfl⟩⟩
theorem fk_X9_146 : g_FK RX9 146 9 9 false .int := ⟨_, _, _, rfl, by decide, rfl, by decide +kernel, Or.inl (g_in (g_m2 (List.mem_of_getElem? (i := 55) rfl)) rfl)⟩
theorem fk_X10_388 : g_FK RX10 388 9 9 false .int := ⟨_, _, _, rfl, by decide, rfl, by decide +kernel, Or.inr ⟨_, g_inN (g_m2 (List.mem_of_getElem? (i := 56) rfl)) rfl⟩⟩
theorem fk_X9_33 : g_FK RX9 33 9 10 true (.array .int) := ⟨_, _, _, rfl, by decide, rfl, by decide +kernel, Or.inl (g_in (g_m2 (List.mem_of_getElem? (i := 57) rfl)) rfl)⟩
theorem fk_X1_7 : g_FK RX1 7 1 0 false .int := ⟨_, _, _, rfl, by decide, rfl, by decide +kernel, Or.inl (g_in (g_m2 (List.mem_of_getElem? (i := 87) rfl)) rfl)⟩
theorem fk_X10_364 : g_FK RX10 364 1 0 false .int := ⟨_, _, _, rfl, by decide, rfl, by decide +kernel, Or.inr ⟨_, g_inN (g_m2 (List.mem_of_getElem? (i := 88) rfl)) rfl⟩⟩
theorem fk_X10_9 : g_FK RX10 9 10 0 true (.array .int) := ⟨_, _, _, rfl, by decide, rfl, by decide +kernel, Or.inl (g_in (g_m2 (List.mem_of_getElem? (i := 92) rfl)) rfl)⟩
theorem fk_X10_101 : g_FK RX10 101 10 1 false .int := ⟨_, _, _, rfl, by decide, rfl, by decide +kernel, Or.inl (g_in (g_m2 (List.mem_of_getElem? (i := 93) rfl)) rfl)⟩
theorem fk_X10_13 : g_FK RX10 13 10 2 false .int := ⟨_, _, _, rfl, by decide, rfl, by decide +kernel, Or.inl (g_in (g_m2 (List.mem_of_getElem? (i := 94) rfl)) rfl)⟩
theorem fk_X10_20 : g_FK RX10 20 10 3 false (.object "TurnPosts$Shire") := ⟨_, _, _, rfl, by decide, rfl, by decide +kernel, Or.inl (g_in (g_m2 (List.mem_of_getElem? (i := 95) rfl)) rfl)⟩
theorem fk_X10_24 : g_FK RX10 24 10 4 false (.object "TurnPosts$Shire") := ⟨_, _, _, rfl, by decide, rfl, by decide +kernel, Or.inl (g_in (g_m2 (List.mem_of_getElem? (i := 96) rfl)) rfl)⟩
theorem fk_X10_32 : g_FK RX10 32 10 5 true (.object "TurnPosts$Reader") := ⟨_, _, _, rfl, by decide, rfl, by decide +kernel, Or.inl (g_in (g_m2 (List.mem_of_getElem? (i := 97) rfl)) rfl)⟩
theorem fk_X10_39 : g_FK RX10 39 10 6 true (.object "TurnPosts$Moment") := ⟨_, _, _, rfl, by decide, rfl, by decide +kernel, Or.inl (g_in (g_m2 (List.mem_of_getElem? (i := 98) rfl)) rfl)⟩
theorem fk_X10_46 : g_FK RX10 46 10 7 true (.object "TurnPosts$Acts") := ⟨_, _, _, rfl, by decide, rfl, by decide +kernel, Or.inl (g_in (g_m2 (List.mem_of_getElem? (i := 99) rfl)) rfl)⟩
theorem fk_X10_53 : g_FK RX10 53 10 8 true (.object "TurnPosts$Seen") := ⟨_, _, _, rfl, by decide, rfl, by decide +kernel, Or.inl (g_in (g_m2 (List.mem_of_getElem? (i := 100) rfl)) rfl)⟩
theorem fk_X10_131 : g_FK RX10 131 10 9 false .boolean := ⟨_, _, _, rfl, by decide, rfl, by decide +kernel, Or.inl (g_in (g_m2 (List.mem_of_getElem? (i := 101) rfl)) rfl)⟩
theorem fk_X10_57 : g_FK RX10 57 10 10 true (.object "TurnPosts$Moment") := ⟨_, _, _, rfl, by decide, rfl, by decide +kernel, Or.inl (g_in (g_m2 (List.mem_of_getElem? (i := 102) rfl)) rfl)⟩
theorem fk_X10_60 : g_FK RX10 60 10 11 true (.object "TurnPosts$Acts") := ⟨_, _, _, rfl, by decide, rfl, by decide +kernel, Or.inl (g_in (g_m2 (List.mem_of_getElem? (i := 103) rfl)) rfl)⟩
theorem fk_X10_63 : g_FK RX10 63 10 12 true (.object "TurnPosts$Seen") := ⟨_, _, _, rfl, by decide, rfl, by decide +kernel, Or.inl (g_in (g_m2 (List.mem_of_getElem? (i := 104) rfl)) rfl)⟩
theorem fk_X10_66 : g_FK RX10 66 10 13 true (.array .int) := ⟨_, _, _, rfl, by decide, rfl, by decide +kernel, Or.inl (g_in (g_m2 (List.mem_of_getElem? (i := 105) rfl)) rfl)⟩
theorem fk_X10_74 : g_FK RX10 74 10 14 true (.object "TurnPosts$Trip") := ⟨_, _, _, rfl, by decide, rfl, by decide +kernel, Or.inl (g_in (g_m2 (List.mem_of_getElem? (i := 106) rfl)) rfl)⟩
theorem fk_X10_81 : g_FK RX10 81 10 15 true (.object "TurnPosts$Ways") := ⟨_, _, _, rfl, by decide, rfl, by decide +kernel, Or.inl (g_in (g_m2 (List.mem_of_getElem? (i := 107) rfl)) rfl)⟩
theorem fk_X10_88 : g_FK RX10 88 10 16 true (.object "TurnPosts$Draws") := ⟨_, _, _, rfl, by decide, rfl, by decide +kernel, Or.inl (g_in (g_m2 (List.mem_of_getElem? (i := 108) rfl)) rfl)⟩
theorem fk_X10_92 : g_FK RX10 92 10 17 true (.array .int) := ⟨_, _, _, rfl, by decide, rfl, by decide +kernel, Or.inl (g_in (g_m2 (List.mem_of_getElem? (i := 109) rfl)) rfl)⟩
theorem fk_X10_95 : g_FK RX10 95 10 18 true (.array .int) := ⟨_, _, _, rfl, by decide, rfl, by decide +kernel, Or.inl (g_in (g_m2 (List.mem_of_getElem? (i := 110) rfl)) rfl)⟩
theorem fk_X10_98 : g_FK RX10 98 10 19 true (.array .int) := ⟨_, _, _, rfl, by decide, rfl, by decide +kernel, Or.inl (g_in (g_m2 (List.mem_of_getElem? (i := 111) rfl)) rfl)⟩
theorem fk_X11_132 : g_FK RX11 132 11 0 false .int := ⟨_, _, _, rfl, by decide, rfl, by decide +kernel, Or.inl (g_in (g_m6 (List.mem_of_getElem? (i := 226) rfl)) rfl)⟩
theorem fk_X11_302 : g_FK RX11 302 11 1 false .int := ⟨_, _, _, rfl, by decide, rfl, by decide +kernel, Or.inl (g_in (g_m6 (List.mem_of_getElem? (i := 227) rfl)) rfl)⟩
theorem fk_X11_305 : g_FK RX11 305 11 2 false .int := ⟨_, _, _, rfl, by decide, rfl, by decide +kernel, Or.inl (g_in (g_m6 (List.mem_of_getElem? (i := 228) rfl)) rfl)⟩
theorem fk_X11_9 : g_FK RX11 9 11 3 false .int := ⟨_, _, _, rfl, by decide, rfl, by decide +kernel, Or.inl (g_in (g_m6 (List.mem_of_getElem? (i := 229) rfl)) rfl)⟩
theorem fk_X11_13 : g_FK RX11 13 11 4 false .int := ⟨_, _, _, rfl, by decide, rfl, by decide +kernel, Or.inl (g_in (g_m6 (List.mem_of_getElem? (i := 230) rfl)) rfl)⟩
theorem fk_X11_16 : g_FK RX11 16 11 5 true (.array .int) := ⟨_, _, _, rfl, by decide, rfl, by decide +kernel, Or.inl (g_in (g_m6 (List.mem_of_getElem? (i := 231) rfl)) rfl)⟩
theorem fk_X11_20 : g_FK RX11 20 11 6 true (.array .int) := ⟨_, _, _, rfl, by decide, rfl, by decide +kernel, Or.inl (g_in (g_m6 (List.mem_of_getElem? (i := 232) rfl)) rfl)⟩
theorem fk_X11_23 : g_FK RX11 23 11 7 true (.array .int) := ⟨_, _, _, rfl, by decide, rfl, by decide +kernel, Or.inl (g_in (g_m6 (List.mem_of_getElem? (i := 233) rfl)) rfl)⟩
theorem fk_X11_26 : g_FK RX11 26 11 8 true (.array .int) := ⟨_, _, _, rfl, by decide, rfl, by decide +kernel, Or.inl (g_in (g_m6 (List.mem_of_getElem? (i := 234) rfl)) rfl)⟩
theorem fk_X11_29 : g_FK RX11 29 11 9 true (.array .int) := ⟨_, _, _, rfl, by decide, rfl, by decide +kernel, Or.inl (g_in (g_m6 (List.mem_of_getElem? (i := 235) rfl)) rfl)⟩
theorem fk_X11_32 : g_FK RX11 32 11 10 true (.array .int) := ⟨_, _, _, rfl, by decide, rfl, by decide +kernel, Or.inl (g_in (g_m6 (List.mem_of_getElem? (i := 236) rfl)) rfl)⟩
theorem fk_X11_35 : g_FK RX11 35 11 11 true (.array .int) := ⟨_, _, _, rfl, by decide, rfl, by decide +kernel, Or.inl (g_in (g_m6 (List.mem_of_getElem? (i := 237) rfl)) rfl)⟩
theorem fk_X11_135 : g_FK RX11 135 11 12 false .int := ⟨_, _, _, rfl, by decide, rfl, by decide +kernel, Or.inl (g_in (g_m6 (List.mem_of_getElem? (i := 238) rfl)) rfl)⟩
theorem fk_X11_188 : g_FK RX11 188 11 13 false .int := ⟨_, _, _, rfl, by decide, rfl, by decide +kernel, Or.inl (g_in (g_m6 (List.mem_of_getElem? (i := 239) rfl)) rfl)⟩
theorem fk_X11_38 : g_FK RX11 38 11 14 false .int := ⟨_, _, _, rfl, by decide, rfl, by decide +kernel, Or.inl (g_in (g_m7 (List.mem_of_getElem? (i := 0) rfl)) rfl)⟩
theorem fk_X11_41 : g_FK RX11 41 11 15 true (.array .int) := ⟨_, _, _, rfl, by decide, rfl, by decide +kernel, Or.inl (g_in (g_m7 (List.mem_of_getElem? (i := 1) rfl)) rfl)⟩
theorem fk_X11_142 : g_FK RX11 142 11 16 false .int := ⟨_, _, _, rfl, by decide, rfl, by decide +kernel, Or.inl (g_in (g_m7 (List.mem_of_getElem? (i := 2) rfl)) rfl)⟩
theorem fk_X11_145 : g_FK RX11 145 11 17 false .int := ⟨_, _, _, rfl, by decide, rfl, by decide +kernel, Or.inl (g_in (g_m7 (List.mem_of_getElem? (i := 3) rfl)) rfl)⟩
theorem fk_X11_165 : g_FK RX11 165 11 18 false .int := ⟨_, _, _, rfl, by decide, rfl, by decide +kernel, Or.inl (g_in (g_m7 (List.mem_of_getElem? (i := 4) rfl)) rfl)⟩
theorem fk_X11_152 : g_FK RX11 152 11 19 false .int := ⟨_, _, _, rfl, by decide, rfl, by decide +kernel, Or.inl (g_in (g_m7 (List.mem_of_getElem? (i := 5) rfl)) rfl)⟩
theorem fk_X11_175 : g_FK RX11 175 11 20 false .int := ⟨_, _, _, rfl, by decide, rfl, by decide +kernel, Or.inl (g_in (g_m7 (List.mem_of_getElem? (i := 6) rfl)) rfl)⟩
theorem fk_X11_159 : g_FK RX11 159 11 21 false .int := ⟨_, _, _, rfl, by decide, rfl, by decide +kernel, Or.inl (g_in (g_m7 (List.mem_of_getElem? (i := 7) rfl)) rfl)⟩
theorem fk_X11_162 : g_FK RX11 162 11 22 false .int := ⟨_, _, _, rfl, by decide, rfl, by decide +kernel, Or.inl (g_in (g_m7 (List.mem_of_getElem? (i := 8) rfl)) rfl)⟩
theorem fk_X11_155 : g_FK RX11 155 11 23 false .long := ⟨_, _, _, rfl, by decide, rfl, by decide +kernel, Or.inl (g_in (g_m7 (List.mem_of_getElem? (i := 9) rfl)) rfl)⟩
theorem fk_X11_254 : g_FK RX11 254 11 24 false .int := ⟨_, _, _, rfl, by decide, rfl, by decide +kernel, Or.inl (g_in (g_m7 (List.mem_of_getElem? (i := 10) rfl)) rfl)⟩
theorem fk_X11_264 : g_FK RX11 264 11 25 false .int := ⟨_, _, _, rfl, by decide, rfl, by decide +kernel, Or.inl (g_in (g_m7 (List.mem_of_getElem? (i := 11) rfl)) rfl)⟩
theorem fk_X11_283 : g_FK RX11 283 11 26 false .int := ⟨_, _, _, rfl, by decide, rfl, by decide +kernel, Or.inl (g_in (g_m7 (List.mem_of_getElem? (i := 12) rfl)) rfl)⟩
theorem fk_X11_289 : g_FK RX11 289 11 27 false .int := ⟨_, _, _, rfl, by decide, rfl, by decide +kernel, Or.inl (g_in (g_m7 (List.mem_of_getElem? (i := 13) rfl)) rfl)⟩
theorem fk_X11_201 : g_FK RX11 201 11 28 false .int := ⟨_, _, _, rfl, by decide, rfl, by decide +kernel, Or.inl (g_in (g_m7 (List.mem_of_getElem? (i := 14) rfl)) rfl)⟩
theorem fk_X11_220 : g_FK RX11 220 11 29 false .int := ⟨_, _, _, rfl, by decide, rfl, by decide +kernel, Or.inl (g_in (g_m7 (List.mem_of_getElem? (i := 15) rfl)) rfl)⟩
theorem fk_X11_223 : g_FK RX11 223 11 30 false .int := ⟨_, _, _, rfl, by decide, rfl, by decide +kernel, Or.inl (g_in (g_m7 (List.mem_of_getElem? (i := 16) rfl)) rfl)⟩
theorem fk_X11_204 : g_FK RX11 204 11 31 false .int := ⟨_, _, _, rfl, by decide, rfl, by decide +kernel, Or.inl (g_in (g_m7 (List.mem_of_getElem? (i := 17) rfl)) rfl)⟩
theorem fk_X11_226 : g_FK RX11 226 11 32 false .int := ⟨_, _, _, rfl, by decide, rfl, by decide +kernel, Or.inl (g_in (g_m7 (List.mem_of_getElem? (i := 18) rfl)) rfl)⟩
theorem fk_X11_44 : g_FK RX11 44 11 33 true (.array .int) := ⟨_, _, _, rfl, by decide, rfl, by decide +kernel, Or.inl (g_in (g_m7 (List.mem_of_getElem? (i := 19) rfl)) rfl)⟩
theorem fk_X11_47 : g_FK RX11 47 11 34 true (.array .int) := ⟨_, _, _, rfl, by decide, rfl, by decide +kernel, Or.inl (g_in (g_m7 (List.mem_of_getElem? (i := 20) rfl)) rfl)⟩
theorem fk_X11_50 : g_FK RX11 50 11 35 true (.array .int) := ⟨_, _, _, rfl, by decide, rfl, by decide +kernel, Or.inl (g_in (g_m7 (List.mem_of_getElem? (i := 21) rfl)) rfl)⟩
theorem fk_X11_53 : g_FK RX11 53 11 36 true (.array .int) := ⟨_, _, _, rfl, by decide, rfl, by decide +kernel, Or.inl (g_in (g_m7 (List.mem_of_getElem? (i := 22) rfl)) rfl)⟩
theorem fk_X11_56 : g_FK RX11 56 11 37 true (.array .int) := ⟨_, _, _, rfl, by decide, rfl, by decide +kernel, Or.inl (g_in (g_m7 (List.mem_of_getElem? (i := 23) rfl)) rfl)⟩
theorem fk_X11_59 : g_FK RX11 59 11 38 true (.array .int) := ⟨_, _, _, rfl, by decide, rfl, by decide +kernel, Or.inl (g_in (g_m7 (List.mem_of_getElem? (i := 24) rfl)) rfl)⟩
theorem fk_X11_62 : g_FK RX11 62 11 39 true (.array .int) := ⟨_, _, _, rfl, by decide, rfl, by decide +kernel, Or.inl (g_in (g_m7 (List.mem_of_getElem? (i := 25) rfl)) rfl)⟩
theorem fk_X11_65 : g_FK RX11 65 11 40 true (.array .int) := ⟨_, _, _, rfl, by decide, rfl, by decide +kernel, Or.inl (g_in (g_m7 (List.mem_of_getElem? (i := 26) rfl)) rfl)⟩
theorem fk_X11_68 : g_FK RX11 68 11 41 true (.array .boolean) := ⟨_, _, _, rfl, by decide, rfl, by decide +kernel, Or.inl (g_in (g_m7 (List.mem_of_getElem? (i := 27) rfl)) rfl)⟩
theorem fk_X11_72 : g_FK RX11 72 11 42 true (.array .boolean) := ⟨_, _, _, rfl, by decide, rfl, by decide +kernel, Or.inl (g_in (g_m7 (List.mem_of_getElem? (i := 28) rfl)) rfl)⟩
theorem fk_X11_75 : g_FK RX11 75 11 43 true (.array .int) := ⟨_, _, _, rfl, by decide, rfl, by decide +kernel, Or.inl (g_in (g_m7 (List.mem_of_getElem? (i := 29) rfl)) rfl)⟩
theorem fk_X11_78 : g_FK RX11 78 11 44 true (.array .int) := ⟨_, _, _, rfl, by decide, rfl, by decide +kernel, Or.inl (g_in (g_m7 (List.mem_of_getElem? (i := 30) rfl)) rfl)⟩
theorem fk_X11_312 : g_FK RX11 312 11 45 false .int := ⟨_, _, _, rfl, by decide, rfl, by decide +kernel, Or.inl (g_in (g_m7 (List.mem_of_getElem? (i := 31) rfl)) rfl)⟩
theorem fk_X11_81 : g_FK RX11 81 11 46 true (.array .int) := ⟨_, _, _, rfl, by decide, rfl, by decide +kernel, Or.inl (g_in (g_m7 (List.mem_of_getElem? (i := 32) rfl)) rfl)⟩
theorem fk_X11_84 : g_FK RX11 84 11 47 true (.array .int) := ⟨_, _, _, rfl, by decide, rfl, by decide +kernel, Or.inl (g_in (g_m7 (List.mem_of_getElem? (i := 33) rfl)) rfl)⟩
theorem fk_X11_87 : g_FK RX11 87 11 48 true (.array .int) := ⟨_, _, _, rfl, by decide, rfl, by decide +kernel, Or.inl (g_in (g_m7 (List.mem_of_getElem? (i := 34) rfl)) rfl)⟩
theorem fk_X11_90 : g_FK RX11 90 11 49 true (.array .int) := ⟨_, _, _, rfl, by decide, rfl, by decide +kernel, Or.inl (g_in (g_m7 (List.mem_of_getElem? (i := 35) rfl)) rfl)⟩
theorem fk_X11_93 : g_FK RX11 93 11 50 true (.array .int) := ⟨_, _, _, rfl, by decide, rfl, by decide +kernel, Or.inl (g_in (g_m7 (List.mem_of_getElem? (i := 36) rfl)) rfl)⟩
theorem fk_X11_342 : g_FK RX11 342 11 51 false .boolean := ⟨_, _, _, rfl, by decide, rfl, by decide +kernel, Or.inl (g_in (g_m7 (List.mem_of_getElem? (i := 37) rfl)) rfl)⟩
theorem fk_X11_96 : g_FK RX11 96 11 52 true (.array .int) := ⟨_, _, _, rfl, by decide, rfl, by decide +kernel, Or.inl (g_in (g_m7 (List.mem_of_getElem? (i := 38) rfl)) rfl)⟩
theorem fk_X11_99 : g_FK RX11 99 11 53 true (.array .int) := ⟨_, _, _, rfl, by decide, rfl, by decide +kernel, Or.inl (g_in (g_m7 (List.mem_of_getElem? (i := 39) rfl)) rfl)⟩
theorem fk_X11_102 : g_FK RX11 102 11 54 true (.array .int) := ⟨_, _, _, rfl, by decide, rfl, by decide +kernel, Or.inl (g_in (g_m7 (List.mem_of_getElem? (i := 40) rfl)) rfl)⟩
theorem fk_X11_105 : g_FK RX11 105 11 55 true (.array .int) := ⟨_, _, _, rfl, by decide, rfl, by decide +kernel, Or.inl (g_in (g_m7 (List.mem_of_getElem? (i := 41) rfl)) rfl)⟩
theorem fk_X11_108 : g_FK RX11 108 11 56 true (.array .int) := ⟨_, _, _, rfl, by decide, rfl, by decide +kernel, Or.inl (g_in (g_m7 (List.mem_of_getElem? (i := 42) rfl)) rfl)⟩
theorem fk_X11_111 : g_FK RX11 111 11 57 true (.array .int) := ⟨_, _, _, rfl, by decide, rfl, by decide +kernel, Or.inl (g_in (g_m7 (List.mem_of_getElem? (i := 43) rfl)) rfl)⟩
theorem fk_X11_315 : g_FK RX11 315 11 58 false .int := ⟨_, _, _, rfl, by decide, rfl, by decide +kernel, Or.inl (g_in (g_m7 (List.mem_of_getElem? (i := 44) rfl)) rfl)⟩
theorem fk_X11_114 : g_FK RX11 114 11 59 true (.array .int) := ⟨_, _, _, rfl, by decide, rfl, by decide +kernel, Or.inl (g_in (g_m7 (List.mem_of_getElem? (i := 45) rfl)) rfl)⟩
theorem fk_X11_117 : g_FK RX11 117 11 60 true (.array .int) := ⟨_, _, _, rfl, by decide, rfl, by decide +kernel, Or.inl (g_in (g_m7 (List.mem_of_getElem? (i := 46) rfl)) rfl)⟩
theorem fk_X11_120 : g_FK RX11 120 11 61 true (.array .int) := ⟨_, _, _, rfl, by decide, rfl, by decide +kernel, Or.inl (g_in (g_m7 (List.mem_of_getElem? (i := 47) rfl)) rfl)⟩
theorem fk_X11_478 : g_FK RX11 478 11 62 false .int := ⟨_, _, _, rfl, by decide, rfl, by decide +kernel, Or.inl (g_in (g_m7 (List.mem_of_getElem? (i := 48) rfl)) rfl)⟩
theorem fk_X11_318 : g_FK RX11 318 11 63 false .boolean := ⟨_, _, _, rfl, by decide, rfl, by decide +kernel, Or.inl (g_in (g_m7 (List.mem_of_getElem? (i := 49) rfl)) rfl)⟩
theorem fk_X11_488 : g_FK RX11 488 11 64 false .int := ⟨_, _, _, rfl, by decide, rfl, by decide +kernel, Or.inl (g_in (g_m7 (List.mem_of_getElem? (i := 50) rfl)) rfl)⟩
theorem fk_X11_491 : g_FK RX11 491 11 65 false .int := ⟨_, _, _, rfl, by decide, rfl, by decide +kernel, Or.inl (g_in (g_m7 (List.mem_of_getElem? (i := 51) rfl)) rfl)⟩
theorem fk_X11_123 : g_FK RX11 123 11 66 true (.array .int) := ⟨_, _, _, rfl, by decide, rfl, by decide +kernel, Or.inl (g_in (g_m7 (List.mem_of_getElem? (i := 52) rfl)) rfl)⟩
theorem fk_X11_126 : g_FK RX11 126 11 67 true (.array .int) := ⟨_, _, _, rfl, by decide, rfl, by decide +kernel, Or.inl (g_in (g_m7 (List.mem_of_getElem? (i := 53) rfl)) rfl)⟩
theorem fk_X11_129 : g_FK RX11 129 11 68 true (.array .int) := ⟨_, _, _, rfl, by decide, rfl, by decide +kernel, Or.inl (g_in (g_m7 (List.mem_of_getElem? (i := 54) rfl)) rfl)⟩
theorem cl_X10 : (RX10 ≠ "java/lang/invoke/MethodHandle" ∧ RX10 ≠ "java/lang/invoke/VarHandle") ∧ plainName RX10 = true := ⟨⟨by decide +kernel, by decide +kernel⟩, by decide +kernel⟩
theorem cl_X0 : (RX0 ≠ "java/lang/invoke/MethodHandle" ∧ RX0 ≠ "java/lang/invoke/VarHandle") ∧ plainName RX0 = true := ⟨⟨by decide +kernel, by decide +kernel⟩, by decide +kernel⟩
theorem cl_X1 : (RX1 ≠ "java/lang/invoke/MethodHandle" ∧ RX1 ≠ "java/lang/invoke/VarHandle") ∧ plainName RX1 = true := ⟨⟨by decide +kernel, by decide +kernel⟩, by decide +kernel⟩
theorem cl_X2 : (RX2 ≠ "java/lang/invoke/MethodHandle" ∧ RX2 ≠ "java/lang/invoke/VarHandle") ∧ plainName RX2 = true := ⟨⟨by decide +kernel, by decide +kernel⟩, by decide +kernel⟩
theorem cl_X3 : (RX3 ≠ "java/lang/invoke/MethodHandle" ∧ RX3 ≠ "java/lang/invoke/VarHandle") ∧ plainName RX3 = true := ⟨⟨by decide +kernel, by decide +kernel⟩, by decide +kernel⟩
theorem cl_X4 : (RX4 ≠ "java/lang/invoke/MethodHandle" ∧ RX4 ≠ "java/lang/invoke/VarHandle") ∧ plainName RX4 = true := ⟨⟨by decide +kernel, by decide +kernel⟩, by decide +kernel⟩
theorem cl_X5 : (RX5 ≠ "java/lang/invoke/MethodHandle" ∧ RX5 ≠ "java/lang/invoke/VarHandle") ∧ plainName RX5 = true := ⟨⟨by decide +kernel, by decide +kernel⟩, by decide +kernel⟩
theorem cl_X6 : (RX6 ≠ "java/lang/invoke/MethodHandle" ∧ RX6 ≠ "java/lang/invoke/VarHandle") ∧ plainName RX6 = true := ⟨⟨by decide +kernel, by decide +kernel⟩, by decide +kernel⟩
theorem cl_X7 : (RX7 ≠ "java/lang/invoke/MethodHandle" ∧ RX7 ≠ "java/lang/invoke/VarHandle") ∧ plainName RX7 = true := ⟨⟨by decide +kernel, by decide +kernel⟩, by decide +kernel⟩
theorem cl_X8 : (RX8 ≠ "java/lang/invoke/MethodHandle" ∧ RX8 ≠ "java/lang/invoke/VarHandle") ∧ plainName RX8 = true := ⟨⟨by decide +kernel, by decide +kernel⟩, by decide +kernel⟩
theorem cl_X9 : (RX9 ≠ "java/lang/invoke/MethodHandle" ∧ RX9 ≠ "java/lang/invoke/VarHandle") ∧ plainName RX9 = true := ⟨⟨by decide +kernel, by decide +kernel⟩, by decide +kernel⟩
theorem cl_L : (RL ≠ "java/lang/invoke/MethodHandle" ∧ RL ≠ "java/lang/invoke/VarHandle") ∧ plainName RL = true := ⟨⟨by decide +kernel, by decide +kernel⟩, by decide +kernel⟩
theorem cl_X11 : (RX11 ≠ "java/lang/invoke/MethodHandle" ∧ RX11 ≠ "java/lang/invoke/VarHandle") ∧ plainName RX11 = true := ⟨⟨by decide +kernel, by decide +kernel⟩, by decide +kernel⟩
theorem cl_J11 : (RJ11 ≠ "java/lang/invoke/MethodHandle" ∧ RJ11 ≠ "java/lang/invoke/VarHandle") ∧ plainName RJ11 = true := ⟨⟨by decide +kernel, by decide +kernel⟩, by decide +kernel⟩
theorem cl_J6 : (RJ6 ≠ "java/lang/invoke/MethodHandle" ∧ RJ6 ≠ "java/lang/invoke/VarHandle") ∧ plainName RJ6 = true := ⟨⟨by decide +kernel, by decide +kernel⟩, by decide +kernel⟩
theorem cl_J0 : (RJ0 ≠ "java/lang/invoke/MethodHandle" ∧ RJ0 ≠ "java/lang/invoke/VarHandle") ∧ plainName RJ0 = true := ⟨⟨by decide +kernel, by decide +kernel⟩, by decide +kernel⟩
theorem cl_J1 : (RJ1 ≠ "java/lang/invoke/MethodHandle" ∧ RJ1 ≠ "java/lang/invoke/VarHandle") ∧ plainName RJ1 = true := ⟨⟨by decide +kernel, by decide +kernel⟩, by decide +kernel⟩
theorem cl_J2 : (RJ2 ≠ "java/lang/invoke/MethodHandle" ∧ RJ2 ≠ "java/lang/invoke/VarHandle") ∧ plainName RJ2 = true := ⟨⟨by decide +kernel, by decide +kernel⟩, by decide +kernel⟩
theorem cl_J7 : (RJ7 ≠ "java/lang/invoke/MethodHandle" ∧ RJ7 ≠ "java/lang/invoke/VarHandle") ∧ plainName RJ7 = true := ⟨⟨by decide +kernel, by decide +kernel⟩, by decide +kernel⟩
theorem cl_J3 : (RJ3 ≠ "java/lang/invoke/MethodHandle" ∧ RJ3 ≠ "java/lang/invoke/VarHandle") ∧ plainName RJ3 = true := ⟨⟨by decide +kernel, by decide +kernel⟩, by decide +kernel⟩
def μX10_init : MD := (yX10_init, cX10_init, 1, none, [])
def μX6_init : MD := (yX6_init, cX6_init, 1, none, [])
def μX4_init : MD := (yX4_init, cX4_init, 1, none, [])
def μX2_init : MD := (yX2_init, cX2_init, 1, none, [])
def μX3_init : MD := (yX3_init, cX3_init, 3, none, [])
def μX7_init : MD := (yX7_init, cX7_init, 2, none, [])
def μX0_init : MD := (yX0_init, cX0_init, 1, none, [])
def μX5_init : MD := (yX5_init, cX5_init, 1, none, [])
def μX8_init : MD := (yX8_init, cX8_init, 2, none, [])
def μX9_init : MD := (yX9_init, cX9_init, 2, none, [])
def μX1_init : MD := (yX1_init, cX1_init, 1, none, [])
def μX10_feed : MD := (yX10_feed, cX10_feed, 6, (some .int), [])
def μX10_feedFour : MD := (yX10_feedFour, cX10_feedFour, 3, none, [])
def μX10_fault : MD := (yX10_fault, cX10_fault, 1, (some .int), [])
def μX10_days : MD := (yX10_days, cX10_days, 2, (some .int), [])
def μX10_refuse : MD := (yX10_refuse, cX10_refuse, 2, (some .int), [])
def μX0_keep : MD := (yX0_keep, cX0_keep, 2, none, [])
def μX2_write : MD := (yX2_write, cX2_write, 3, none, [])
def μX10_setOut : MD := (yX10_setOut, cX10_setOut, 1, (some (.object "TurnPosts$Trip")), [])
def μX8_begin : MD := (yX8_begin, cX8_begin, 3, none, [])
def μX2_copy : MD := (yX2_copy, cX2_copy, 2, none, [])
def μJ7_fill_53178 : MD := (yJ7_fill_53178, cJ7_fill_53178, 4, none, [])
def μX8_go : MD := (yX8_go, cX8_go, 3, none, [])
def μX8_goDay : MD := (yX8_goDay, cX8_goDay, 3, none, [])
def μX8_isHome : MD := (yX8_isHome, cX8_isHome, 2, (some .boolean), [])
def μX8_takeTurn : MD := (yX8_takeTurn, cX8_takeTurn, 5, none, [])
def μX4_isTold : MD := (yX4_isTold, cX4_isTold, 1, (some .boolean), [])
def μX8_findValues : MD := (yX8_findValues, cX8_findValues, 3, none, [])
def μX6_peopleAt : MD := (yX6_peopleAt, cX6_peopleAt, 5, (some .int), [])
def μJ6_bitCount_0f7a4 : MD := (yJ6_bitCount_0f7a4, cJ6_bitCount_0f7a4, 1, (some .int), [])
def μX4_value : MD := (yX4_value, cX4_value, 5, (some .int), [])
def μX4_join : MD := (yX4_join, cX4_join, 3, (some .int), [])
def μJ9_min_7cf53 : MD := (yJ9_min_7cf53, cJ9_min_7cf53, 2, (some .int), [])
def μJ9_max_7cf53 : MD := (yJ9_max_7cf53, cJ9_max_7cf53, 2, (some .int), [])
def μX8_follow : MD := (yX8_follow, cX8_follow, 5, none, [])
def μX6_leads : MD := (yX6_leads, cX6_leads, 3, (some .int), [])
def μX6_roadIndex : MD := (yX6_roadIndex, cX6_roadIndex, 2, (some .int), [])
def μX2_isShut : MD := (yX2_isShut, cX2_isShut, 3, (some .boolean), [])
def μX8_turnOn : MD := (yX8_turnOn, cX8_turnOn, 4, none, [])
def μX10_undo : MD := (yX10_undo, cX10_undo, 1, (some .int), [])
def μX0_takeBack : MD := (yX0_takeBack, cX0_takeBack, 2, none, [])
def μX2_readBack : MD := (yX2_readBack, cX2_readBack, 3, none, [])
def μX10_image : MD := (yX10_image, cX10_image, 1, none, [])
def μX0_copy : MD := (yX0_copy, cX0_copy, 2, none, [])
def μX5_copy : MD := (yX5_copy, cX5_copy, 2, none, [])
def μX10_restore : MD := (yX10_restore, cX10_restore, 1, (some .boolean), [])
def μX10_round : MD := (yX10_round, cX10_round, 2, (some .int), [])
def μX2_standsLike : MD := (yX2_standsLike, cX2_standsLike, 3, (some .boolean), [])
def μX10_first : MD := (yX10_first, cX10_first, 4, (some .int), [])
def μX6_atHome : MD := (yX6_atHome, cX6_atHome, 4, (some .int), [])
def μX10_forget : MD := (yX10_forget, cX10_forget, 1, none, [])
def μX5_clear : MD := (yX5_clear, cX5_clear, 1, none, [])
def μX10_circuit : MD := (yX10_circuit, cX10_circuit, 4, (some .boolean), [])
def μX10_surveyed : MD := (yX10_surveyed, cX10_surveyed, 1, (some (.object "TurnPosts$Ways")), [])
def μX9_survey : MD := (yX9_survey, cX9_survey, 5, none, [])
def μX9_layRoads : MD := (yX9_layRoads, cX9_layRoads, 4, none, [])
def μX9_pair : MD := (yX9_pair, cX9_pair, 2, (some .int), [])
def μX9_layRoad : MD := (yX9_layRoad, cX9_layRoad, 3, none, [])
def μX9_joinWays : MD := (yX9_joinWays, cX9_joinWays, 5, none, [])
def μX9_farFrom : MD := (yX9_farFrom, cX9_farFrom, 3, (some .int), [])
def μX9_costFrom : MD := (yX9_costFrom, cX9_costFrom, 3, (some .int), [])
def μX9_balance : MD := (yX9_balance, cX9_balance, 2, (some .int), [])
def μX9_partOf : MD := (yX9_partOf, cX9_partOf, 4, (some .int), [])
def μL_shire : MD := (yL_shire, cL_shire, 4, (some .int), [(0, 9, 12, 13)])
def μX10_shire : MD := (yX10_shire, cX10_shire, 4, (some .int), [])
def μX3_read : MD := (yX3_read, cX3_read, 5, (some .int), [])
def μX6_clear : MD := (yX6_clear, cX6_clear, 1, none, [])
def μX2_clear : MD := (yX2_clear, cX2_clear, 1, none, [])
def μX7_open : MD := (yX7_open, cX7_open, 2, none, [])
def μX7_advance : MD := (yX7_advance, cX7_advance, 2, none, [])
def μX7_kindOf : MD := (yX7_kindOf, cX7_kindOf, 1, (some .int), [])
def μJ0_indexOf_0f7a4 : MD := (yJ0_indexOf_0f7a4, cJ0_indexOf_0f7a4, 2, (some .int), [])
def μJ0_indexOf_7cf53 : MD := (yJ0_indexOf_7cf53, cJ0_indexOf_7cf53, 3, (some .int), [])
def μJ0_isLatin1_aae02 : MD := (yJ0_isLatin1_aae02, cJ0_isLatin1_aae02, 1, (some .boolean), [])
def μJ0_length_8abf5 : MD := (yJ0_length_8abf5, cJ0_length_8abf5, 1, (some .int), [])
def μJ0_coder_7d493 : MD := (yJ0_coder_7d493, cJ0_coder_7d493, 1, (some .byte), [])
def μJ1_indexOf_4cfef : MD := (yJ1_indexOf_4cfef, cJ1_indexOf_4cfef, 4, (some .int), [])
def μJ1_canEncode_9a6ad : MD := (yJ1_canEncode_9a6ad, cJ1_canEncode_9a6ad, 1, (some .boolean), [])
def μJ1_indexOfChar_4cfef : MD := (yJ1_indexOfChar_4cfef, cJ1_indexOfChar_4cfef, 6, (some .int), [])
def μJ2_indexOf_4cfef : MD := (yJ2_indexOf_4cfef, cJ2_indexOf_4cfef, 4, (some .int), [])
def μJ2_indexOfChar_4cfef : MD := (yJ2_indexOfChar_4cfef, cJ2_indexOfChar_4cfef, 4, (some .int), [])
def μJ2_checkBoundsBeginEnd_d044e : MD := (yJ2_checkBoundsBeginEnd_d044e, cJ2_checkBoundsBeginEnd_d044e, 3, none, [])
def μJ2_length_9d52b : MD := (yJ2_length_9d52b, cJ2_length_9d52b, 1, (some .int), [])
def μJ0_checkBoundsBeginEnd_23922 : MD := (yJ0_checkBoundsBeginEnd_23922, cJ0_checkBoundsBeginEnd_23922, 3, none, [])
def μJ3_checkFromToIndex_8c36e : MD := (yJ3_checkFromToIndex_8c36e, cJ3_checkFromToIndex_8c36e, 4, (some .int), [])
def μJ2_indexOfCharUnsafe_4cfef : MD := (yJ2_indexOfCharUnsafe_4cfef, cJ2_indexOfCharUnsafe_4cfef, 5, (some .int), [])
def μJ2_getChar_3b067 : MD := (yJ2_getChar_3b067, cJ2_getChar_3b067, 2, (some .char), [])
def μJ2_indexOfSupplementary_4cfef : MD := (yJ2_indexOfSupplementary_4cfef, cJ2_indexOfSupplementary_4cfef, 7, (some .int), [])
def μJ11_isValidCodePoint_9a6ad : MD := (yJ11_isValidCodePoint_9a6ad, cJ11_isValidCodePoint_9a6ad, 2, (some .boolean), [])
def μJ11_highSurrogate_5068e : MD := (yJ11_highSurrogate_5068e, cJ11_highSurrogate_5068e, 1, (some .char), [])
def μJ11_lowSurrogate_5068e : MD := (yJ11_lowSurrogate_5068e, cJ11_lowSurrogate_5068e, 1, (some .char), [])
def μX3_readLine : MD := (yX3_readLine, cX3_readLine, 2, (some .boolean), [])
def μX7_isWord : MD := (yX7_isWord, cX7_isWord, 3, (some .boolean), [])
def μJ0_charAt_5068e : MD := (yJ0_charAt_5068e, cJ0_charAt_5068e, 2, (some .char), [])
def μJ1_charAt_3b067 : MD := (yJ1_charAt_3b067, cJ1_charAt_3b067, 2, (some .char), [])
def μJ0_checkIndex_df160 : MD := (yJ0_checkIndex_df160, cJ0_checkIndex_df160, 2, none, [])
def μJ3_checkIndex_8e157 : MD := (yJ3_checkIndex_8e157, cJ3_checkIndex_8e157, 3, (some .int), [])
def μJ2_charAt_3b067 : MD := (yJ2_charAt_3b067, cJ2_charAt_3b067, 2, (some .char), [])
def μJ2_checkIndex_2214a : MD := (yJ2_checkIndex_2214a, cJ2_checkIndex_2214a, 2, none, [])
def μX3_readCrossing : MD := (yX3_readCrossing, cX3_readCrossing, 2, (some .boolean), [])
def μX3_fail : MD := (yX3_fail, cX3_fail, 2, (some .boolean), [])
def μX3_isNumberTo : MD := (yX3_isNumberTo, cX3_isNumberTo, 2, (some .boolean), [])
def μX3_isNumber : MD := (yX3_isNumber, cX3_isNumber, 1, (some .boolean), [])
def μX7_isTooLong : MD := (yX7_isTooLong, cX7_isTooLong, 1, (some .boolean), [])
def μX3_take : MD := (yX3_take, cX3_take, 2, (some .int), [])
def μX3_readRoad : MD := (yX3_readRoad, cX3_readRoad, 2, (some .boolean), [])
def μX3_isTold : MD := (yX3_isTold, cX3_isTold, 2, (some .boolean), [])
def μX6_addRoad : MD := (yX6_addRoad, cX6_addRoad, 3, none, [])
def μX3_readPerson : MD := (yX3_readPerson, cX3_readPerson, 3, (some .boolean), [])
def μX3_readArm : MD := (yX3_readArm, cX3_readArm, 2, (some .boolean), [])
def μX3_readRule : MD := (yX3_readRule, cX3_readRule, 2, (some .boolean), [])
def μX3_readExpr : MD := (yX3_readExpr, cX3_readExpr, 4, (some .boolean), [])
def μX3_canBegin : MD := (yX3_canBegin, cX3_canBegin, 1, (some .boolean), [])
def μX3_readAnd : MD := (yX3_readAnd, cX3_readAnd, 4, (some .boolean), [])
def μX3_readNot : MD := (yX3_readNot, cX3_readNot, 5, (some .boolean), [])
def μX3_readTest : MD := (yX3_readTest, cX3_readTest, 4, (some .boolean), [])
def μX3_readSum : MD := (yX3_readSum, cX3_readSum, 5, (some .boolean), [])
def μX3_readProduct : MD := (yX3_readProduct, cX3_readProduct, 5, (some .boolean), [])
def μX3_readPart : MD := (yX3_readPart, cX3_readPart, 2, (some .boolean), [])
def μX3_readSign : MD := (yX3_readSign, cX3_readSign, 2, (some .boolean), [])
def μX3_readValue : MD := (yX3_readValue, cX3_readValue, 1, (some .boolean), [])
def μX4_addValue : MD := (yX4_addValue, cX4_addValue, 2, none, [])
def μX4_add : MD := (yX4_add, cX4_add, 2, none, [])
def μX0_clear : MD := (yX0_clear, cX0_clear, 1, none, [])
def μL_count : MD := (yL_count, cL_count, 4, (some .int), [(0, 9, 12, 18)])
def μX10_count : MD := (yX10_count, cX10_count, 2, (some .int), [])
def μX10_needWhat : MD := (yX10_needWhat, cX10_needWhat, 2, none, [])
def μX6_allRoads : MD := (yX6_allRoads, cX6_allRoads, 3, (some .int), [])
def μX10_shutRoads : MD := (yX10_shutRoads, cX10_shutRoads, 3, (some .int), [])
def μX9_parts : MD := (yX9_parts, cX9_parts, 4, (some .int), [])
def μX9_watch : MD := (yX9_watch, cX9_watch, 4, (some .int), [])
def μX9_watchesAll : MD := (yX9_watchesAll, cX9_watchesAll, 3, (some .boolean), [])
def μX6_purses : MD := (yX6_purses, cX6_purses, 4, (some .int), [])
def μL_crossing : MD := (yL_crossing, cL_crossing, 5, (some .int), [(0, 10, 13, 18)])
def μX10_crossing : MD := (yX10_crossing, cX10_crossing, 3, (some .int), [])
def μX10_needCrossing : MD := (yX10_needCrossing, cX10_needCrossing, 2, none, [])
def μL_road : MD := (yL_road, cL_road, 6, (some .int), [(0, 12, 15, 18)])
def μX10_road : MD := (yX10_road, cX10_road, 4, (some .int), [])
def μX10_needRoad : MD := (yX10_needRoad, cX10_needRoad, 3, none, [])
def μL_person : MD := (yL_person, cL_person, 5, (some .int), [(0, 10, 13, 18)])
def μX10_person : MD := (yX10_person, cX10_person, 3, (some .int), [])
def μX10_needPerson : MD := (yX10_needPerson, cX10_needPerson, 2, none, [])
def μX10_bedOf : MD := (yX10_bedOf, cX10_bedOf, 2, (some .int), [])
def μX9_lodge : MD := (yX9_lodge, cX9_lodge, 4, none, [])
def μX9_allBeds : MD := (yX9_allBeds, cX9_allBeds, 3, (some .int), [])
def μX9_lodging : MD := (yX9_lodging, cX9_lodging, 2, (some .int), [])
def μX9_bestBed : MD := (yX9_bestBed, cX9_bestBed, 7, (some .int), [])
def μX9_worth : MD := (yX9_worth, cX9_worth, 4, (some .int), [])
def μX9_canSleep : MD := (yX9_canSleep, cX9_canSleep, 4, (some .boolean), [])
def μX9_takeBeds : MD := (yX9_takeBeds, cX9_takeBeds, 4, none, [])
def μX6_others : MD := (yX6_others, cX6_others, 3, (some .int), [])
def μL_turn : MD := (yL_turn, cL_turn, 5, (some .int), [(0, 10, 13, 18)])
def μX10_turn : MD := (yX10_turn, cX10_turn, 4, (some .int), [])
def μL_shut : MD := (yL_shut, cL_shut, 6, (some .int), [(0, 19, 22, 18)])
def μX10_shut : MD := (yX10_shut, cX10_shut, 4, (some .boolean), [])
def μL_fill : MD := (yL_fill, cL_fill, 5, (some .int), [(0, 10, 13, 18)])
def μX10_fill : MD := (yX10_fill, cX10_fill, 4, (some .int), [])
def μL_set : MD := (yL_set, cL_set, 5, (some .int), [(0, 10, 13, 18)])
def μX10_set : MD := (yX10_set, cX10_set, 4, (some .int), [])
def μL_then : MD := (yL_then, cL_then, 6, (some .int), [(0, 12, 15, 18), (0, 12, 19, 13)])
def μX10_then : MD := (yX10_then, cX10_then, 4, (some .int), [])
def μX10_needDays : MD := (yX10_needDays, cX10_needDays, 3, none, [])
def μL_points : MD := (yL_points, cL_points, 5, (some .int), [(0, 10, 13, 18), (0, 10, 17, 13)])
def μX10_points : MD := (yX10_points, cX10_points, 3, (some .int), [])
def μL_comes : MD := (yL_comes, cL_comes, 5, (some .int), [(0, 10, 13, 18)])
def μX10_comes : MD := (yX10_comes, cX10_comes, 4, (some .int), [])
def μL_meet : MD := (yL_meet, cL_meet, 5, (some .int), [(0, 10, 13, 18)])
def μX10_meet : MD := (yX10_meet, cX10_meet, 4, (some .int), [])
def μX8_areTogether : MD := (yX8_areTogether, cX8_areTogether, 3, (some .boolean), [])
def μL_gone : MD := (yL_gone, cL_gone, 6, (some .int), [(0, 12, 15, 18), (0, 12, 19, 13)])
def μX10_gone : MD := (yX10_gone, cX10_gone, 4, (some .int), [])
def μL_later : MD := (yL_later, cL_later, 5, (some .int), [(0, 10, 13, 18), (0, 10, 17, 13)])
def μX10_later : MD := (yX10_later, cX10_later, 3, (some .int), [])
def μX10_homeAfter : MD := (yX10_homeAfter, cX10_homeAfter, 2, (some .int), [])
def μX10_poorest : MD := (yX10_poorest, cX10_poorest, 5, (some .int), [])
def μX10_busiest : MD := (yX10_busiest, cX10_busiest, 5, (some .int), [])
def μX10_stuck : MD := (yX10_stuck, cX10_stuck, 4, (some .int), [])
def μL_way : MD := (yL_way, cL_way, 6, (some .int), [(0, 12, 15, 18)])
def μX10_way : MD := (yX10_way, cX10_way, 4, (some .int), [])
def μX10_orNone : MD := (yX10_orNone, cX10_orNone, 1, (some .int), [])
def μL_best : MD := (yL_best, cL_best, 4, (some .int), [(0, 9, 12, 18)])
def μX10_best : MD := (yX10_best, cX10_best, 7, (some .int), [])
def μX8_daysToHome : MD := (yX8_daysToHome, cX8_daysToHome, 4, (some .int), [])
def μX10_daysByTurn : MD := (yX10_daysByTurn, cX10_daysByTurn, 5, (some .int), [])
def μL_lodged : MD := (yL_lodged, cL_lodged, 4, (some .int), [(0, 9, 12, 18)])
def μX10_lodged : MD := (yX10_lodged, cX10_lodged, 2, (some .int), [])
def μL_see : MD := (yL_see, cL_see, 6, (some .int), [(0, 12, 15, 18)])
def μX10_see : MD := (yX10_see, cX10_see, 4, (some .int), [])
def μX5_add : MD := (yX5_add, cX5_add, 4, none, [])
def μL_turned : MD := (yL_turned, cL_turned, 4, (some .int), [(0, 9, 12, 18)])
def μX10_turned : MD := (yX10_turned, cX10_turned, 6, (some .int), [])
def μX5_isSo : MD := (yX5_isSo, cX5_isSo, 4, (some .boolean), [])
def μX5_lastDay : MD := (yX5_lastDay, cX5_lastDay, 3, (some .int), [])
def μX5_isSoOn : MD := (yX5_isSoOn, cX5_isSoOn, 4, (some .boolean), [])
def μX10_couldBeTurned : MD := (yX10_couldBeTurned, cX10_couldBeTurned, 3, (some .boolean), [])
def μL_look : MD := (yL_look, cL_look, 4, (some .int), [(0, 9, 12, 18)])
def μX10_look : MD := (yX10_look, cX10_look, 6, (some .int), [])
def μX10_addPlaces : MD := (yX10_addPlaces, cX10_addPlaces, 4, none, [])
def μL_wind : MD := (yL_wind, cL_wind, 6, (some .int), [(0, 12, 15, 18), (0, 12, 19, 13)])
def μX10_wind : MD := (yX10_wind, cX10_wind, 8, (some .int), [])
def μX10_isHomeByWind : MD := (yX10_isHomeByWind, cX10_isHomeByWind, 5, (some .boolean), [])
def μL_game : MD := (yL_game, cL_game, 6, (some .int), [(0, 12, 15, 18), (0, 12, 19, 13)])
def μX10_game : MD := (yX10_game, cX10_game, 7, (some .int), [])
def μX10_play : MD := (yX10_play, cX10_play, 7, none, [])
def μX10_rests : MD := (yX10_rests, cX10_rests, 2, (some .boolean), [])
def μL_years : MD := (yL_years, cL_years, 6, (some .int), [(0, 12, 15, 18), (0, 12, 19, 13)])
def μX10_years : MD := (yX10_years, cX10_years, 5, (some .int), [])
def μX10_drawAhead : MD := (yX10_drawAhead, cX10_drawAhead, 3, none, [])
def μX1_next : MD := (yX1_next, cX1_next, 2, (some .int), [])
def μX8_allSteps : MD := (yX8_allSteps, cX8_allSteps, 3, (some .int), [])
def μL_visited : MD := (yL_visited, cL_visited, 5, (some .int), [(0, 10, 13, 18), (0, 10, 17, 13)])
def μX10_visited : MD := (yX10_visited, cX10_visited, 5, (some .int), [])
def μL_uneven : MD := (yL_uneven, cL_uneven, 5, (some .int), [(0, 10, 13, 18), (0, 10, 17, 13)])
def μX10_uneven : MD := (yX10_uneven, cX10_uneven, 8, (some .int), [])
def μL_together : MD := (yL_together, cL_together, 6, (some .int), [(0, 12, 15, 18), (0, 12, 19, 13)])
def μX10_together : MD := (yX10_together, cX10_together, 6, (some .int), [])
def μL_taken : MD := (yL_taken, cL_taken, 5, (some .int), [(0, 10, 13, 18), (0, 10, 17, 13)])
def μX10_taken : MD := (yX10_taken, cX10_taken, 6, (some .int), [])
def μL_covered : MD := (yL_covered, cL_covered, 4, (some .int), [(0, 9, 12, 18)])
def μX10_covered : MD := (yX10_covered, cX10_covered, 4, (some .int), [])
def μL_parting : MD := (yL_parting, cL_parting, 5, (some .int), [(0, 10, 13, 18)])
def μX10_parting : MD := (yX10_parting, cX10_parting, 4, (some .int), [])
def μL_purse : MD := (yL_purse, cL_purse, 4, (some .int), [(0, 9, 12, 18)])
def μX10_purse : MD := (yX10_purse, cX10_purse, 3, (some .int), [])
def μL_cuts : MD := (yL_cuts, cL_cuts, 5, (some .int), [(0, 10, 13, 18)])
def μX10_cuts : MD := (yX10_cuts, cX10_cuts, 8, (some .int), [])
def μX10_isCut : MD := (yX10_isCut, cX10_isCut, 4, (some .boolean), [])
def μL_gather : MD := (yL_gather, cL_gather, 4, (some .int), [(0, 9, 12, 18)])
def μX10_gather : MD := (yX10_gather, cX10_gather, 8, (some .int), [])
def μX9_comers : MD := (yX9_comers, cX9_comers, 4, (some .int), [])
def μX9_comersCost : MD := (yX9_comersCost, cX9_comersCost, 5, (some .int), [])
def μL_walk : MD := (yL_walk, cL_walk, 5, (some .int), [(0, 10, 13, 18)])
def μX10_walk : MD := (yX10_walk, cX10_walk, 3, (some .int), [])
def μX9_loop : MD := (yX9_loop, cX9_loop, 4, (some .int), [])
def μX9_longest : MD := (yX9_longest, cX9_longest, 5, (some .int), [])
def μX9_walkOn : MD := (yX9_walkOn, cX9_walkOn, 4, none, [])
def μL_tour : MD := (yL_tour, cL_tour, 4, (some .int), [(0, 9, 12, 18)])
def μX10_tour : MD := (yX10_tour, cX10_tour, 3, (some .int), [])
def μX9_planTour : MD := (yX9_planTour, cX9_planTour, 4, (some .int), [])
def μX9_stage : MD := (yX9_stage, cX9_stage, 2, (some .int), [])
def μX9_nextStop : MD := (yX9_nextStop, cX9_nextStop, 7, (some .int), [])
def μX9_costOn : MD := (yX9_costOn, cX9_costOn, 4, (some .int), [])
def μX9_tourStop : MD := (yX9_tourStop, cX9_tourStop, 5, (some .int), [])
def μX11_init : MD := (yX11_init, cX11_init, 1, none, [])
def μX11_thrown : MD := (yX11_thrown, cX11_thrown, 1, (some .int), [])
def μX11_feed : MD := (yX11_feed, cX11_feed, 6, (some .int), [])
def μX11_lays : MD := (yX11_lays, cX11_lays, 3, none, [])
def μX11_shire : MD := (yX11_shire, cX11_shire, 3, (some .int), [])
def μX11_right : MD := (yX11_right, cX11_right, 3, (some .boolean), [])
def μX11_goes : MD := (yX11_goes, cX11_goes, 2, none, [])
def μX11_byteAt : MD := (yX11_byteAt, cX11_byteAt, 2, (some .int), [])
def μX11_isLetter : MD := (yX11_isLetter, cX11_isLetter, 1, (some .boolean), [])
def μX11_isDigit : MD := (yX11_isDigit, cX11_isDigit, 1, (some .boolean), [])
def μX11_isGood : MD := (yX11_isGood, cX11_isGood, 1, (some .boolean), [])
def μX11_line : MD := (yX11_line, cX11_line, 2, none, [])
def μX11_knownWord : MD := (yX11_knownWord, cX11_knownWord, 2, (some .int), [])
def μX11_letters : MD := (yX11_letters, cX11_letters, 1, (some .long), [])
def μX11_spelled : MD := (yX11_spelled, cX11_spelled, 10, (some .long), [])
def μX11_begins : MD := (yX11_begins, cX11_begins, 3, (some .boolean), [])
def μX11_wrong : MD := (yX11_wrong, cX11_wrong, 2, none, [])
def μX11_readsCrossing : MD := (yX11_readsCrossing, cX11_readsCrossing, 2, none, [])
def μX11_number : MD := (yX11_number, cX11_number, 4, (some .int), [])
def μX11_readsRoad : MD := (yX11_readsRoad, cX11_readsRoad, 2, none, [])
def μX11_isOneOf : MD := (yX11_isOneOf, cX11_isOneOf, 2, (some .boolean), [])
def μX11_readsPerson : MD := (yX11_readsPerson, cX11_readsPerson, 2, none, [])
def μX11_readsArm : MD := (yX11_readsArm, cX11_readsArm, 2, none, [])
def μX11_expression : MD := (yX11_expression, cX11_expression, 3, none, [])
def μX11_deeper : MD := (yX11_deeper, cX11_deeper, 1, none, [])
def μX11_isSign : MD := (yX11_isSign, cX11_isSign, 2, (some .boolean), [])
def μX11_operand : MD := (yX11_operand, cX11_operand, 5, none, [])
def μX11_waitsFor : MD := (yX11_waitsFor, cX11_waitsFor, 2, none, [])
def μX11_part : MD := (yX11_part, cX11_part, 2, none, [])
def μX11_puts : MD := (yX11_puts, cX11_puts, 2, none, [])
def μX11_drops : MD := (yX11_drops, cX11_drops, 2, none, [])
def μX11_isOpen : MD := (yX11_isOpen, cX11_isOpen, 1, (some .boolean), [])
def μX11_strength : MD := (yX11_strength, cX11_strength, 1, (some .int), [])
def μX11_isOpened : MD := (yX11_isOpened, cX11_isOpened, 2, (some .boolean), [])
def μX11_closes : MD := (yX11_closes, cX11_closes, 1, none, [])
def μX11_need : MD := (yX11_need, cX11_need, 2, none, [])
def μX11_copies : MD := (yX11_copies, cX11_copies, 4, none, [])
def μX11_fault : MD := (yX11_fault, cX11_fault, 1, (some .int), [])
def μX11_undo : MD := (yX11_undo, cX11_undo, 2, (some .int), [])
def μX11_count : MD := (yX11_count, cX11_count, 2, (some .int), [])
def μX11_within : MD := (yX11_within, cX11_within, 3, (some .boolean), [])
def μX11_roadsAll : MD := (yX11_roadsAll, cX11_roadsAll, 5, (some .int), [])
def μX11_isShut : MD := (yX11_isShut, cX11_isShut, 4, (some .boolean), [])
def μX11_homeOnes : MD := (yX11_homeOnes, cX11_homeOnes, 4, (some .int), [])
def μX11_isHome : MD := (yX11_isHome, cX11_isHome, 3, (some .boolean), [])
def μX11_parts : MD := (yX11_parts, cX11_parts, 3, (some .int), [])
def μX11_laysWays : MD := (yX11_laysWays, cX11_laysWays, 4, none, [])
def μX11_lesser : MD := (yX11_lesser, cX11_lesser, 2, (some .int), [])
def μX11_partOf : MD := (yX11_partOf, cX11_partOf, 4, (some .int), [])
def μX11_watched : MD := (yX11_watched, cX11_watched, 3, (some .int), [])
def μX11_bits : MD := (yX11_bits, cX11_bits, 3, (some .int), [])
def μX11_isWatched : MD := (yX11_isWatched, cX11_isWatched, 4, (some .boolean), [])
def μX11_purses : MD := (yX11_purses, cX11_purses, 4, (some .int), [])
def μX11_crossing : MD := (yX11_crossing, cX11_crossing, 3, (some .int), [])
def μX11_isCrossing : MD := (yX11_isCrossing, cX11_isCrossing, 2, (some .boolean), [])
def μX11_isWhat : MD := (yX11_isWhat, cX11_isWhat, 3, (some .boolean), [])
def μX11_standAt : MD := (yX11_standAt, cX11_standAt, 5, (some .int), [])
def μX11_reachedFrom : MD := (yX11_reachedFrom, cX11_reachedFrom, 4, (some .int), [])
def μX11_road : MD := (yX11_road, cX11_road, 4, (some .int), [])
def μX11_isRoad : MD := (yX11_isRoad, cX11_isRoad, 3, (some .boolean), [])
def μX11_person : MD := (yX11_person, cX11_person, 3, (some .int), [])
def μX11_isPerson : MD := (yX11_isPerson, cX11_isPerson, 2, (some .boolean), [])
def μX11_bedOf : MD := (yX11_bedOf, cX11_bedOf, 6, (some .int), [])
def μX11_laysBeds : MD := (yX11_laysBeds, cX11_laysBeds, 5, none, [])
def μX11_canLie : MD := (yX11_canLie, cX11_canLie, 4, (some .boolean), [])
def μX11_lies : MD := (yX11_lies, cX11_lies, 4, (some .int), [])
def μX11_days : MD := (yX11_days, cX11_days, 3, (some .int), [])
def μX11_refuses : MD := (yX11_refuses, cX11_refuses, 2, (some .int), [])
def μX11_keeps : MD := (yX11_keeps, cX11_keeps, 2, none, [])
def μX11_dayGoes : MD := (yX11_dayGoes, cX11_dayGoes, 3, none, [])
def μX11_personGoes : MD := (yX11_personGoes, cX11_personGoes, 7, none, [])
def μX11_reckons : MD := (yX11_reckons, cX11_reckons, 5, (some .int), [])
def μX11_works : MD := (yX11_works, cX11_works, 3, (some .int), [])
def μX11_bounded : MD := (yX11_bounded, cX11_bounded, 3, (some .int), [])
def μX11_turn : MD := (yX11_turn, cX11_turn, 4, (some .int), [])
def μX11_shut : MD := (yX11_shut, cX11_shut, 4, (some .boolean), [])
def μX11_fill : MD := (yX11_fill, cX11_fill, 4, (some .int), [])
def μX11_set : MD := (yX11_set, cX11_set, 4, (some .int), [])
def μX11_then : MD := (yX11_then, cX11_then, 4, (some .int), [])
def μX11_isSoon : MD := (yX11_isSoon, cX11_isSoon, 4, (some .boolean), [])
def μX11_goesTo : MD := (yX11_goesTo, cX11_goesTo, 2, none, [])
def μX11_tries : MD := (yX11_tries, cX11_tries, 2, none, [])
def μX11_daysGo : MD := (yX11_daysGo, cX11_daysGo, 3, none, [])
def μX11_points : MD := (yX11_points, cX11_points, 3, (some .int), [])
def μX11_comes : MD := (yX11_comes, cX11_comes, 4, (some .int), [])
def μX11_meet : MD := (yX11_meet, cX11_meet, 4, (some .int), [])
def μX11_areBoth : MD := (yX11_areBoth, cX11_areBoth, 3, (some .boolean), [])
def μX11_parting : MD := (yX11_parting, cX11_parting, 5, (some .int), [])
def μX11_together : MD := (yX11_together, cX11_together, 6, (some .int), [])
def μX11_gone : MD := (yX11_gone, cX11_gone, 4, (some .int), [])
def μX11_taken : MD := (yX11_taken, cX11_taken, 3, (some .int), [])
def μX11_uneven : MD := (yX11_uneven, cX11_uneven, 7, (some .int), [])
def μX11_visited : MD := (yX11_visited, cX11_visited, 5, (some .int), [])
def μX11_covered : MD := (yX11_covered, cX11_covered, 4, (some .int), [])
def μX11_later : MD := (yX11_later, cX11_later, 5, (some .int), [])
def μX11_busiest : MD := (yX11_busiest, cX11_busiest, 4, (some .int), [])
def μX11_stuck : MD := (yX11_stuck, cX11_stuck, 4, (some .int), [])
def μX11_round : MD := (yX11_round, cX11_round, 2, (some .int), [])
def μX11_isAsNow : MD := (yX11_isAsNow, cX11_isAsNow, 3, (some .boolean), [])
def μX11_first : MD := (yX11_first, cX11_first, 5, (some .int), [])
def μX11_best : MD := (yX11_best, cX11_best, 7, (some .int), [])
def μX11_homeIn : MD := (yX11_homeIn, cX11_homeIn, 3, (some .int), [])
def μX11_purse : MD := (yX11_purse, cX11_purse, 3, (some .int), [])
def μX11_cuts : MD := (yX11_cuts, cX11_cuts, 8, (some .int), [])
def μX11_way : MD := (yX11_way, cX11_way, 5, (some .int), [])
def μX11_lodged : MD := (yX11_lodged, cX11_lodged, 2, (some .int), [])
def μX11_gather : MD := (yX11_gather, cX11_gather, 10, (some .int), [])
def μX11_walk : MD := (yX11_walk, cX11_walk, 3, (some .int), [])
def μX11_loop : MD := (yX11_loop, cX11_loop, 4, (some .int), [])
def μX11_longest : MD := (yX11_longest, cX11_longest, 6, (some .int), [])
def μX11_doesLead : MD := (yX11_doesLead, cX11_doesLead, 4, (some .boolean), [])
def μX11_balance : MD := (yX11_balance, cX11_balance, 5, (some .int), [])
def μX11_tour : MD := (yX11_tour, cX11_tour, 8, (some .int), [])
def μX11_laysTour : MD := (yX11_laysTour, cX11_laysTour, 6, none, [])
def μX11_onBy : MD := (yX11_onBy, cX11_onBy, 4, (some .int), [])
def μX11_circuit : MD := (yX11_circuit, cX11_circuit, 4, (some .boolean), [])
def μX11_see : MD := (yX11_see, cX11_see, 4, (some .int), [])
def μX11_forget : MD := (yX11_forget, cX11_forget, 1, none, [])
def μX11_turned : MD := (yX11_turned, cX11_turned, 5, (some .int), [])
def μX11_isSeen : MD := (yX11_isSeen, cX11_isSeen, 3, (some .boolean), [])
def μX11_isGuess : MD := (yX11_isGuess, cX11_isGuess, 3, (some .boolean), [])
def μX11_look : MD := (yX11_look, cX11_look, 8, (some .int), [])
def μX11_wind : MD := (yX11_wind, cX11_wind, 8, (some .int), [])
def μX11_game : MD := (yX11_game, cX11_game, 9, (some .int), [])
def μX11_gains : MD := (yX11_gains, cX11_gains, 7, (some .int), [])
def μX11_turnsOn : MD := (yX11_turnsOn, cX11_turnsOn, 3, none, [])
def μX11_years : MD := (yX11_years, cX11_years, 6, (some .int), [])
def μX11_happens : MD := (yX11_happens, cX11_happens, 3, none, [])
def μX11_draw : MD := (yX11_draw, cX11_draw, 2, (some .int), [])
def μX11_image : MD := (yX11_image, cX11_image, 2, none, [])
def μX11_restore : MD := (yX11_restore, cX11_restore, 2, (some .boolean), [])
theorem mo_X10_init : g_MO μX10_init := ⟨(g_in (g_m1 (List.mem_of_getElem? (i := 31) rfl)) rfl), (g_in (g_m1 (List.mem_of_getElem? (i := 1) rfl)) rfl), cl_X10.1, cl_X10.2⟩
theorem mo_X6_init : g_MO μX6_init := ⟨(g_in (g_m1 (List.mem_of_getElem? (i := 39) rfl)) rfl), (g_in (g_m1 (List.mem_of_getElem? (i := 2) rfl)) rfl), cl_X6.1, cl_X6.2⟩
theorem mo_X4_init : g_MO μX4_init := ⟨(g_in (g_m1 (List.mem_of_getElem? (i := 45) rfl)) rfl), (g_in (g_m1 (List.mem_of_getElem? (i := 3) rfl)) rfl), cl_X4.1, cl_X4.2⟩
theorem mo_X2_init : g_MO μX2_init := ⟨(g_in (g_m1 (List.mem_of_getElem? (i := 63) rfl)) rfl), (g_in (g_m1 (List.mem_of_getElem? (i := 4) rfl)) rfl), cl_X2.1, cl_X2.2⟩
theorem mo_X3_init : g_MO μX3_init := ⟨(g_in (g_m1 (List.mem_of_getElem? (i := 159) rfl)) rfl), (g_in (g_m1 (List.mem_of_getElem? (i := 5) rfl)) rfl), cl_X3.1, cl_X3.2⟩
theorem mo_X7_init : g_MO μX7_init := ⟨(g_in (g_m1 (List.mem_of_getElem? (i := 165) rfl)) rfl), (g_in (g_m1 (List.mem_of_getElem? (i := 6) rfl)) rfl), cl_X7.1, cl_X7.2⟩
theorem mo_X0_init : g_MO μX0_init := ⟨(g_in (g_m1 (List.mem_of_getElem? (i := 215) rfl)) rfl), (g_in (g_m1 (List.mem_of_getElem? (i := 7) rfl)) rfl), cl_X0.1, cl_X0.2⟩
theorem mo_X5_init : g_MO μX5_init := ⟨(g_in (g_m1 (List.mem_of_getElem? (i := 232) rfl)) rfl), (g_in (g_m1 (List.mem_of_getElem? (i := 8) rfl)) rfl), cl_X5.1, cl_X5.2⟩
theorem mo_X8_init : g_MO μX8_init := ⟨(g_in (g_m2 (List.mem_of_getElem? (i := 12) rfl)) rfl), (g_in (g_m1 (List.mem_of_getElem? (i := 9) rfl)) rfl), cl_X8.1, cl_X8.2⟩
theorem mo_X9_init : g_MO μX9_init := ⟨(g_in (g_m2 (List.mem_of_getElem? (i := 40) rfl)) rfl), (g_in (g_m1 (List.mem_of_getElem? (i := 10) rfl)) rfl), cl_X9.1, cl_X9.2⟩
theorem mo_X1_init : g_MO μX1_init := ⟨(g_in (g_m2 (List.mem_of_getElem? (i := 85) rfl)) rfl), (g_in (g_m1 (List.mem_of_getElem? (i := 11) rfl)) rfl), cl_X1.1, cl_X1.2⟩
theorem mo_X10_feed : g_MO μX10_feed := ⟨(g_in (g_m2 (List.mem_of_getElem? (i := 156) rfl)) rfl), (g_in (g_m1 (List.mem_of_getElem? (i := 1) rfl)) rfl), cl_X10.1, cl_X10.2⟩
theorem mo_X10_feedFour : g_MO μX10_feedFour := ⟨(g_in (g_m2 (List.mem_of_getElem? (i := 160) rfl)) rfl), (g_in (g_m1 (List.mem_of_getElem? (i := 1) rfl)) rfl), cl_X10.1, cl_X10.2⟩
theorem mo_X10_fault : g_MO μX10_fault := ⟨(g_in (g_m2 (List.mem_of_getElem? (i := 164) rfl)) rfl), (g_in (g_m1 (List.mem_of_getElem? (i := 1) rfl)) rfl), cl_X10.1, cl_X10.2⟩
theorem mo_X10_days : g_MO μX10_days := ⟨(g_in (g_m2 (List.mem_of_getElem? (i := 168) rfl)) rfl), (g_in (g_m1 (List.mem_of_getElem? (i := 1) rfl)) rfl), cl_X10.1, cl_X10.2⟩
theorem mo_X10_refuse : g_MO μX10_refuse := ⟨(g_in (g_m2 (List.mem_of_getElem? (i := 172) rfl)) rfl), (g_in (g_m1 (List.mem_of_getElem? (i := 1) rfl)) rfl), cl_X10.1, cl_X10.2⟩
theorem mo_X0_keep : g_MO μX0_keep := ⟨(g_in (g_m2 (List.mem_of_getElem? (i := 176) rfl)) rfl), (g_in (g_m1 (List.mem_of_getElem? (i := 7) rfl)) rfl), cl_X0.1, cl_X0.2⟩
theorem mo_X2_write : g_MO μX2_write := ⟨(g_in (g_m2 (List.mem_of_getElem? (i := 180) rfl)) rfl), (g_in (g_m1 (List.mem_of_getElem? (i := 4) rfl)) rfl), cl_X2.1, cl_X2.2⟩
theorem mo_X10_setOut : g_MO μX10_setOut := ⟨(g_in (g_m2 (List.mem_of_getElem? (i := 187) rfl)) rfl), (g_in (g_m1 (List.mem_of_getElem? (i := 1) rfl)) rfl), cl_X10.1, cl_X10.2⟩
theorem mo_X8_begin : g_MO μX8_begin := ⟨(g_in (g_m2 (List.mem_of_getElem? (i := 191) rfl)) rfl), (g_in (g_m1 (List.mem_of_getElem? (i := 9) rfl)) rfl), cl_X8.1, cl_X8.2⟩
theorem mo_X2_copy : g_MO μX2_copy := ⟨(g_in (g_m2 (List.mem_of_getElem? (i := 195) rfl)) rfl), (g_in (g_m1 (List.mem_of_getElem? (i := 4) rfl)) rfl), cl_X2.1, cl_X2.2⟩
theorem mo_J7_fill_53178 : g_MO μJ7_fill_53178 := ⟨(g_in (g_m2 (List.mem_of_getElem? (i := 198) rfl)) rfl), (g_in (g_m1 (List.mem_of_getElem? (i := 17) rfl)) rfl), cl_J7.1, cl_J7.2⟩
theorem mo_X8_go : g_MO μX8_go := ⟨(g_in (g_m2 (List.mem_of_getElem? (i := 202) rfl)) rfl), (g_in (g_m1 (List.mem_of_getElem? (i := 9) rfl)) rfl), cl_X8.1, cl_X8.2⟩
theorem mo_X8_goDay : g_MO μX8_goDay := ⟨(g_in (g_m2 (List.mem_of_getElem? (i := 206) rfl)) rfl), (g_in (g_m1 (List.mem_of_getElem? (i := 9) rfl)) rfl), cl_X8.1, cl_X8.2⟩
theorem mo_X8_isHome : g_MO μX8_isHome := ⟨(g_in (g_m2 (List.mem_of_getElem? (i := 210) rfl)) rfl), (g_in (g_m1 (List.mem_of_getElem? (i := 9) rfl)) rfl), cl_X8.1, cl_X8.2⟩
theorem mo_X8_takeTurn : g_MO μX8_takeTurn := ⟨(g_in (g_m2 (List.mem_of_getElem? (i := 214) rfl)) rfl), (g_in (g_m1 (List.mem_of_getElem? (i := 9) rfl)) rfl), cl_X8.1, cl_X8.2⟩
theorem mo_X4_isTold : g_MO μX4_isTold := ⟨(g_in (g_m2 (List.mem_of_getElem? (i := 218) rfl)) rfl), (g_in (g_m1 (List.mem_of_getElem? (i := 3) rfl)) rfl), cl_X4.1, cl_X4.2⟩
theorem mo_X8_findValues : g_MO μX8_findValues := ⟨(g_in (g_m2 (List.mem_of_getElem? (i := 222) rfl)) rfl), (g_in (g_m1 (List.mem_of_getElem? (i := 9) rfl)) rfl), cl_X8.1, cl_X8.2⟩
theorem mo_X6_peopleAt : g_MO μX6_peopleAt := ⟨(g_in (g_m2 (List.mem_of_getElem? (i := 226) rfl)) rfl), (g_in (g_m1 (List.mem_of_getElem? (i := 2) rfl)) rfl), cl_X6.1, cl_X6.2⟩
theorem mo_J6_bitCount_0f7a4 : g_MO μJ6_bitCount_0f7a4 := ⟨(g_in (g_m2 (List.mem_of_getElem? (i := 229) rfl)) rfl), (g_in (g_m1 (List.mem_of_getElem? (i := 26) rfl)) rfl), cl_J6.1, cl_J6.2⟩
theorem mo_X4_value : g_MO μX4_value := ⟨(g_in (g_m2 (List.mem_of_getElem? (i := 236) rfl)) rfl), (g_in (g_m1 (List.mem_of_getElem? (i := 3) rfl)) rfl), cl_X4.1, cl_X4.2⟩
theorem mo_X4_join : g_MO μX4_join := ⟨(g_in (g_m2 (List.mem_of_getElem? (i := 239) rfl)) rfl), (g_in (g_m1 (List.mem_of_getElem? (i := 3) rfl)) rfl), cl_X4.1, cl_X4.2⟩
theorem mo_X8_follow : g_MO μX8_follow := ⟨(g_in (g_m3 (List.mem_of_getElem? (i := 9) rfl)) rfl), (g_in (g_m1 (List.mem_of_getElem? (i := 9) rfl)) rfl), cl_X8.1, cl_X8.2⟩
theorem mo_X6_leads : g_MO μX6_leads := ⟨(g_in (g_m3 (List.mem_of_getElem? (i := 13) rfl)) rfl), (g_in (g_m1 (List.mem_of_getElem? (i := 2) rfl)) rfl), cl_X6.1, cl_X6.2⟩
theorem mo_X6_roadIndex : g_MO μX6_roadIndex := ⟨(g_in (g_m3 (List.mem_of_getElem? (i := 16) rfl)) rfl), (g_in (g_m1 (List.mem_of_getElem? (i := 2) rfl)) rfl), cl_X6.1, cl_X6.2⟩
theorem mo_X2_isShut : g_MO μX2_isShut := ⟨(g_in (g_m3 (List.mem_of_getElem? (i := 20) rfl)) rfl), (g_in (g_m1 (List.mem_of_getElem? (i := 4) rfl)) rfl), cl_X2.1, cl_X2.2⟩
theorem mo_X8_turnOn : g_MO μX8_turnOn := ⟨(g_in (g_m3 (List.mem_of_getElem? (i := 25) rfl)) rfl), (g_in (g_m1 (List.mem_of_getElem? (i := 9) rfl)) rfl), cl_X8.1, cl_X8.2⟩
theorem mo_X10_undo : g_MO μX10_undo := ⟨(g_in (g_m3 (List.mem_of_getElem? (i := 30) rfl)) rfl), (g_in (g_m1 (List.mem_of_getElem? (i := 1) rfl)) rfl), cl_X10.1, cl_X10.2⟩
theorem mo_X0_takeBack : g_MO μX0_takeBack := ⟨(g_in (g_m3 (List.mem_of_getElem? (i := 34) rfl)) rfl), (g_in (g_m1 (List.mem_of_getElem? (i := 7) rfl)) rfl), cl_X0.1, cl_X0.2⟩
theorem mo_X2_readBack : g_MO μX2_readBack := ⟨(g_in (g_m3 (List.mem_of_getElem? (i := 38) rfl)) rfl), (g_in (g_m1 (List.mem_of_getElem? (i := 4) rfl)) rfl), cl_X2.1, cl_X2.2⟩
theorem mo_X10_image : g_MO μX10_image := ⟨(g_in (g_m3 (List.mem_of_getElem? (i := 42) rfl)) rfl), (g_in (g_m1 (List.mem_of_getElem? (i := 1) rfl)) rfl), cl_X10.1, cl_X10.2⟩
theorem mo_X0_copy : g_MO μX0_copy := ⟨(g_in (g_m3 (List.mem_of_getElem? (i := 46) rfl)) rfl), (g_in (g_m1 (List.mem_of_getElem? (i := 7) rfl)) rfl), cl_X0.1, cl_X0.2⟩
theorem mo_X5_copy : g_MO μX5_copy := ⟨(g_in (g_m3 (List.mem_of_getElem? (i := 51) rfl)) rfl), (g_in (g_m1 (List.mem_of_getElem? (i := 8) rfl)) rfl), cl_X5.1, cl_X5.2⟩
theorem mo_X10_restore : g_MO μX10_restore := ⟨(g_in (g_m3 (List.mem_of_getElem? (i := 56) rfl)) rfl), (g_in (g_m1 (List.mem_of_getElem? (i := 1) rfl)) rfl), cl_X10.1, cl_X10.2⟩
theorem mo_X10_round : g_MO μX10_round := ⟨(g_in (g_m3 (List.mem_of_getElem? (i := 60) rfl)) rfl), (g_in (g_m1 (List.mem_of_getElem? (i := 1) rfl)) rfl), cl_X10.1, cl_X10.2⟩
theorem mo_X2_standsLike : g_MO μX2_standsLike := ⟨(g_in (g_m3 (List.mem_of_getElem? (i := 65) rfl)) rfl), (g_in (g_m1 (List.mem_of_getElem? (i := 4) rfl)) rfl), cl_X2.1, cl_X2.2⟩
theorem mo_X10_first : g_MO μX10_first := ⟨(g_in (g_m3 (List.mem_of_getElem? (i := 69) rfl)) rfl), (g_in (g_m1 (List.mem_of_getElem? (i := 1) rfl)) rfl), cl_X10.1, cl_X10.2⟩
theorem mo_X6_atHome : g_MO μX6_atHome := ⟨(g_in (g_m3 (List.mem_of_getElem? (i := 73) rfl)) rfl), (g_in (g_m1 (List.mem_of_getElem? (i := 2) rfl)) rfl), cl_X6.1, cl_X6.2⟩
theorem mo_X10_forget : g_MO μX10_forget := ⟨(g_in (g_m3 (List.mem_of_getElem? (i := 78) rfl)) rfl), (g_in (g_m1 (List.mem_of_getElem? (i := 1) rfl)) rfl), cl_X10.1, cl_X10.2⟩
theorem mo_X5_clear : g_MO μX5_clear := ⟨(g_in (g_m3 (List.mem_of_getElem? (i := 82) rfl)) rfl), (g_in (g_m1 (List.mem_of_getElem? (i := 8) rfl)) rfl), cl_X5.1, cl_X5.2⟩
theorem mo_X10_circuit : g_MO μX10_circuit := ⟨(g_in (g_m3 (List.mem_of_getElem? (i := 86) rfl)) rfl), (g_in (g_m1 (List.mem_of_getElem? (i := 1) rfl)) rfl), cl_X10.1, cl_X10.2⟩
theorem mo_X10_surveyed : g_MO μX10_surveyed := ⟨(g_in (g_m3 (List.mem_of_getElem? (i := 90) rfl)) rfl), (g_in (g_m1 (List.mem_of_getElem? (i := 1) rfl)) rfl), cl_X10.1, cl_X10.2⟩
theorem mo_X9_survey : g_MO μX9_survey := ⟨(g_in (g_m3 (List.mem_of_getElem? (i := 94) rfl)) rfl), (g_in (g_m1 (List.mem_of_getElem? (i := 10) rfl)) rfl), cl_X9.1, cl_X9.2⟩
theorem mo_X9_layRoads : g_MO μX9_layRoads := ⟨(g_in (g_m3 (List.mem_of_getElem? (i := 99) rfl)) rfl), (g_in (g_m1 (List.mem_of_getElem? (i := 10) rfl)) rfl), cl_X9.1, cl_X9.2⟩
theorem mo_X9_pair : g_MO μX9_pair := ⟨(g_in (g_m3 (List.mem_of_getElem? (i := 103) rfl)) rfl), (g_in (g_m1 (List.mem_of_getElem? (i := 10) rfl)) rfl), cl_X9.1, cl_X9.2⟩
theorem mo_X9_layRoad : g_MO μX9_layRoad := ⟨(g_in (g_m3 (List.mem_of_getElem? (i := 109) rfl)) rfl), (g_in (g_m1 (List.mem_of_getElem? (i := 10) rfl)) rfl), cl_X9.1, cl_X9.2⟩
theorem mo_X9_joinWays : g_MO μX9_joinWays := ⟨(g_in (g_m3 (List.mem_of_getElem? (i := 113) rfl)) rfl), (g_in (g_m1 (List.mem_of_getElem? (i := 10) rfl)) rfl), cl_X9.1, cl_X9.2⟩
theorem mo_X9_farFrom : g_MO μX9_farFrom := ⟨(g_in (g_m3 (List.mem_of_getElem? (i := 117) rfl)) rfl), (g_in (g_m1 (List.mem_of_getElem? (i := 10) rfl)) rfl), cl_X9.1, cl_X9.2⟩
theorem mo_X9_costFrom : g_MO μX9_costFrom := ⟨(g_in (g_m3 (List.mem_of_getElem? (i := 122) rfl)) rfl), (g_in (g_m1 (List.mem_of_getElem? (i := 10) rfl)) rfl), cl_X9.1, cl_X9.2⟩
theorem mo_X9_balance : g_MO μX9_balance := ⟨(g_in (g_m3 (List.mem_of_getElem? (i := 126) rfl)) rfl), (g_in (g_m1 (List.mem_of_getElem? (i := 10) rfl)) rfl), cl_X9.1, cl_X9.2⟩
theorem mo_X9_partOf : g_MO μX9_partOf := ⟨(g_in (g_m3 (List.mem_of_getElem? (i := 130) rfl)) rfl), (g_in (g_m1 (List.mem_of_getElem? (i := 10) rfl)) rfl), cl_X9.1, cl_X9.2⟩
theorem mo_L_shire : g_MO μL_shire := ⟨(g_in (g_m3 (List.mem_of_getElem? (i := 133) rfl)) rfl), (g_in (g_m1 (List.mem_of_getElem? (i := 0) rfl)) rfl), cl_L.1, cl_L.2⟩
theorem mo_X10_shire : g_MO μX10_shire := ⟨(g_in (g_m3 (List.mem_of_getElem? (i := 138) rfl)) rfl), (g_in (g_m1 (List.mem_of_getElem? (i := 1) rfl)) rfl), cl_X10.1, cl_X10.2⟩
theorem mo_X3_read : g_MO μX3_read := ⟨(g_in (g_m3 (List.mem_of_getElem? (i := 209) rfl)) rfl), (g_in (g_m1 (List.mem_of_getElem? (i := 5) rfl)) rfl), cl_X3.1, cl_X3.2⟩
theorem mo_X6_clear : g_MO μX6_clear := ⟨(g_in (g_m3 (List.mem_of_getElem? (i := 213) rfl)) rfl), (g_in (g_m1 (List.mem_of_getElem? (i := 2) rfl)) rfl), cl_X6.1, cl_X6.2⟩
theorem mo_X2_clear : g_MO μX2_clear := ⟨(g_in (g_m3 (List.mem_of_getElem? (i := 218) rfl)) rfl), (g_in (g_m1 (List.mem_of_getElem? (i := 4) rfl)) rfl), cl_X2.1, cl_X2.2⟩
theorem mo_X7_open : g_MO μX7_open := ⟨(g_in (g_m3 (List.mem_of_getElem? (i := 223) rfl)) rfl), (g_in (g_m1 (List.mem_of_getElem? (i := 6) rfl)) rfl), cl_X7.1, cl_X7.2⟩
theorem mo_X7_advance : g_MO μX7_advance := ⟨(g_in (g_m3 (List.mem_of_getElem? (i := 228) rfl)) rfl), (g_in (g_m1 (List.mem_of_getElem? (i := 6) rfl)) rfl), cl_X7.1, cl_X7.2⟩
theorem mo_X7_kindOf : g_MO μX7_kindOf := ⟨(g_in (g_m3 (List.mem_of_getElem? (i := 231) rfl)) rfl), (g_in (g_m1 (List.mem_of_getElem? (i := 6) rfl)) rfl), cl_X7.1, cl_X7.2⟩
theorem mo_J0_indexOf_0f7a4 : g_MO μJ0_indexOf_0f7a4 := ⟨(g_in (g_m3 (List.mem_of_getElem? (i := 236) rfl)) rfl), (g_in (g_m1 (List.mem_of_getElem? (i := 19) rfl)) rfl), cl_J0.1, cl_J0.2⟩
theorem mo_J0_indexOf_7cf53 : g_MO μJ0_indexOf_7cf53 := ⟨(g_in (g_m4 (List.mem_of_getElem? (i := 0) rfl)) rfl), (g_in (g_m1 (List.mem_of_getElem? (i := 19) rfl)) rfl), cl_J0.1, cl_J0.2⟩
theorem mo_J0_isLatin1_aae02 : g_MO μJ0_isLatin1_aae02 := ⟨(g_in (g_m4 (List.mem_of_getElem? (i := 4) rfl)) rfl), (g_in (g_m1 (List.mem_of_getElem? (i := 19) rfl)) rfl), cl_J0.1, cl_J0.2⟩
theorem mo_J0_length_8abf5 : g_MO μJ0_length_8abf5 := ⟨(g_in (g_m4 (List.mem_of_getElem? (i := 10) rfl)) rfl), (g_in (g_m1 (List.mem_of_getElem? (i := 19) rfl)) rfl), cl_J0.1, cl_J0.2⟩
theorem mo_J0_coder_7d493 : g_MO μJ0_coder_7d493 := ⟨(g_in (g_m4 (List.mem_of_getElem? (i := 14) rfl)) rfl), (g_in (g_m1 (List.mem_of_getElem? (i := 19) rfl)) rfl), cl_J0.1, cl_J0.2⟩
theorem mo_J1_indexOf_4cfef : g_MO μJ1_indexOf_4cfef := ⟨(g_in (g_m4 (List.mem_of_getElem? (i := 17) rfl)) rfl), (g_in (g_m1 (List.mem_of_getElem? (i := 20) rfl)) rfl), cl_J1.1, cl_J1.2⟩
theorem mo_J1_canEncode_9a6ad : g_MO μJ1_canEncode_9a6ad := ⟨(g_in (g_m4 (List.mem_of_getElem? (i := 20) rfl)) rfl), (g_in (g_m1 (List.mem_of_getElem? (i := 20) rfl)) rfl), cl_J1.1, cl_J1.2⟩
theorem mo_J1_indexOfChar_4cfef : g_MO μJ1_indexOfChar_4cfef := ⟨(g_in (g_m4 (List.mem_of_getElem? (i := 25) rfl)) rfl), (g_in (g_m1 (List.mem_of_getElem? (i := 20) rfl)) rfl), cl_J1.1, cl_J1.2⟩
theorem mo_J2_indexOf_4cfef : g_MO μJ2_indexOf_4cfef := ⟨(g_in (g_m4 (List.mem_of_getElem? (i := 28) rfl)) rfl), (g_in (g_m1 (List.mem_of_getElem? (i := 21) rfl)) rfl), cl_J2.1, cl_J2.2⟩
theorem mo_J2_indexOfChar_4cfef : g_MO μJ2_indexOfChar_4cfef := ⟨(g_in (g_m4 (List.mem_of_getElem? (i := 34) rfl)) rfl), (g_in (g_m1 (List.mem_of_getElem? (i := 21) rfl)) rfl), cl_J2.1, cl_J2.2⟩
theorem mo_J2_checkBoundsBeginEnd_d044e : g_MO μJ2_checkBoundsBeginEnd_d044e := ⟨(g_in (g_m4 (List.mem_of_getElem? (i := 37) rfl)) rfl), (g_in (g_m1 (List.mem_of_getElem? (i := 21) rfl)) rfl), cl_J2.1, cl_J2.2⟩
theorem mo_J2_length_9d52b : g_MO μJ2_length_9d52b := ⟨(g_in (g_m4 (List.mem_of_getElem? (i := 40) rfl)) rfl), (g_in (g_m1 (List.mem_of_getElem? (i := 21) rfl)) rfl), cl_J2.1, cl_J2.2⟩
theorem mo_J0_checkBoundsBeginEnd_23922 : g_MO μJ0_checkBoundsBeginEnd_23922 := ⟨(g_in (g_m4 (List.mem_of_getElem? (i := 43) rfl)) rfl), (g_in (g_m1 (List.mem_of_getElem? (i := 19) rfl)) rfl), cl_J0.1, cl_J0.2⟩
theorem mo_J3_checkFromToIndex_8c36e : g_MO μJ3_checkFromToIndex_8c36e := ⟨(g_in (g_m4 (List.mem_of_getElem? (i := 48) rfl)) rfl), (g_in (g_m1 (List.mem_of_getElem? (i := 22) rfl)) rfl), cl_J3.1, cl_J3.2⟩
theorem mo_J2_indexOfCharUnsafe_4cfef : g_MO μJ2_indexOfCharUnsafe_4cfef := ⟨(g_in (g_m4 (List.mem_of_getElem? (i := 51) rfl)) rfl), (g_in (g_m1 (List.mem_of_getElem? (i := 21) rfl)) rfl), cl_J2.1, cl_J2.2⟩
theorem mo_J2_getChar_3b067 : g_MO μJ2_getChar_3b067 := ⟨(g_in (g_m4 (List.mem_of_getElem? (i := 54) rfl)) rfl), (g_in (g_m1 (List.mem_of_getElem? (i := 21) rfl)) rfl), cl_J2.1, cl_J2.2⟩
theorem mo_J2_indexOfSupplementary_4cfef : g_MO μJ2_indexOfSupplementary_4cfef := ⟨(g_in (g_m4 (List.mem_of_getElem? (i := 63) rfl)) rfl), (g_in (g_m1 (List.mem_of_getElem? (i := 21) rfl)) rfl), cl_J2.1, cl_J2.2⟩
theorem mo_J11_isValidCodePoint_9a6ad : g_MO μJ11_isValidCodePoint_9a6ad := ⟨(g_in (g_m4 (List.mem_of_getElem? (i := 66) rfl)) rfl), (g_in (g_m1 (List.mem_of_getElem? (i := 23) rfl)) rfl), cl_J11.1, cl_J11.2⟩
theorem mo_J11_highSurrogate_5068e : g_MO μJ11_highSurrogate_5068e := ⟨(g_in (g_m4 (List.mem_of_getElem? (i := 69) rfl)) rfl), (g_in (g_m1 (List.mem_of_getElem? (i := 23) rfl)) rfl), cl_J11.1, cl_J11.2⟩
theorem mo_J11_lowSurrogate_5068e : g_MO μJ11_lowSurrogate_5068e := ⟨(g_in (g_m4 (List.mem_of_getElem? (i := 73) rfl)) rfl), (g_in (g_m1 (List.mem_of_getElem? (i := 23) rfl)) rfl), cl_J11.1, cl_J11.2⟩
theorem mo_X3_readLine : g_MO μX3_readLine := ⟨(g_in (g_m4 (List.mem_of_getElem? (i := 78) rfl)) rfl), (g_in (g_m1 (List.mem_of_getElem? (i := 5) rfl)) rfl), cl_X3.1, cl_X3.2⟩
theorem mo_X7_isWord : g_MO μX7_isWord := ⟨(g_in (g_m4 (List.mem_of_getElem? (i := 83) rfl)) rfl), (g_in (g_m1 (List.mem_of_getElem? (i := 6) rfl)) rfl), cl_X7.1, cl_X7.2⟩
theorem mo_J0_charAt_5068e : g_MO μJ0_charAt_5068e := ⟨(g_in (g_m4 (List.mem_of_getElem? (i := 88) rfl)) rfl), (g_in (g_m1 (List.mem_of_getElem? (i := 19) rfl)) rfl), cl_J0.1, cl_J0.2⟩
theorem mo_J1_charAt_3b067 : g_MO μJ1_charAt_3b067 := ⟨(g_in (g_m4 (List.mem_of_getElem? (i := 91) rfl)) rfl), (g_in (g_m1 (List.mem_of_getElem? (i := 20) rfl)) rfl), cl_J1.1, cl_J1.2⟩
theorem mo_J0_checkIndex_df160 : g_MO μJ0_checkIndex_df160 := ⟨(g_in (g_m4 (List.mem_of_getElem? (i := 94) rfl)) rfl), (g_in (g_m1 (List.mem_of_getElem? (i := 19) rfl)) rfl), cl_J0.1, cl_J0.2⟩
theorem mo_J3_checkIndex_8e157 : g_MO μJ3_checkIndex_8e157 := ⟨(g_in (g_m4 (List.mem_of_getElem? (i := 97) rfl)) rfl), (g_in (g_m1 (List.mem_of_getElem? (i := 22) rfl)) rfl), cl_J3.1, cl_J3.2⟩
theorem mo_J2_charAt_3b067 : g_MO μJ2_charAt_3b067 := ⟨(g_in (g_m4 (List.mem_of_getElem? (i := 100) rfl)) rfl), (g_in (g_m1 (List.mem_of_getElem? (i := 21) rfl)) rfl), cl_J2.1, cl_J2.2⟩
theorem mo_J2_checkIndex_2214a : g_MO μJ2_checkIndex_2214a := ⟨(g_in (g_m4 (List.mem_of_getElem? (i := 103) rfl)) rfl), (g_in (g_m1 (List.mem_of_getElem? (i := 21) rfl)) rfl), cl_J2.1, cl_J2.2⟩
theorem mo_X3_readCrossing : g_MO μX3_readCrossing := ⟨(g_in (g_m4 (List.mem_of_getElem? (i := 108) rfl)) rfl), (g_in (g_m1 (List.mem_of_getElem? (i := 5) rfl)) rfl), cl_X3.1, cl_X3.2⟩
theorem mo_X3_fail : g_MO μX3_fail := ⟨(g_in (g_m4 (List.mem_of_getElem? (i := 112) rfl)) rfl), (g_in (g_m1 (List.mem_of_getElem? (i := 5) rfl)) rfl), cl_X3.1, cl_X3.2⟩
theorem mo_X3_isNumberTo : g_MO μX3_isNumberTo := ⟨(g_in (g_m4 (List.mem_of_getElem? (i := 117) rfl)) rfl), (g_in (g_m1 (List.mem_of_getElem? (i := 5) rfl)) rfl), cl_X3.1, cl_X3.2⟩
theorem mo_X3_isNumber : g_MO μX3_isNumber := ⟨(g_in (g_m4 (List.mem_of_getElem? (i := 121) rfl)) rfl), (g_in (g_m1 (List.mem_of_getElem? (i := 5) rfl)) rfl), cl_X3.1, cl_X3.2⟩
theorem mo_X7_isTooLong : g_MO μX7_isTooLong := ⟨(g_in (g_m4 (List.mem_of_getElem? (i := 125) rfl)) rfl), (g_in (g_m1 (List.mem_of_getElem? (i := 6) rfl)) rfl), cl_X7.1, cl_X7.2⟩
theorem mo_X3_take : g_MO μX3_take := ⟨(g_in (g_m4 (List.mem_of_getElem? (i := 129) rfl)) rfl), (g_in (g_m1 (List.mem_of_getElem? (i := 5) rfl)) rfl), cl_X3.1, cl_X3.2⟩
theorem mo_X3_readRoad : g_MO μX3_readRoad := ⟨(g_in (g_m4 (List.mem_of_getElem? (i := 134) rfl)) rfl), (g_in (g_m1 (List.mem_of_getElem? (i := 5) rfl)) rfl), cl_X3.1, cl_X3.2⟩
theorem mo_X3_isTold : g_MO μX3_isTold := ⟨(g_in (g_m4 (List.mem_of_getElem? (i := 138) rfl)) rfl), (g_in (g_m1 (List.mem_of_getElem? (i := 5) rfl)) rfl), cl_X3.1, cl_X3.2⟩
theorem mo_X6_addRoad : g_MO μX6_addRoad := ⟨(g_in (g_m4 (List.mem_of_getElem? (i := 142) rfl)) rfl), (g_in (g_m1 (List.mem_of_getElem? (i := 2) rfl)) rfl), cl_X6.1, cl_X6.2⟩
theorem mo_X3_readPerson : g_MO μX3_readPerson := ⟨(g_in (g_m4 (List.mem_of_getElem? (i := 147) rfl)) rfl), (g_in (g_m1 (List.mem_of_getElem? (i := 5) rfl)) rfl), cl_X3.1, cl_X3.2⟩
theorem mo_X3_readArm : g_MO μX3_readArm := ⟨(g_in (g_m4 (List.mem_of_getElem? (i := 152) rfl)) rfl), (g_in (g_m1 (List.mem_of_getElem? (i := 5) rfl)) rfl), cl_X3.1, cl_X3.2⟩
theorem mo_X3_readRule : g_MO μX3_readRule := ⟨(g_in (g_m4 (List.mem_of_getElem? (i := 157) rfl)) rfl), (g_in (g_m1 (List.mem_of_getElem? (i := 5) rfl)) rfl), cl_X3.1, cl_X3.2⟩
theorem mo_X3_readExpr : g_MO μX3_readExpr := ⟨(g_in (g_m4 (List.mem_of_getElem? (i := 162) rfl)) rfl), (g_in (g_m1 (List.mem_of_getElem? (i := 5) rfl)) rfl), cl_X3.1, cl_X3.2⟩
theorem mo_X3_canBegin : g_MO μX3_canBegin := ⟨(g_in (g_m4 (List.mem_of_getElem? (i := 166) rfl)) rfl), (g_in (g_m1 (List.mem_of_getElem? (i := 5) rfl)) rfl), cl_X3.1, cl_X3.2⟩
theorem mo_X3_readAnd : g_MO μX3_readAnd := ⟨(g_in (g_m4 (List.mem_of_getElem? (i := 170) rfl)) rfl), (g_in (g_m1 (List.mem_of_getElem? (i := 5) rfl)) rfl), cl_X3.1, cl_X3.2⟩
theorem mo_X3_readNot : g_MO μX3_readNot := ⟨(g_in (g_m4 (List.mem_of_getElem? (i := 174) rfl)) rfl), (g_in (g_m1 (List.mem_of_getElem? (i := 5) rfl)) rfl), cl_X3.1, cl_X3.2⟩
theorem mo_X3_readTest : g_MO μX3_readTest := ⟨(g_in (g_m4 (List.mem_of_getElem? (i := 179) rfl)) rfl), (g_in (g_m1 (List.mem_of_getElem? (i := 5) rfl)) rfl), cl_X3.1, cl_X3.2⟩
theorem mo_X3_readSum : g_MO μX3_readSum := ⟨(g_in (g_m4 (List.mem_of_getElem? (i := 183) rfl)) rfl), (g_in (g_m1 (List.mem_of_getElem? (i := 5) rfl)) rfl), cl_X3.1, cl_X3.2⟩
theorem mo_X3_readProduct : g_MO μX3_readProduct := ⟨(g_in (g_m4 (List.mem_of_getElem? (i := 187) rfl)) rfl), (g_in (g_m1 (List.mem_of_getElem? (i := 5) rfl)) rfl), cl_X3.1, cl_X3.2⟩
theorem mo_X3_readPart : g_MO μX3_readPart := ⟨(g_in (g_m4 (List.mem_of_getElem? (i := 191) rfl)) rfl), (g_in (g_m1 (List.mem_of_getElem? (i := 5) rfl)) rfl), cl_X3.1, cl_X3.2⟩
theorem mo_X3_readSign : g_MO μX3_readSign := ⟨(g_in (g_m4 (List.mem_of_getElem? (i := 195) rfl)) rfl), (g_in (g_m1 (List.mem_of_getElem? (i := 5) rfl)) rfl), cl_X3.1, cl_X3.2⟩
theorem mo_X3_readValue : g_MO μX3_readValue := ⟨(g_in (g_m4 (List.mem_of_getElem? (i := 199) rfl)) rfl), (g_in (g_m1 (List.mem_of_getElem? (i := 5) rfl)) rfl), cl_X3.1, cl_X3.2⟩
theorem mo_X4_addValue : g_MO μX4_addValue := ⟨(g_in (g_m4 (List.mem_of_getElem? (i := 203) rfl)) rfl), (g_in (g_m1 (List.mem_of_getElem? (i := 3) rfl)) rfl), cl_X4.1, cl_X4.2⟩
theorem mo_X4_add : g_MO μX4_add := ⟨(g_in (g_m4 (List.mem_of_getElem? (i := 207) rfl)) rfl), (g_in (g_m1 (List.mem_of_getElem? (i := 3) rfl)) rfl), cl_X4.1, cl_X4.2⟩
theorem mo_X0_clear : g_MO μX0_clear := ⟨(g_in (g_m4 (List.mem_of_getElem? (i := 219) rfl)) rfl), (g_in (g_m1 (List.mem_of_getElem? (i := 7) rfl)) rfl), cl_X0.1, cl_X0.2⟩
theorem mo_L_count : g_MO μL_count := ⟨(g_in (g_m4 (List.mem_of_getElem? (i := 222) rfl)) rfl), (g_in (g_m1 (List.mem_of_getElem? (i := 0) rfl)) rfl), cl_L.1, cl_L.2⟩
theorem mo_X10_count : g_MO μX10_count := ⟨(g_in (g_m4 (List.mem_of_getElem? (i := 227) rfl)) rfl), (g_in (g_m1 (List.mem_of_getElem? (i := 1) rfl)) rfl), cl_X10.1, cl_X10.2⟩
theorem mo_X10_needWhat : g_MO μX10_needWhat := ⟨(g_in (g_m4 (List.mem_of_getElem? (i := 230) rfl)) rfl), (g_in (g_m1 (List.mem_of_getElem? (i := 1) rfl)) rfl), cl_X10.1, cl_X10.2⟩
theorem mo_X6_allRoads : g_MO μX6_allRoads := ⟨(g_in (g_m5 (List.mem_of_getElem? (i := 10) rfl)) rfl), (g_in (g_m1 (List.mem_of_getElem? (i := 2) rfl)) rfl), cl_X6.1, cl_X6.2⟩
theorem mo_X10_shutRoads : g_MO μX10_shutRoads := ⟨(g_in (g_m5 (List.mem_of_getElem? (i := 14) rfl)) rfl), (g_in (g_m1 (List.mem_of_getElem? (i := 1) rfl)) rfl), cl_X10.1, cl_X10.2⟩
theorem mo_X9_parts : g_MO μX9_parts := ⟨(g_in (g_m5 (List.mem_of_getElem? (i := 19) rfl)) rfl), (g_in (g_m1 (List.mem_of_getElem? (i := 10) rfl)) rfl), cl_X9.1, cl_X9.2⟩
theorem mo_X9_watch : g_MO μX9_watch := ⟨(g_in (g_m5 (List.mem_of_getElem? (i := 24) rfl)) rfl), (g_in (g_m1 (List.mem_of_getElem? (i := 10) rfl)) rfl), cl_X9.1, cl_X9.2⟩
theorem mo_X9_watchesAll : g_MO μX9_watchesAll := ⟨(g_in (g_m5 (List.mem_of_getElem? (i := 29) rfl)) rfl), (g_in (g_m1 (List.mem_of_getElem? (i := 10) rfl)) rfl), cl_X9.1, cl_X9.2⟩
theorem mo_X6_purses : g_MO μX6_purses := ⟨(g_in (g_m5 (List.mem_of_getElem? (i := 33) rfl)) rfl), (g_in (g_m1 (List.mem_of_getElem? (i := 2) rfl)) rfl), cl_X6.1, cl_X6.2⟩
theorem mo_L_crossing : g_MO μL_crossing := ⟨(g_in (g_m5 (List.mem_of_getElem? (i := 36) rfl)) rfl), (g_in (g_m1 (List.mem_of_getElem? (i := 0) rfl)) rfl), cl_L.1, cl_L.2⟩
theorem mo_X10_crossing : g_MO μX10_crossing := ⟨(g_in (g_m5 (List.mem_of_getElem? (i := 40) rfl)) rfl), (g_in (g_m1 (List.mem_of_getElem? (i := 1) rfl)) rfl), cl_X10.1, cl_X10.2⟩
theorem mo_X10_needCrossing : g_MO μX10_needCrossing := ⟨(g_in (g_m5 (List.mem_of_getElem? (i := 44) rfl)) rfl), (g_in (g_m1 (List.mem_of_getElem? (i := 1) rfl)) rfl), cl_X10.1, cl_X10.2⟩
theorem mo_L_road : g_MO μL_road := ⟨(g_in (g_m5 (List.mem_of_getElem? (i := 49) rfl)) rfl), (g_in (g_m1 (List.mem_of_getElem? (i := 0) rfl)) rfl), cl_L.1, cl_L.2⟩
theorem mo_X10_road : g_MO μX10_road := ⟨(g_in (g_m5 (List.mem_of_getElem? (i := 53) rfl)) rfl), (g_in (g_m1 (List.mem_of_getElem? (i := 1) rfl)) rfl), cl_X10.1, cl_X10.2⟩
theorem mo_X10_needRoad : g_MO μX10_needRoad := ⟨(g_in (g_m5 (List.mem_of_getElem? (i := 57) rfl)) rfl), (g_in (g_m1 (List.mem_of_getElem? (i := 1) rfl)) rfl), cl_X10.1, cl_X10.2⟩
theorem mo_L_person : g_MO μL_person := ⟨(g_in (g_m5 (List.mem_of_getElem? (i := 63) rfl)) rfl), (g_in (g_m1 (List.mem_of_getElem? (i := 0) rfl)) rfl), cl_L.1, cl_L.2⟩
theorem mo_X10_person : g_MO μX10_person := ⟨(g_in (g_m5 (List.mem_of_getElem? (i := 67) rfl)) rfl), (g_in (g_m1 (List.mem_of_getElem? (i := 1) rfl)) rfl), cl_X10.1, cl_X10.2⟩
theorem mo_X10_needPerson : g_MO μX10_needPerson := ⟨(g_in (g_m5 (List.mem_of_getElem? (i := 71) rfl)) rfl), (g_in (g_m1 (List.mem_of_getElem? (i := 1) rfl)) rfl), cl_X10.1, cl_X10.2⟩
theorem mo_X10_bedOf : g_MO μX10_bedOf := ⟨(g_in (g_m5 (List.mem_of_getElem? (i := 76) rfl)) rfl), (g_in (g_m1 (List.mem_of_getElem? (i := 1) rfl)) rfl), cl_X10.1, cl_X10.2⟩
theorem mo_X9_lodge : g_MO μX9_lodge := ⟨(g_in (g_m5 (List.mem_of_getElem? (i := 80) rfl)) rfl), (g_in (g_m1 (List.mem_of_getElem? (i := 10) rfl)) rfl), cl_X9.1, cl_X9.2⟩
theorem mo_X9_allBeds : g_MO μX9_allBeds := ⟨(g_in (g_m5 (List.mem_of_getElem? (i := 84) rfl)) rfl), (g_in (g_m1 (List.mem_of_getElem? (i := 10) rfl)) rfl), cl_X9.1, cl_X9.2⟩
theorem mo_X9_lodging : g_MO μX9_lodging := ⟨(g_in (g_m5 (List.mem_of_getElem? (i := 87) rfl)) rfl), (g_in (g_m1 (List.mem_of_getElem? (i := 10) rfl)) rfl), cl_X9.1, cl_X9.2⟩
theorem mo_X9_bestBed : g_MO μX9_bestBed := ⟨(g_in (g_m5 (List.mem_of_getElem? (i := 91) rfl)) rfl), (g_in (g_m1 (List.mem_of_getElem? (i := 10) rfl)) rfl), cl_X9.1, cl_X9.2⟩
theorem mo_X9_worth : g_MO μX9_worth := ⟨(g_in (g_m5 (List.mem_of_getElem? (i := 95) rfl)) rfl), (g_in (g_m1 (List.mem_of_getElem? (i := 10) rfl)) rfl), cl_X9.1, cl_X9.2⟩
theorem mo_X9_canSleep : g_MO μX9_canSleep := ⟨(g_in (g_m5 (List.mem_of_getElem? (i := 99) rfl)) rfl), (g_in (g_m1 (List.mem_of_getElem? (i := 10) rfl)) rfl), cl_X9.1, cl_X9.2⟩
theorem mo_X9_takeBeds : g_MO μX9_takeBeds := ⟨(g_in (g_m5 (List.mem_of_getElem? (i := 103) rfl)) rfl), (g_in (g_m1 (List.mem_of_getElem? (i := 10) rfl)) rfl), cl_X9.1, cl_X9.2⟩
theorem mo_X6_others : g_MO μX6_others := ⟨(g_in (g_m5 (List.mem_of_getElem? (i := 107) rfl)) rfl), (g_in (g_m1 (List.mem_of_getElem? (i := 2) rfl)) rfl), cl_X6.1, cl_X6.2⟩
theorem mo_L_turn : g_MO μL_turn := ⟨(g_in (g_m5 (List.mem_of_getElem? (i := 112) rfl)) rfl), (g_in (g_m1 (List.mem_of_getElem? (i := 0) rfl)) rfl), cl_L.1, cl_L.2⟩
theorem mo_X10_turn : g_MO μX10_turn := ⟨(g_in (g_m5 (List.mem_of_getElem? (i := 116) rfl)) rfl), (g_in (g_m1 (List.mem_of_getElem? (i := 1) rfl)) rfl), cl_X10.1, cl_X10.2⟩
theorem mo_L_shut : g_MO μL_shut := ⟨(g_in (g_m5 (List.mem_of_getElem? (i := 119) rfl)) rfl), (g_in (g_m1 (List.mem_of_getElem? (i := 0) rfl)) rfl), cl_L.1, cl_L.2⟩
theorem mo_X10_shut : g_MO μX10_shut := ⟨(g_in (g_m5 (List.mem_of_getElem? (i := 123) rfl)) rfl), (g_in (g_m1 (List.mem_of_getElem? (i := 1) rfl)) rfl), cl_X10.1, cl_X10.2⟩
theorem mo_L_fill : g_MO μL_fill := ⟨(g_in (g_m5 (List.mem_of_getElem? (i := 126) rfl)) rfl), (g_in (g_m1 (List.mem_of_getElem? (i := 0) rfl)) rfl), cl_L.1, cl_L.2⟩
theorem mo_X10_fill : g_MO μX10_fill := ⟨(g_in (g_m5 (List.mem_of_getElem? (i := 130) rfl)) rfl), (g_in (g_m1 (List.mem_of_getElem? (i := 1) rfl)) rfl), cl_X10.1, cl_X10.2⟩
theorem mo_L_set : g_MO μL_set := ⟨(g_in (g_m5 (List.mem_of_getElem? (i := 133) rfl)) rfl), (g_in (g_m1 (List.mem_of_getElem? (i := 0) rfl)) rfl), cl_L.1, cl_L.2⟩
theorem mo_X10_set : g_MO μX10_set := ⟨(g_in (g_m5 (List.mem_of_getElem? (i := 137) rfl)) rfl), (g_in (g_m1 (List.mem_of_getElem? (i := 1) rfl)) rfl), cl_X10.1, cl_X10.2⟩
theorem mo_L_then : g_MO μL_then := ⟨(g_in (g_m5 (List.mem_of_getElem? (i := 140) rfl)) rfl), (g_in (g_m1 (List.mem_of_getElem? (i := 0) rfl)) rfl), cl_L.1, cl_L.2⟩
theorem mo_X10_then : g_MO μX10_then := ⟨(g_in (g_m5 (List.mem_of_getElem? (i := 144) rfl)) rfl), (g_in (g_m1 (List.mem_of_getElem? (i := 1) rfl)) rfl), cl_X10.1, cl_X10.2⟩
theorem mo_X10_needDays : g_MO μX10_needDays := ⟨(g_in (g_m5 (List.mem_of_getElem? (i := 147) rfl)) rfl), (g_in (g_m1 (List.mem_of_getElem? (i := 1) rfl)) rfl), cl_X10.1, cl_X10.2⟩
theorem mo_L_points : g_MO μL_points := ⟨(g_in (g_m5 (List.mem_of_getElem? (i := 151) rfl)) rfl), (g_in (g_m1 (List.mem_of_getElem? (i := 0) rfl)) rfl), cl_L.1, cl_L.2⟩
theorem mo_X10_points : g_MO μX10_points := ⟨(g_in (g_m5 (List.mem_of_getElem? (i := 155) rfl)) rfl), (g_in (g_m1 (List.mem_of_getElem? (i := 1) rfl)) rfl), cl_X10.1, cl_X10.2⟩
theorem mo_L_comes : g_MO μL_comes := ⟨(g_in (g_m5 (List.mem_of_getElem? (i := 158) rfl)) rfl), (g_in (g_m1 (List.mem_of_getElem? (i := 0) rfl)) rfl), cl_L.1, cl_L.2⟩
theorem mo_X10_comes : g_MO μX10_comes := ⟨(g_in (g_m5 (List.mem_of_getElem? (i := 162) rfl)) rfl), (g_in (g_m1 (List.mem_of_getElem? (i := 1) rfl)) rfl), cl_X10.1, cl_X10.2⟩
theorem mo_L_meet : g_MO μL_meet := ⟨(g_in (g_m5 (List.mem_of_getElem? (i := 165) rfl)) rfl), (g_in (g_m1 (List.mem_of_getElem? (i := 0) rfl)) rfl), cl_L.1, cl_L.2⟩
theorem mo_X10_meet : g_MO μX10_meet := ⟨(g_in (g_m5 (List.mem_of_getElem? (i := 169) rfl)) rfl), (g_in (g_m1 (List.mem_of_getElem? (i := 1) rfl)) rfl), cl_X10.1, cl_X10.2⟩
theorem mo_X8_areTogether : g_MO μX8_areTogether := ⟨(g_in (g_m5 (List.mem_of_getElem? (i := 173) rfl)) rfl), (g_in (g_m1 (List.mem_of_getElem? (i := 9) rfl)) rfl), cl_X8.1, cl_X8.2⟩
theorem mo_L_gone : g_MO μL_gone := ⟨(g_in (g_m5 (List.mem_of_getElem? (i := 176) rfl)) rfl), (g_in (g_m1 (List.mem_of_getElem? (i := 0) rfl)) rfl), cl_L.1, cl_L.2⟩
theorem mo_X10_gone : g_MO μX10_gone := ⟨(g_in (g_m5 (List.mem_of_getElem? (i := 180) rfl)) rfl), (g_in (g_m1 (List.mem_of_getElem? (i := 1) rfl)) rfl), cl_X10.1, cl_X10.2⟩
theorem mo_L_later : g_MO μL_later := ⟨(g_in (g_m5 (List.mem_of_getElem? (i := 184) rfl)) rfl), (g_in (g_m1 (List.mem_of_getElem? (i := 0) rfl)) rfl), cl_L.1, cl_L.2⟩
theorem mo_X10_later : g_MO μX10_later := ⟨(g_in (g_m5 (List.mem_of_getElem? (i := 188) rfl)) rfl), (g_in (g_m1 (List.mem_of_getElem? (i := 1) rfl)) rfl), cl_X10.1, cl_X10.2⟩
theorem mo_X10_homeAfter : g_MO μX10_homeAfter := ⟨(g_in (g_m5 (List.mem_of_getElem? (i := 192) rfl)) rfl), (g_in (g_m1 (List.mem_of_getElem? (i := 1) rfl)) rfl), cl_X10.1, cl_X10.2⟩
theorem mo_X10_poorest : g_MO μX10_poorest := ⟨(g_in (g_m5 (List.mem_of_getElem? (i := 196) rfl)) rfl), (g_in (g_m1 (List.mem_of_getElem? (i := 1) rfl)) rfl), cl_X10.1, cl_X10.2⟩
theorem mo_X10_busiest : g_MO μX10_busiest := ⟨(g_in (g_m5 (List.mem_of_getElem? (i := 200) rfl)) rfl), (g_in (g_m1 (List.mem_of_getElem? (i := 1) rfl)) rfl), cl_X10.1, cl_X10.2⟩
theorem mo_X10_stuck : g_MO μX10_stuck := ⟨(g_in (g_m5 (List.mem_of_getElem? (i := 205) rfl)) rfl), (g_in (g_m1 (List.mem_of_getElem? (i := 1) rfl)) rfl), cl_X10.1, cl_X10.2⟩
theorem mo_L_way : g_MO μL_way := ⟨(g_in (g_m5 (List.mem_of_getElem? (i := 208) rfl)) rfl), (g_in (g_m1 (List.mem_of_getElem? (i := 0) rfl)) rfl), cl_L.1, cl_L.2⟩
theorem mo_X10_way : g_MO μX10_way := ⟨(g_in (g_m5 (List.mem_of_getElem? (i := 212) rfl)) rfl), (g_in (g_m1 (List.mem_of_getElem? (i := 1) rfl)) rfl), cl_X10.1, cl_X10.2⟩
theorem mo_X10_orNone : g_MO μX10_orNone := ⟨(g_in (g_m5 (List.mem_of_getElem? (i := 217) rfl)) rfl), (g_in (g_m1 (List.mem_of_getElem? (i := 1) rfl)) rfl), cl_X10.1, cl_X10.2⟩
theorem mo_L_best : g_MO μL_best := ⟨(g_in (g_m5 (List.mem_of_getElem? (i := 220) rfl)) rfl), (g_in (g_m1 (List.mem_of_getElem? (i := 0) rfl)) rfl), cl_L.1, cl_L.2⟩
theorem mo_X10_best : g_MO μX10_best := ⟨(g_in (g_m5 (List.mem_of_getElem? (i := 224) rfl)) rfl), (g_in (g_m1 (List.mem_of_getElem? (i := 1) rfl)) rfl), cl_X10.1, cl_X10.2⟩
theorem mo_X8_daysToHome : g_MO μX8_daysToHome := ⟨(g_in (g_m5 (List.mem_of_getElem? (i := 228) rfl)) rfl), (g_in (g_m1 (List.mem_of_getElem? (i := 9) rfl)) rfl), cl_X8.1, cl_X8.2⟩
theorem mo_X10_daysByTurn : g_MO μX10_daysByTurn := ⟨(g_in (g_m5 (List.mem_of_getElem? (i := 232) rfl)) rfl), (g_in (g_m1 (List.mem_of_getElem? (i := 1) rfl)) rfl), cl_X10.1, cl_X10.2⟩
theorem mo_L_lodged : g_MO μL_lodged := ⟨(g_in (g_m5 (List.mem_of_getElem? (i := 235) rfl)) rfl), (g_in (g_m1 (List.mem_of_getElem? (i := 0) rfl)) rfl), cl_L.1, cl_L.2⟩
theorem mo_X10_lodged : g_MO μX10_lodged := ⟨(g_in (g_m5 (List.mem_of_getElem? (i := 239) rfl)) rfl), (g_in (g_m1 (List.mem_of_getElem? (i := 1) rfl)) rfl), cl_X10.1, cl_X10.2⟩
theorem mo_L_see : g_MO μL_see := ⟨(g_in (g_m6 (List.mem_of_getElem? (i := 2) rfl)) rfl), (g_in (g_m1 (List.mem_of_getElem? (i := 0) rfl)) rfl), cl_L.1, cl_L.2⟩
theorem mo_X10_see : g_MO μX10_see := ⟨(g_in (g_m6 (List.mem_of_getElem? (i := 6) rfl)) rfl), (g_in (g_m1 (List.mem_of_getElem? (i := 1) rfl)) rfl), cl_X10.1, cl_X10.2⟩
theorem mo_X5_add : g_MO μX5_add := ⟨(g_in (g_m6 (List.mem_of_getElem? (i := 10) rfl)) rfl), (g_in (g_m1 (List.mem_of_getElem? (i := 8) rfl)) rfl), cl_X5.1, cl_X5.2⟩
theorem mo_L_turned : g_MO μL_turned := ⟨(g_in (g_m6 (List.mem_of_getElem? (i := 13) rfl)) rfl), (g_in (g_m1 (List.mem_of_getElem? (i := 0) rfl)) rfl), cl_L.1, cl_L.2⟩
theorem mo_X10_turned : g_MO μX10_turned := ⟨(g_in (g_m6 (List.mem_of_getElem? (i := 17) rfl)) rfl), (g_in (g_m1 (List.mem_of_getElem? (i := 1) rfl)) rfl), cl_X10.1, cl_X10.2⟩
theorem mo_X5_isSo : g_MO μX5_isSo := ⟨(g_in (g_m6 (List.mem_of_getElem? (i := 21) rfl)) rfl), (g_in (g_m1 (List.mem_of_getElem? (i := 8) rfl)) rfl), cl_X5.1, cl_X5.2⟩
theorem mo_X5_lastDay : g_MO μX5_lastDay := ⟨(g_in (g_m6 (List.mem_of_getElem? (i := 25) rfl)) rfl), (g_in (g_m1 (List.mem_of_getElem? (i := 8) rfl)) rfl), cl_X5.1, cl_X5.2⟩
theorem mo_X5_isSoOn : g_MO μX5_isSoOn := ⟨(g_in (g_m6 (List.mem_of_getElem? (i := 30) rfl)) rfl), (g_in (g_m1 (List.mem_of_getElem? (i := 8) rfl)) rfl), cl_X5.1, cl_X5.2⟩
theorem mo_X10_couldBeTurned : g_MO μX10_couldBeTurned := ⟨(g_in (g_m6 (List.mem_of_getElem? (i := 35) rfl)) rfl), (g_in (g_m1 (List.mem_of_getElem? (i := 1) rfl)) rfl), cl_X10.1, cl_X10.2⟩
theorem mo_L_look : g_MO μL_look := ⟨(g_in (g_m6 (List.mem_of_getElem? (i := 38) rfl)) rfl), (g_in (g_m1 (List.mem_of_getElem? (i := 0) rfl)) rfl), cl_L.1, cl_L.2⟩
theorem mo_X10_look : g_MO μX10_look := ⟨(g_in (g_m6 (List.mem_of_getElem? (i := 42) rfl)) rfl), (g_in (g_m1 (List.mem_of_getElem? (i := 1) rfl)) rfl), cl_X10.1, cl_X10.2⟩
theorem mo_X10_addPlaces : g_MO μX10_addPlaces := ⟨(g_in (g_m6 (List.mem_of_getElem? (i := 46) rfl)) rfl), (g_in (g_m1 (List.mem_of_getElem? (i := 1) rfl)) rfl), cl_X10.1, cl_X10.2⟩
theorem mo_L_wind : g_MO μL_wind := ⟨(g_in (g_m6 (List.mem_of_getElem? (i := 49) rfl)) rfl), (g_in (g_m1 (List.mem_of_getElem? (i := 0) rfl)) rfl), cl_L.1, cl_L.2⟩
theorem mo_X10_wind : g_MO μX10_wind := ⟨(g_in (g_m6 (List.mem_of_getElem? (i := 53) rfl)) rfl), (g_in (g_m1 (List.mem_of_getElem? (i := 1) rfl)) rfl), cl_X10.1, cl_X10.2⟩
theorem mo_X10_isHomeByWind : g_MO μX10_isHomeByWind := ⟨(g_in (g_m6 (List.mem_of_getElem? (i := 58) rfl)) rfl), (g_in (g_m1 (List.mem_of_getElem? (i := 1) rfl)) rfl), cl_X10.1, cl_X10.2⟩
theorem mo_L_game : g_MO μL_game := ⟨(g_in (g_m6 (List.mem_of_getElem? (i := 61) rfl)) rfl), (g_in (g_m1 (List.mem_of_getElem? (i := 0) rfl)) rfl), cl_L.1, cl_L.2⟩
theorem mo_X10_game : g_MO μX10_game := ⟨(g_in (g_m6 (List.mem_of_getElem? (i := 65) rfl)) rfl), (g_in (g_m1 (List.mem_of_getElem? (i := 1) rfl)) rfl), cl_X10.1, cl_X10.2⟩
theorem mo_X10_play : g_MO μX10_play := ⟨(g_in (g_m6 (List.mem_of_getElem? (i := 70) rfl)) rfl), (g_in (g_m1 (List.mem_of_getElem? (i := 1) rfl)) rfl), cl_X10.1, cl_X10.2⟩
theorem mo_X10_rests : g_MO μX10_rests := ⟨(g_in (g_m6 (List.mem_of_getElem? (i := 75) rfl)) rfl), (g_in (g_m1 (List.mem_of_getElem? (i := 1) rfl)) rfl), cl_X10.1, cl_X10.2⟩
theorem mo_L_years : g_MO μL_years := ⟨(g_in (g_m6 (List.mem_of_getElem? (i := 78) rfl)) rfl), (g_in (g_m1 (List.mem_of_getElem? (i := 0) rfl)) rfl), cl_L.1, cl_L.2⟩
theorem mo_X10_years : g_MO μX10_years := ⟨(g_in (g_m6 (List.mem_of_getElem? (i := 82) rfl)) rfl), (g_in (g_m1 (List.mem_of_getElem? (i := 1) rfl)) rfl), cl_X10.1, cl_X10.2⟩
theorem mo_X10_drawAhead : g_MO μX10_drawAhead := ⟨(g_in (g_m6 (List.mem_of_getElem? (i := 86) rfl)) rfl), (g_in (g_m1 (List.mem_of_getElem? (i := 1) rfl)) rfl), cl_X10.1, cl_X10.2⟩
theorem mo_X1_next : g_MO μX1_next := ⟨(g_in (g_m6 (List.mem_of_getElem? (i := 90) rfl)) rfl), (g_in (g_m1 (List.mem_of_getElem? (i := 11) rfl)) rfl), cl_X1.1, cl_X1.2⟩
theorem mo_X8_allSteps : g_MO μX8_allSteps := ⟨(g_in (g_m6 (List.mem_of_getElem? (i := 95) rfl)) rfl), (g_in (g_m1 (List.mem_of_getElem? (i := 9) rfl)) rfl), cl_X8.1, cl_X8.2⟩
theorem mo_L_visited : g_MO μL_visited := ⟨(g_in (g_m6 (List.mem_of_getElem? (i := 98) rfl)) rfl), (g_in (g_m1 (List.mem_of_getElem? (i := 0) rfl)) rfl), cl_L.1, cl_L.2⟩
theorem mo_X10_visited : g_MO μX10_visited := ⟨(g_in (g_m6 (List.mem_of_getElem? (i := 102) rfl)) rfl), (g_in (g_m1 (List.mem_of_getElem? (i := 1) rfl)) rfl), cl_X10.1, cl_X10.2⟩
theorem mo_L_uneven : g_MO μL_uneven := ⟨(g_in (g_m6 (List.mem_of_getElem? (i := 105) rfl)) rfl), (g_in (g_m1 (List.mem_of_getElem? (i := 0) rfl)) rfl), cl_L.1, cl_L.2⟩
theorem mo_X10_uneven : g_MO μX10_uneven := ⟨(g_in (g_m6 (List.mem_of_getElem? (i := 109) rfl)) rfl), (g_in (g_m1 (List.mem_of_getElem? (i := 1) rfl)) rfl), cl_X10.1, cl_X10.2⟩
theorem mo_L_together : g_MO μL_together := ⟨(g_in (g_m6 (List.mem_of_getElem? (i := 114) rfl)) rfl), (g_in (g_m1 (List.mem_of_getElem? (i := 0) rfl)) rfl), cl_L.1, cl_L.2⟩
theorem mo_X10_together : g_MO μX10_together := ⟨(g_in (g_m6 (List.mem_of_getElem? (i := 118) rfl)) rfl), (g_in (g_m1 (List.mem_of_getElem? (i := 1) rfl)) rfl), cl_X10.1, cl_X10.2⟩
theorem mo_L_taken : g_MO μL_taken := ⟨(g_in (g_m6 (List.mem_of_getElem? (i := 121) rfl)) rfl), (g_in (g_m1 (List.mem_of_getElem? (i := 0) rfl)) rfl), cl_L.1, cl_L.2⟩
theorem mo_X10_taken : g_MO μX10_taken := ⟨(g_in (g_m6 (List.mem_of_getElem? (i := 125) rfl)) rfl), (g_in (g_m1 (List.mem_of_getElem? (i := 1) rfl)) rfl), cl_X10.1, cl_X10.2⟩
theorem mo_L_covered : g_MO μL_covered := ⟨(g_in (g_m6 (List.mem_of_getElem? (i := 128) rfl)) rfl), (g_in (g_m1 (List.mem_of_getElem? (i := 0) rfl)) rfl), cl_L.1, cl_L.2⟩
theorem mo_X10_covered : g_MO μX10_covered := ⟨(g_in (g_m6 (List.mem_of_getElem? (i := 132) rfl)) rfl), (g_in (g_m1 (List.mem_of_getElem? (i := 1) rfl)) rfl), cl_X10.1, cl_X10.2⟩
theorem mo_L_parting : g_MO μL_parting := ⟨(g_in (g_m6 (List.mem_of_getElem? (i := 135) rfl)) rfl), (g_in (g_m1 (List.mem_of_getElem? (i := 0) rfl)) rfl), cl_L.1, cl_L.2⟩
theorem mo_X10_parting : g_MO μX10_parting := ⟨(g_in (g_m6 (List.mem_of_getElem? (i := 139) rfl)) rfl), (g_in (g_m1 (List.mem_of_getElem? (i := 1) rfl)) rfl), cl_X10.1, cl_X10.2⟩
theorem mo_L_purse : g_MO μL_purse := ⟨(g_in (g_m6 (List.mem_of_getElem? (i := 142) rfl)) rfl), (g_in (g_m1 (List.mem_of_getElem? (i := 0) rfl)) rfl), cl_L.1, cl_L.2⟩
theorem mo_X10_purse : g_MO μX10_purse := ⟨(g_in (g_m6 (List.mem_of_getElem? (i := 146) rfl)) rfl), (g_in (g_m1 (List.mem_of_getElem? (i := 1) rfl)) rfl), cl_X10.1, cl_X10.2⟩
theorem mo_L_cuts : g_MO μL_cuts := ⟨(g_in (g_m6 (List.mem_of_getElem? (i := 149) rfl)) rfl), (g_in (g_m1 (List.mem_of_getElem? (i := 0) rfl)) rfl), cl_L.1, cl_L.2⟩
theorem mo_X10_cuts : g_MO μX10_cuts := ⟨(g_in (g_m6 (List.mem_of_getElem? (i := 153) rfl)) rfl), (g_in (g_m1 (List.mem_of_getElem? (i := 1) rfl)) rfl), cl_X10.1, cl_X10.2⟩
theorem mo_X10_isCut : g_MO μX10_isCut := ⟨(g_in (g_m6 (List.mem_of_getElem? (i := 157) rfl)) rfl), (g_in (g_m1 (List.mem_of_getElem? (i := 1) rfl)) rfl), cl_X10.1, cl_X10.2⟩
theorem mo_L_gather : g_MO μL_gather := ⟨(g_in (g_m6 (List.mem_of_getElem? (i := 160) rfl)) rfl), (g_in (g_m1 (List.mem_of_getElem? (i := 0) rfl)) rfl), cl_L.1, cl_L.2⟩
theorem mo_X10_gather : g_MO μX10_gather := ⟨(g_in (g_m6 (List.mem_of_getElem? (i := 164) rfl)) rfl), (g_in (g_m1 (List.mem_of_getElem? (i := 1) rfl)) rfl), cl_X10.1, cl_X10.2⟩
theorem mo_X9_comers : g_MO μX9_comers := ⟨(g_in (g_m6 (List.mem_of_getElem? (i := 168) rfl)) rfl), (g_in (g_m1 (List.mem_of_getElem? (i := 10) rfl)) rfl), cl_X9.1, cl_X9.2⟩
theorem mo_X9_comersCost : g_MO μX9_comersCost := ⟨(g_in (g_m6 (List.mem_of_getElem? (i := 172) rfl)) rfl), (g_in (g_m1 (List.mem_of_getElem? (i := 10) rfl)) rfl), cl_X9.1, cl_X9.2⟩
theorem mo_L_walk : g_MO μL_walk := ⟨(g_in (g_m6 (List.mem_of_getElem? (i := 175) rfl)) rfl), (g_in (g_m1 (List.mem_of_getElem? (i := 0) rfl)) rfl), cl_L.1, cl_L.2⟩
theorem mo_X10_walk : g_MO μX10_walk := ⟨(g_in (g_m6 (List.mem_of_getElem? (i := 179) rfl)) rfl), (g_in (g_m1 (List.mem_of_getElem? (i := 1) rfl)) rfl), cl_X10.1, cl_X10.2⟩
theorem mo_X9_loop : g_MO μX9_loop := ⟨(g_in (g_m6 (List.mem_of_getElem? (i := 183) rfl)) rfl), (g_in (g_m1 (List.mem_of_getElem? (i := 10) rfl)) rfl), cl_X9.1, cl_X9.2⟩
theorem mo_X9_longest : g_MO μX9_longest := ⟨(g_in (g_m6 (List.mem_of_getElem? (i := 187) rfl)) rfl), (g_in (g_m1 (List.mem_of_getElem? (i := 10) rfl)) rfl), cl_X9.1, cl_X9.2⟩
theorem mo_X9_walkOn : g_MO μX9_walkOn := ⟨(g_in (g_m6 (List.mem_of_getElem? (i := 192) rfl)) rfl), (g_in (g_m1 (List.mem_of_getElem? (i := 10) rfl)) rfl), cl_X9.1, cl_X9.2⟩
theorem mo_L_tour : g_MO μL_tour := ⟨(g_in (g_m6 (List.mem_of_getElem? (i := 195) rfl)) rfl), (g_in (g_m1 (List.mem_of_getElem? (i := 0) rfl)) rfl), cl_L.1, cl_L.2⟩
theorem mo_X10_tour : g_MO μX10_tour := ⟨(g_in (g_m6 (List.mem_of_getElem? (i := 199) rfl)) rfl), (g_in (g_m1 (List.mem_of_getElem? (i := 1) rfl)) rfl), cl_X10.1, cl_X10.2⟩
theorem mo_X9_planTour : g_MO μX9_planTour := ⟨(g_in (g_m6 (List.mem_of_getElem? (i := 204) rfl)) rfl), (g_in (g_m1 (List.mem_of_getElem? (i := 10) rfl)) rfl), cl_X9.1, cl_X9.2⟩
theorem mo_X9_stage : g_MO μX9_stage := ⟨(g_in (g_m6 (List.mem_of_getElem? (i := 207) rfl)) rfl), (g_in (g_m1 (List.mem_of_getElem? (i := 10) rfl)) rfl), cl_X9.1, cl_X9.2⟩
theorem mo_X9_nextStop : g_MO μX9_nextStop := ⟨(g_in (g_m6 (List.mem_of_getElem? (i := 211) rfl)) rfl), (g_in (g_m1 (List.mem_of_getElem? (i := 10) rfl)) rfl), cl_X9.1, cl_X9.2⟩
theorem mo_X9_costOn : g_MO μX9_costOn := ⟨(g_in (g_m6 (List.mem_of_getElem? (i := 215) rfl)) rfl), (g_in (g_m1 (List.mem_of_getElem? (i := 10) rfl)) rfl), cl_X9.1, cl_X9.2⟩
theorem mo_X9_tourStop : g_MO μX9_tourStop := ⟨(g_in (g_m6 (List.mem_of_getElem? (i := 219) rfl)) rfl), (g_in (g_m1 (List.mem_of_getElem? (i := 10) rfl)) rfl), cl_X9.1, cl_X9.2⟩
theorem mo_X11_init : g_MO μX11_init := ⟨(g_in (g_m6 (List.mem_of_getElem? (i := 224) rfl)) rfl), (g_in (g_m1 (List.mem_of_getElem? (i := 12) rfl)) rfl), cl_X11.1, cl_X11.2⟩
theorem mo_X11_thrown : g_MO μX11_thrown := ⟨(g_in (g_m7 (List.mem_of_getElem? (i := 198) rfl)) rfl), (g_in (g_m1 (List.mem_of_getElem? (i := 12) rfl)) rfl), cl_X11.1, cl_X11.2⟩
theorem mo_X11_feed : g_MO μX11_feed := ⟨(g_in (g_m7 (List.mem_of_getElem? (i := 202) rfl)) rfl), (g_in (g_m1 (List.mem_of_getElem? (i := 12) rfl)) rfl), cl_X11.1, cl_X11.2⟩
theorem mo_X11_lays : g_MO μX11_lays := ⟨(g_in (g_m7 (List.mem_of_getElem? (i := 206) rfl)) rfl), (g_in (g_m1 (List.mem_of_getElem? (i := 12) rfl)) rfl), cl_X11.1, cl_X11.2⟩
theorem mo_X11_shire : g_MO μX11_shire := ⟨(g_in (g_m7 (List.mem_of_getElem? (i := 210) rfl)) rfl), (g_in (g_m1 (List.mem_of_getElem? (i := 12) rfl)) rfl), cl_X11.1, cl_X11.2⟩
theorem mo_X11_right : g_MO μX11_right := ⟨(g_in (g_m7 (List.mem_of_getElem? (i := 214) rfl)) rfl), (g_in (g_m1 (List.mem_of_getElem? (i := 12) rfl)) rfl), cl_X11.1, cl_X11.2⟩
theorem mo_X11_goes : g_MO μX11_goes := ⟨(g_in (g_m7 (List.mem_of_getElem? (i := 218) rfl)) rfl), (g_in (g_m1 (List.mem_of_getElem? (i := 12) rfl)) rfl), cl_X11.1, cl_X11.2⟩
theorem mo_X11_byteAt : g_MO μX11_byteAt := ⟨(g_in (g_m7 (List.mem_of_getElem? (i := 222) rfl)) rfl), (g_in (g_m1 (List.mem_of_getElem? (i := 12) rfl)) rfl), cl_X11.1, cl_X11.2⟩
theorem mo_X11_isLetter : g_MO μX11_isLetter := ⟨(g_in (g_m7 (List.mem_of_getElem? (i := 225) rfl)) rfl), (g_in (g_m1 (List.mem_of_getElem? (i := 12) rfl)) rfl), cl_X11.1, cl_X11.2⟩
theorem mo_X11_isDigit : g_MO μX11_isDigit := ⟨(g_in (g_m7 (List.mem_of_getElem? (i := 228) rfl)) rfl), (g_in (g_m1 (List.mem_of_getElem? (i := 12) rfl)) rfl), cl_X11.1, cl_X11.2⟩
theorem mo_X11_isGood : g_MO μX11_isGood := ⟨(g_in (g_m7 (List.mem_of_getElem? (i := 232) rfl)) rfl), (g_in (g_m1 (List.mem_of_getElem? (i := 12) rfl)) rfl), cl_X11.1, cl_X11.2⟩
theorem mo_X11_line : g_MO μX11_line := ⟨(g_in (g_m7 (List.mem_of_getElem? (i := 236) rfl)) rfl), (g_in (g_m1 (List.mem_of_getElem? (i := 12) rfl)) rfl), cl_X11.1, cl_X11.2⟩
theorem mo_X11_knownWord : g_MO μX11_knownWord := ⟨(g_in (g_m8 (List.mem_of_getElem? (i := 0) rfl)) rfl), (g_in (g_m1 (List.mem_of_getElem? (i := 12) rfl)) rfl), cl_X11.1, cl_X11.2⟩
theorem mo_X11_letters : g_MO μX11_letters := ⟨(g_in (g_m8 (List.mem_of_getElem? (i := 3) rfl)) rfl), (g_in (g_m1 (List.mem_of_getElem? (i := 12) rfl)) rfl), cl_X11.1, cl_X11.2⟩
theorem mo_X11_spelled : g_MO μX11_spelled := ⟨(g_in (g_m8 (List.mem_of_getElem? (i := 6) rfl)) rfl), (g_in (g_m1 (List.mem_of_getElem? (i := 12) rfl)) rfl), cl_X11.1, cl_X11.2⟩
theorem mo_X11_begins : g_MO μX11_begins := ⟨(g_in (g_m8 (List.mem_of_getElem? (i := 11) rfl)) rfl), (g_in (g_m1 (List.mem_of_getElem? (i := 12) rfl)) rfl), cl_X11.1, cl_X11.2⟩
theorem mo_X11_wrong : g_MO μX11_wrong := ⟨(g_in (g_m8 (List.mem_of_getElem? (i := 15) rfl)) rfl), (g_in (g_m1 (List.mem_of_getElem? (i := 12) rfl)) rfl), cl_X11.1, cl_X11.2⟩
theorem mo_X11_readsCrossing : g_MO μX11_readsCrossing := ⟨(g_in (g_m8 (List.mem_of_getElem? (i := 19) rfl)) rfl), (g_in (g_m1 (List.mem_of_getElem? (i := 12) rfl)) rfl), cl_X11.1, cl_X11.2⟩
theorem mo_X11_number : g_MO μX11_number := ⟨(g_in (g_m8 (List.mem_of_getElem? (i := 23) rfl)) rfl), (g_in (g_m1 (List.mem_of_getElem? (i := 12) rfl)) rfl), cl_X11.1, cl_X11.2⟩
theorem mo_X11_readsRoad : g_MO μX11_readsRoad := ⟨(g_in (g_m8 (List.mem_of_getElem? (i := 27) rfl)) rfl), (g_in (g_m1 (List.mem_of_getElem? (i := 12) rfl)) rfl), cl_X11.1, cl_X11.2⟩
theorem mo_X11_isOneOf : g_MO μX11_isOneOf := ⟨(g_in (g_m8 (List.mem_of_getElem? (i := 31) rfl)) rfl), (g_in (g_m1 (List.mem_of_getElem? (i := 12) rfl)) rfl), cl_X11.1, cl_X11.2⟩
theorem mo_X11_readsPerson : g_MO μX11_readsPerson := ⟨(g_in (g_m8 (List.mem_of_getElem? (i := 35) rfl)) rfl), (g_in (g_m1 (List.mem_of_getElem? (i := 12) rfl)) rfl), cl_X11.1, cl_X11.2⟩
theorem mo_X11_readsArm : g_MO μX11_readsArm := ⟨(g_in (g_m8 (List.mem_of_getElem? (i := 39) rfl)) rfl), (g_in (g_m1 (List.mem_of_getElem? (i := 12) rfl)) rfl), cl_X11.1, cl_X11.2⟩
theorem mo_X11_expression : g_MO μX11_expression := ⟨(g_in (g_m8 (List.mem_of_getElem? (i := 43) rfl)) rfl), (g_in (g_m1 (List.mem_of_getElem? (i := 12) rfl)) rfl), cl_X11.1, cl_X11.2⟩
theorem mo_X11_deeper : g_MO μX11_deeper := ⟨(g_in (g_m8 (List.mem_of_getElem? (i := 47) rfl)) rfl), (g_in (g_m1 (List.mem_of_getElem? (i := 12) rfl)) rfl), cl_X11.1, cl_X11.2⟩
theorem mo_X11_isSign : g_MO μX11_isSign := ⟨(g_in (g_m8 (List.mem_of_getElem? (i := 51) rfl)) rfl), (g_in (g_m1 (List.mem_of_getElem? (i := 12) rfl)) rfl), cl_X11.1, cl_X11.2⟩
theorem mo_X11_operand : g_MO μX11_operand := ⟨(g_in (g_m8 (List.mem_of_getElem? (i := 55) rfl)) rfl), (g_in (g_m1 (List.mem_of_getElem? (i := 12) rfl)) rfl), cl_X11.1, cl_X11.2⟩
theorem mo_X11_waitsFor : g_MO μX11_waitsFor := ⟨(g_in (g_m8 (List.mem_of_getElem? (i := 59) rfl)) rfl), (g_in (g_m1 (List.mem_of_getElem? (i := 12) rfl)) rfl), cl_X11.1, cl_X11.2⟩
theorem mo_X11_part : g_MO μX11_part := ⟨(g_in (g_m8 (List.mem_of_getElem? (i := 63) rfl)) rfl), (g_in (g_m1 (List.mem_of_getElem? (i := 12) rfl)) rfl), cl_X11.1, cl_X11.2⟩
theorem mo_X11_puts : g_MO μX11_puts := ⟨(g_in (g_m8 (List.mem_of_getElem? (i := 67) rfl)) rfl), (g_in (g_m1 (List.mem_of_getElem? (i := 12) rfl)) rfl), cl_X11.1, cl_X11.2⟩
theorem mo_X11_drops : g_MO μX11_drops := ⟨(g_in (g_m8 (List.mem_of_getElem? (i := 71) rfl)) rfl), (g_in (g_m1 (List.mem_of_getElem? (i := 12) rfl)) rfl), cl_X11.1, cl_X11.2⟩
theorem mo_X11_isOpen : g_MO μX11_isOpen := ⟨(g_in (g_m8 (List.mem_of_getElem? (i := 74) rfl)) rfl), (g_in (g_m1 (List.mem_of_getElem? (i := 12) rfl)) rfl), cl_X11.1, cl_X11.2⟩
theorem mo_X11_strength : g_MO μX11_strength := ⟨(g_in (g_m8 (List.mem_of_getElem? (i := 77) rfl)) rfl), (g_in (g_m1 (List.mem_of_getElem? (i := 12) rfl)) rfl), cl_X11.1, cl_X11.2⟩
theorem mo_X11_isOpened : g_MO μX11_isOpened := ⟨(g_in (g_m8 (List.mem_of_getElem? (i := 81) rfl)) rfl), (g_in (g_m1 (List.mem_of_getElem? (i := 12) rfl)) rfl), cl_X11.1, cl_X11.2⟩
theorem mo_X11_closes : g_MO μX11_closes := ⟨(g_in (g_m8 (List.mem_of_getElem? (i := 85) rfl)) rfl), (g_in (g_m1 (List.mem_of_getElem? (i := 12) rfl)) rfl), cl_X11.1, cl_X11.2⟩
theorem mo_X11_need : g_MO μX11_need := ⟨(g_in (g_m8 (List.mem_of_getElem? (i := 89) rfl)) rfl), (g_in (g_m1 (List.mem_of_getElem? (i := 12) rfl)) rfl), cl_X11.1, cl_X11.2⟩
theorem mo_X11_copies : g_MO μX11_copies := ⟨(g_in (g_m8 (List.mem_of_getElem? (i := 93) rfl)) rfl), (g_in (g_m1 (List.mem_of_getElem? (i := 12) rfl)) rfl), cl_X11.1, cl_X11.2⟩
theorem mo_X11_fault : g_MO μX11_fault := ⟨(g_in (g_m8 (List.mem_of_getElem? (i := 97) rfl)) rfl), (g_in (g_m1 (List.mem_of_getElem? (i := 12) rfl)) rfl), cl_X11.1, cl_X11.2⟩
theorem mo_X11_undo : g_MO μX11_undo := ⟨(g_in (g_m8 (List.mem_of_getElem? (i := 101) rfl)) rfl), (g_in (g_m1 (List.mem_of_getElem? (i := 12) rfl)) rfl), cl_X11.1, cl_X11.2⟩
theorem mo_X11_count : g_MO μX11_count := ⟨(g_in (g_m8 (List.mem_of_getElem? (i := 105) rfl)) rfl), (g_in (g_m1 (List.mem_of_getElem? (i := 12) rfl)) rfl), cl_X11.1, cl_X11.2⟩
theorem mo_X11_within : g_MO μX11_within := ⟨(g_in (g_m8 (List.mem_of_getElem? (i := 108) rfl)) rfl), (g_in (g_m1 (List.mem_of_getElem? (i := 12) rfl)) rfl), cl_X11.1, cl_X11.2⟩
theorem mo_X11_roadsAll : g_MO μX11_roadsAll := ⟨(g_in (g_m8 (List.mem_of_getElem? (i := 112) rfl)) rfl), (g_in (g_m1 (List.mem_of_getElem? (i := 12) rfl)) rfl), cl_X11.1, cl_X11.2⟩
theorem mo_X11_isShut : g_MO μX11_isShut := ⟨(g_in (g_m8 (List.mem_of_getElem? (i := 116) rfl)) rfl), (g_in (g_m1 (List.mem_of_getElem? (i := 12) rfl)) rfl), cl_X11.1, cl_X11.2⟩
theorem mo_X11_homeOnes : g_MO μX11_homeOnes := ⟨(g_in (g_m8 (List.mem_of_getElem? (i := 120) rfl)) rfl), (g_in (g_m1 (List.mem_of_getElem? (i := 12) rfl)) rfl), cl_X11.1, cl_X11.2⟩
theorem mo_X11_isHome : g_MO μX11_isHome := ⟨(g_in (g_m8 (List.mem_of_getElem? (i := 124) rfl)) rfl), (g_in (g_m1 (List.mem_of_getElem? (i := 12) rfl)) rfl), cl_X11.1, cl_X11.2⟩
theorem mo_X11_parts : g_MO μX11_parts := ⟨(g_in (g_m8 (List.mem_of_getElem? (i := 128) rfl)) rfl), (g_in (g_m1 (List.mem_of_getElem? (i := 12) rfl)) rfl), cl_X11.1, cl_X11.2⟩
theorem mo_X11_laysWays : g_MO μX11_laysWays := ⟨(g_in (g_m8 (List.mem_of_getElem? (i := 132) rfl)) rfl), (g_in (g_m1 (List.mem_of_getElem? (i := 12) rfl)) rfl), cl_X11.1, cl_X11.2⟩
theorem mo_X11_lesser : g_MO μX11_lesser := ⟨(g_in (g_m8 (List.mem_of_getElem? (i := 135) rfl)) rfl), (g_in (g_m1 (List.mem_of_getElem? (i := 12) rfl)) rfl), cl_X11.1, cl_X11.2⟩
theorem mo_X11_partOf : g_MO μX11_partOf := ⟨(g_in (g_m8 (List.mem_of_getElem? (i := 139) rfl)) rfl), (g_in (g_m1 (List.mem_of_getElem? (i := 12) rfl)) rfl), cl_X11.1, cl_X11.2⟩
theorem mo_X11_watched : g_MO μX11_watched := ⟨(g_in (g_m8 (List.mem_of_getElem? (i := 143) rfl)) rfl), (g_in (g_m1 (List.mem_of_getElem? (i := 12) rfl)) rfl), cl_X11.1, cl_X11.2⟩
theorem mo_X11_bits : g_MO μX11_bits := ⟨(g_in (g_m8 (List.mem_of_getElem? (i := 146) rfl)) rfl), (g_in (g_m1 (List.mem_of_getElem? (i := 12) rfl)) rfl), cl_X11.1, cl_X11.2⟩
theorem mo_X11_isWatched : g_MO μX11_isWatched := ⟨(g_in (g_m8 (List.mem_of_getElem? (i := 150) rfl)) rfl), (g_in (g_m1 (List.mem_of_getElem? (i := 12) rfl)) rfl), cl_X11.1, cl_X11.2⟩
theorem mo_X11_purses : g_MO μX11_purses := ⟨(g_in (g_m8 (List.mem_of_getElem? (i := 154) rfl)) rfl), (g_in (g_m1 (List.mem_of_getElem? (i := 12) rfl)) rfl), cl_X11.1, cl_X11.2⟩
theorem mo_X11_crossing : g_MO μX11_crossing := ⟨(g_in (g_m8 (List.mem_of_getElem? (i := 158) rfl)) rfl), (g_in (g_m1 (List.mem_of_getElem? (i := 12) rfl)) rfl), cl_X11.1, cl_X11.2⟩
theorem mo_X11_isCrossing : g_MO μX11_isCrossing := ⟨(g_in (g_m8 (List.mem_of_getElem? (i := 162) rfl)) rfl), (g_in (g_m1 (List.mem_of_getElem? (i := 12) rfl)) rfl), cl_X11.1, cl_X11.2⟩
theorem mo_X11_isWhat : g_MO μX11_isWhat := ⟨(g_in (g_m8 (List.mem_of_getElem? (i := 166) rfl)) rfl), (g_in (g_m1 (List.mem_of_getElem? (i := 12) rfl)) rfl), cl_X11.1, cl_X11.2⟩
theorem mo_X11_standAt : g_MO μX11_standAt := ⟨(g_in (g_m8 (List.mem_of_getElem? (i := 170) rfl)) rfl), (g_in (g_m1 (List.mem_of_getElem? (i := 12) rfl)) rfl), cl_X11.1, cl_X11.2⟩
theorem mo_X11_reachedFrom : g_MO μX11_reachedFrom := ⟨(g_in (g_m8 (List.mem_of_getElem? (i := 174) rfl)) rfl), (g_in (g_m1 (List.mem_of_getElem? (i := 12) rfl)) rfl), cl_X11.1, cl_X11.2⟩
theorem mo_X11_road : g_MO μX11_road := ⟨(g_in (g_m8 (List.mem_of_getElem? (i := 178) rfl)) rfl), (g_in (g_m1 (List.mem_of_getElem? (i := 12) rfl)) rfl), cl_X11.1, cl_X11.2⟩
theorem mo_X11_isRoad : g_MO μX11_isRoad := ⟨(g_in (g_m8 (List.mem_of_getElem? (i := 182) rfl)) rfl), (g_in (g_m1 (List.mem_of_getElem? (i := 12) rfl)) rfl), cl_X11.1, cl_X11.2⟩
theorem mo_X11_person : g_MO μX11_person := ⟨(g_in (g_m8 (List.mem_of_getElem? (i := 186) rfl)) rfl), (g_in (g_m1 (List.mem_of_getElem? (i := 12) rfl)) rfl), cl_X11.1, cl_X11.2⟩
theorem mo_X11_isPerson : g_MO μX11_isPerson := ⟨(g_in (g_m8 (List.mem_of_getElem? (i := 190) rfl)) rfl), (g_in (g_m1 (List.mem_of_getElem? (i := 12) rfl)) rfl), cl_X11.1, cl_X11.2⟩
theorem mo_X11_bedOf : g_MO μX11_bedOf := ⟨(g_in (g_m8 (List.mem_of_getElem? (i := 194) rfl)) rfl), (g_in (g_m1 (List.mem_of_getElem? (i := 12) rfl)) rfl), cl_X11.1, cl_X11.2⟩
theorem mo_X11_laysBeds : g_MO μX11_laysBeds := ⟨(g_in (g_m8 (List.mem_of_getElem? (i := 198) rfl)) rfl), (g_in (g_m1 (List.mem_of_getElem? (i := 12) rfl)) rfl), cl_X11.1, cl_X11.2⟩
theorem mo_X11_canLie : g_MO μX11_canLie := ⟨(g_in (g_m8 (List.mem_of_getElem? (i := 202) rfl)) rfl), (g_in (g_m1 (List.mem_of_getElem? (i := 12) rfl)) rfl), cl_X11.1, cl_X11.2⟩
theorem mo_X11_lies : g_MO μX11_lies := ⟨(g_in (g_m8 (List.mem_of_getElem? (i := 206) rfl)) rfl), (g_in (g_m1 (List.mem_of_getElem? (i := 12) rfl)) rfl), cl_X11.1, cl_X11.2⟩
theorem mo_X11_days : g_MO μX11_days := ⟨(g_in (g_m8 (List.mem_of_getElem? (i := 210) rfl)) rfl), (g_in (g_m1 (List.mem_of_getElem? (i := 12) rfl)) rfl), cl_X11.1, cl_X11.2⟩
theorem mo_X11_refuses : g_MO μX11_refuses := ⟨(g_in (g_m8 (List.mem_of_getElem? (i := 214) rfl)) rfl), (g_in (g_m1 (List.mem_of_getElem? (i := 12) rfl)) rfl), cl_X11.1, cl_X11.2⟩
theorem mo_X11_keeps : g_MO μX11_keeps := ⟨(g_in (g_m8 (List.mem_of_getElem? (i := 218) rfl)) rfl), (g_in (g_m1 (List.mem_of_getElem? (i := 12) rfl)) rfl), cl_X11.1, cl_X11.2⟩
theorem mo_X11_dayGoes : g_MO μX11_dayGoes := ⟨(g_in (g_m8 (List.mem_of_getElem? (i := 222) rfl)) rfl), (g_in (g_m1 (List.mem_of_getElem? (i := 12) rfl)) rfl), cl_X11.1, cl_X11.2⟩
theorem mo_X11_personGoes : g_MO μX11_personGoes := ⟨(g_in (g_m8 (List.mem_of_getElem? (i := 226) rfl)) rfl), (g_in (g_m1 (List.mem_of_getElem? (i := 12) rfl)) rfl), cl_X11.1, cl_X11.2⟩
theorem mo_X11_reckons : g_MO μX11_reckons := ⟨(g_in (g_m8 (List.mem_of_getElem? (i := 230) rfl)) rfl), (g_in (g_m1 (List.mem_of_getElem? (i := 12) rfl)) rfl), cl_X11.1, cl_X11.2⟩
theorem mo_X11_works : g_MO μX11_works := ⟨(g_in (g_m8 (List.mem_of_getElem? (i := 233) rfl)) rfl), (g_in (g_m1 (List.mem_of_getElem? (i := 12) rfl)) rfl), cl_X11.1, cl_X11.2⟩
theorem mo_X11_bounded : g_MO μX11_bounded := ⟨(g_in (g_m8 (List.mem_of_getElem? (i := 236) rfl)) rfl), (g_in (g_m1 (List.mem_of_getElem? (i := 12) rfl)) rfl), cl_X11.1, cl_X11.2⟩
theorem mo_X11_turn : g_MO μX11_turn := ⟨(g_in (g_m9 (List.mem_of_getElem? (i := 0) rfl)) rfl), (g_in (g_m1 (List.mem_of_getElem? (i := 12) rfl)) rfl), cl_X11.1, cl_X11.2⟩
theorem mo_X11_shut : g_MO μX11_shut := ⟨(g_in (g_m9 (List.mem_of_getElem? (i := 4) rfl)) rfl), (g_in (g_m1 (List.mem_of_getElem? (i := 12) rfl)) rfl), cl_X11.1, cl_X11.2⟩
theorem mo_X11_fill : g_MO μX11_fill := ⟨(g_in (g_m9 (List.mem_of_getElem? (i := 8) rfl)) rfl), (g_in (g_m1 (List.mem_of_getElem? (i := 12) rfl)) rfl), cl_X11.1, cl_X11.2⟩
theorem mo_X11_set : g_MO μX11_set := ⟨(g_in (g_m9 (List.mem_of_getElem? (i := 12) rfl)) rfl), (g_in (g_m1 (List.mem_of_getElem? (i := 12) rfl)) rfl), cl_X11.1, cl_X11.2⟩
theorem mo_X11_then : g_MO μX11_then := ⟨(g_in (g_m9 (List.mem_of_getElem? (i := 16) rfl)) rfl), (g_in (g_m1 (List.mem_of_getElem? (i := 12) rfl)) rfl), cl_X11.1, cl_X11.2⟩
theorem mo_X11_isSoon : g_MO μX11_isSoon := ⟨(g_in (g_m9 (List.mem_of_getElem? (i := 20) rfl)) rfl), (g_in (g_m1 (List.mem_of_getElem? (i := 12) rfl)) rfl), cl_X11.1, cl_X11.2⟩
theorem mo_X11_goesTo : g_MO μX11_goesTo := ⟨(g_in (g_m9 (List.mem_of_getElem? (i := 24) rfl)) rfl), (g_in (g_m1 (List.mem_of_getElem? (i := 12) rfl)) rfl), cl_X11.1, cl_X11.2⟩
theorem mo_X11_tries : g_MO μX11_tries := ⟨(g_in (g_m9 (List.mem_of_getElem? (i := 28) rfl)) rfl), (g_in (g_m1 (List.mem_of_getElem? (i := 12) rfl)) rfl), cl_X11.1, cl_X11.2⟩
theorem mo_X11_daysGo : g_MO μX11_daysGo := ⟨(g_in (g_m9 (List.mem_of_getElem? (i := 32) rfl)) rfl), (g_in (g_m1 (List.mem_of_getElem? (i := 12) rfl)) rfl), cl_X11.1, cl_X11.2⟩
theorem mo_X11_points : g_MO μX11_points := ⟨(g_in (g_m9 (List.mem_of_getElem? (i := 36) rfl)) rfl), (g_in (g_m1 (List.mem_of_getElem? (i := 12) rfl)) rfl), cl_X11.1, cl_X11.2⟩
theorem mo_X11_comes : g_MO μX11_comes := ⟨(g_in (g_m9 (List.mem_of_getElem? (i := 40) rfl)) rfl), (g_in (g_m1 (List.mem_of_getElem? (i := 12) rfl)) rfl), cl_X11.1, cl_X11.2⟩
theorem mo_X11_meet : g_MO μX11_meet := ⟨(g_in (g_m9 (List.mem_of_getElem? (i := 44) rfl)) rfl), (g_in (g_m1 (List.mem_of_getElem? (i := 12) rfl)) rfl), cl_X11.1, cl_X11.2⟩
theorem mo_X11_areBoth : g_MO μX11_areBoth := ⟨(g_in (g_m9 (List.mem_of_getElem? (i := 48) rfl)) rfl), (g_in (g_m1 (List.mem_of_getElem? (i := 12) rfl)) rfl), cl_X11.1, cl_X11.2⟩
theorem mo_X11_parting : g_MO μX11_parting := ⟨(g_in (g_m9 (List.mem_of_getElem? (i := 52) rfl)) rfl), (g_in (g_m1 (List.mem_of_getElem? (i := 12) rfl)) rfl), cl_X11.1, cl_X11.2⟩
theorem mo_X11_together : g_MO μX11_together := ⟨(g_in (g_m9 (List.mem_of_getElem? (i := 56) rfl)) rfl), (g_in (g_m1 (List.mem_of_getElem? (i := 12) rfl)) rfl), cl_X11.1, cl_X11.2⟩
theorem mo_X11_gone : g_MO μX11_gone := ⟨(g_in (g_m9 (List.mem_of_getElem? (i := 60) rfl)) rfl), (g_in (g_m1 (List.mem_of_getElem? (i := 12) rfl)) rfl), cl_X11.1, cl_X11.2⟩
theorem mo_X11_taken : g_MO μX11_taken := ⟨(g_in (g_m9 (List.mem_of_getElem? (i := 64) rfl)) rfl), (g_in (g_m1 (List.mem_of_getElem? (i := 12) rfl)) rfl), cl_X11.1, cl_X11.2⟩
theorem mo_X11_uneven : g_MO μX11_uneven := ⟨(g_in (g_m9 (List.mem_of_getElem? (i := 68) rfl)) rfl), (g_in (g_m1 (List.mem_of_getElem? (i := 12) rfl)) rfl), cl_X11.1, cl_X11.2⟩
theorem mo_X11_visited : g_MO μX11_visited := ⟨(g_in (g_m9 (List.mem_of_getElem? (i := 72) rfl)) rfl), (g_in (g_m1 (List.mem_of_getElem? (i := 12) rfl)) rfl), cl_X11.1, cl_X11.2⟩
theorem mo_X11_covered : g_MO μX11_covered := ⟨(g_in (g_m9 (List.mem_of_getElem? (i := 76) rfl)) rfl), (g_in (g_m1 (List.mem_of_getElem? (i := 12) rfl)) rfl), cl_X11.1, cl_X11.2⟩
theorem mo_X11_later : g_MO μX11_later := ⟨(g_in (g_m9 (List.mem_of_getElem? (i := 80) rfl)) rfl), (g_in (g_m1 (List.mem_of_getElem? (i := 12) rfl)) rfl), cl_X11.1, cl_X11.2⟩
theorem mo_X11_busiest : g_MO μX11_busiest := ⟨(g_in (g_m9 (List.mem_of_getElem? (i := 84) rfl)) rfl), (g_in (g_m1 (List.mem_of_getElem? (i := 12) rfl)) rfl), cl_X11.1, cl_X11.2⟩
theorem mo_X11_stuck : g_MO μX11_stuck := ⟨(g_in (g_m9 (List.mem_of_getElem? (i := 88) rfl)) rfl), (g_in (g_m1 (List.mem_of_getElem? (i := 12) rfl)) rfl), cl_X11.1, cl_X11.2⟩
theorem mo_X11_round : g_MO μX11_round := ⟨(g_in (g_m9 (List.mem_of_getElem? (i := 92) rfl)) rfl), (g_in (g_m1 (List.mem_of_getElem? (i := 12) rfl)) rfl), cl_X11.1, cl_X11.2⟩
theorem mo_X11_isAsNow : g_MO μX11_isAsNow := ⟨(g_in (g_m9 (List.mem_of_getElem? (i := 96) rfl)) rfl), (g_in (g_m1 (List.mem_of_getElem? (i := 12) rfl)) rfl), cl_X11.1, cl_X11.2⟩
theorem mo_X11_first : g_MO μX11_first := ⟨(g_in (g_m9 (List.mem_of_getElem? (i := 100) rfl)) rfl), (g_in (g_m1 (List.mem_of_getElem? (i := 12) rfl)) rfl), cl_X11.1, cl_X11.2⟩
theorem mo_X11_best : g_MO μX11_best := ⟨(g_in (g_m9 (List.mem_of_getElem? (i := 104) rfl)) rfl), (g_in (g_m1 (List.mem_of_getElem? (i := 12) rfl)) rfl), cl_X11.1, cl_X11.2⟩
theorem mo_X11_homeIn : g_MO μX11_homeIn := ⟨(g_in (g_m9 (List.mem_of_getElem? (i := 108) rfl)) rfl), (g_in (g_m1 (List.mem_of_getElem? (i := 12) rfl)) rfl), cl_X11.1, cl_X11.2⟩
theorem mo_X11_purse : g_MO μX11_purse := ⟨(g_in (g_m9 (List.mem_of_getElem? (i := 112) rfl)) rfl), (g_in (g_m1 (List.mem_of_getElem? (i := 12) rfl)) rfl), cl_X11.1, cl_X11.2⟩
theorem mo_X11_cuts : g_MO μX11_cuts := ⟨(g_in (g_m9 (List.mem_of_getElem? (i := 116) rfl)) rfl), (g_in (g_m1 (List.mem_of_getElem? (i := 12) rfl)) rfl), cl_X11.1, cl_X11.2⟩
theorem mo_X11_way : g_MO μX11_way := ⟨(g_in (g_m9 (List.mem_of_getElem? (i := 120) rfl)) rfl), (g_in (g_m1 (List.mem_of_getElem? (i := 12) rfl)) rfl), cl_X11.1, cl_X11.2⟩
theorem mo_X11_lodged : g_MO μX11_lodged := ⟨(g_in (g_m9 (List.mem_of_getElem? (i := 124) rfl)) rfl), (g_in (g_m1 (List.mem_of_getElem? (i := 12) rfl)) rfl), cl_X11.1, cl_X11.2⟩
theorem mo_X11_gather : g_MO μX11_gather := ⟨(g_in (g_m9 (List.mem_of_getElem? (i := 128) rfl)) rfl), (g_in (g_m1 (List.mem_of_getElem? (i := 12) rfl)) rfl), cl_X11.1, cl_X11.2⟩
theorem mo_X11_walk : g_MO μX11_walk := ⟨(g_in (g_m9 (List.mem_of_getElem? (i := 132) rfl)) rfl), (g_in (g_m1 (List.mem_of_getElem? (i := 12) rfl)) rfl), cl_X11.1, cl_X11.2⟩
theorem mo_X11_loop : g_MO μX11_loop := ⟨(g_in (g_m9 (List.mem_of_getElem? (i := 136) rfl)) rfl), (g_in (g_m1 (List.mem_of_getElem? (i := 12) rfl)) rfl), cl_X11.1, cl_X11.2⟩
theorem mo_X11_longest : g_MO μX11_longest := ⟨(g_in (g_m9 (List.mem_of_getElem? (i := 140) rfl)) rfl), (g_in (g_m1 (List.mem_of_getElem? (i := 12) rfl)) rfl), cl_X11.1, cl_X11.2⟩
theorem mo_X11_doesLead : g_MO μX11_doesLead := ⟨(g_in (g_m9 (List.mem_of_getElem? (i := 144) rfl)) rfl), (g_in (g_m1 (List.mem_of_getElem? (i := 12) rfl)) rfl), cl_X11.1, cl_X11.2⟩
theorem mo_X11_balance : g_MO μX11_balance := ⟨(g_in (g_m9 (List.mem_of_getElem? (i := 148) rfl)) rfl), (g_in (g_m1 (List.mem_of_getElem? (i := 12) rfl)) rfl), cl_X11.1, cl_X11.2⟩
theorem mo_X11_tour : g_MO μX11_tour := ⟨(g_in (g_m9 (List.mem_of_getElem? (i := 152) rfl)) rfl), (g_in (g_m1 (List.mem_of_getElem? (i := 12) rfl)) rfl), cl_X11.1, cl_X11.2⟩
theorem mo_X11_laysTour : g_MO μX11_laysTour := ⟨(g_in (g_m9 (List.mem_of_getElem? (i := 156) rfl)) rfl), (g_in (g_m1 (List.mem_of_getElem? (i := 12) rfl)) rfl), cl_X11.1, cl_X11.2⟩
theorem mo_X11_onBy : g_MO μX11_onBy := ⟨(g_in (g_m9 (List.mem_of_getElem? (i := 160) rfl)) rfl), (g_in (g_m1 (List.mem_of_getElem? (i := 12) rfl)) rfl), cl_X11.1, cl_X11.2⟩
theorem mo_X11_circuit : g_MO μX11_circuit := ⟨(g_in (g_m9 (List.mem_of_getElem? (i := 164) rfl)) rfl), (g_in (g_m1 (List.mem_of_getElem? (i := 12) rfl)) rfl), cl_X11.1, cl_X11.2⟩
theorem mo_X11_see : g_MO μX11_see := ⟨(g_in (g_m9 (List.mem_of_getElem? (i := 168) rfl)) rfl), (g_in (g_m1 (List.mem_of_getElem? (i := 12) rfl)) rfl), cl_X11.1, cl_X11.2⟩
theorem mo_X11_forget : g_MO μX11_forget := ⟨(g_in (g_m9 (List.mem_of_getElem? (i := 172) rfl)) rfl), (g_in (g_m1 (List.mem_of_getElem? (i := 12) rfl)) rfl), cl_X11.1, cl_X11.2⟩
theorem mo_X11_turned : g_MO μX11_turned := ⟨(g_in (g_m9 (List.mem_of_getElem? (i := 176) rfl)) rfl), (g_in (g_m1 (List.mem_of_getElem? (i := 12) rfl)) rfl), cl_X11.1, cl_X11.2⟩
theorem mo_X11_isSeen : g_MO μX11_isSeen := ⟨(g_in (g_m9 (List.mem_of_getElem? (i := 180) rfl)) rfl), (g_in (g_m1 (List.mem_of_getElem? (i := 12) rfl)) rfl), cl_X11.1, cl_X11.2⟩
theorem mo_X11_isGuess : g_MO μX11_isGuess := ⟨(g_in (g_m9 (List.mem_of_getElem? (i := 184) rfl)) rfl), (g_in (g_m1 (List.mem_of_getElem? (i := 12) rfl)) rfl), cl_X11.1, cl_X11.2⟩
theorem mo_X11_look : g_MO μX11_look := ⟨(g_in (g_m9 (List.mem_of_getElem? (i := 188) rfl)) rfl), (g_in (g_m1 (List.mem_of_getElem? (i := 12) rfl)) rfl), cl_X11.1, cl_X11.2⟩
theorem mo_X11_wind : g_MO μX11_wind := ⟨(g_in (g_m9 (List.mem_of_getElem? (i := 192) rfl)) rfl), (g_in (g_m1 (List.mem_of_getElem? (i := 12) rfl)) rfl), cl_X11.1, cl_X11.2⟩
theorem mo_X11_game : g_MO μX11_game := ⟨(g_in (g_m9 (List.mem_of_getElem? (i := 196) rfl)) rfl), (g_in (g_m1 (List.mem_of_getElem? (i := 12) rfl)) rfl), cl_X11.1, cl_X11.2⟩
theorem mo_X11_gains : g_MO μX11_gains := ⟨(g_in (g_m9 (List.mem_of_getElem? (i := 200) rfl)) rfl), (g_in (g_m1 (List.mem_of_getElem? (i := 12) rfl)) rfl), cl_X11.1, cl_X11.2⟩
theorem mo_X11_turnsOn : g_MO μX11_turnsOn := ⟨(g_in (g_m9 (List.mem_of_getElem? (i := 204) rfl)) rfl), (g_in (g_m1 (List.mem_of_getElem? (i := 12) rfl)) rfl), cl_X11.1, cl_X11.2⟩
theorem mo_X11_years : g_MO μX11_years := ⟨(g_in (g_m9 (List.mem_of_getElem? (i := 208) rfl)) rfl), (g_in (g_m1 (List.mem_of_getElem? (i := 12) rfl)) rfl), cl_X11.1, cl_X11.2⟩
theorem mo_X11_happens : g_MO μX11_happens := ⟨(g_in (g_m9 (List.mem_of_getElem? (i := 212) rfl)) rfl), (g_in (g_m1 (List.mem_of_getElem? (i := 12) rfl)) rfl), cl_X11.1, cl_X11.2⟩
theorem mo_X11_draw : g_MO μX11_draw := ⟨(g_in (g_m9 (List.mem_of_getElem? (i := 216) rfl)) rfl), (g_in (g_m1 (List.mem_of_getElem? (i := 12) rfl)) rfl), cl_X11.1, cl_X11.2⟩
theorem mo_X11_image : g_MO μX11_image := ⟨(g_in (g_m9 (List.mem_of_getElem? (i := 221) rfl)) rfl), (g_in (g_m1 (List.mem_of_getElem? (i := 12) rfl)) rfl), cl_X11.1, cl_X11.2⟩
theorem mo_X11_restore : g_MO μX11_restore := ⟨(g_in (g_m9 (List.mem_of_getElem? (i := 225) rfl)) rfl), (g_in (g_m1 (List.mem_of_getElem? (i := 12) rfl)) rfl), cl_X11.1, cl_X11.2⟩
theorem np_X10_init : g_NP μX10_init 0 := by decide +kernel
theorem np_X6_init : g_NP μX6_init 0 := by decide +kernel
theorem np_X4_init : g_NP μX4_init 0 := by decide +kernel
theorem np_X2_init : g_NP μX2_init 0 := by decide +kernel
theorem np_X3_init : g_NP μX3_init 2 := by decide +kernel
theorem np_X7_init : g_NP μX7_init 1 := by decide +kernel
theorem np_X0_init : g_NP μX0_init 0 := by decide +kernel
theorem np_X5_init : g_NP μX5_init 0 := by decide +kernel
theorem np_X8_init : g_NP μX8_init 1 := by decide +kernel
theorem np_X9_init : g_NP μX9_init 1 := by decide +kernel
theorem np_X1_init : g_NP μX1_init 0 := by decide +kernel
theorem np_X10_feed : g_NP μX10_feed 5 := by decide +kernel
theorem np_X10_feedFour : g_NP μX10_feedFour 1 := by decide +kernel
theorem np_X10_fault : g_NP μX10_fault 0 := by decide +kernel
theorem np_X10_days : g_NP μX10_days 1 := by decide +kernel
theorem np_X10_refuse : g_NP μX10_refuse 1 := by decide +kernel
theorem np_X0_keep : g_NP μX0_keep 1 := by decide +kernel
theorem np_X2_write : g_NP μX2_write 2 := by decide +kernel
theorem np_X10_setOut : g_NP μX10_setOut 0 := by decide +kernel
theorem np_X8_begin : g_NP μX8_begin 2 := by decide +kernel
theorem np_X2_copy : g_NP μX2_copy 1 := by decide +kernel
theorem np_J7_fill_53178 : g_NP μJ7_fill_53178 2 := by decide +kernel
theorem np_X8_go : g_NP μX8_go 1 := by decide +kernel
theorem np_X8_goDay : g_NP μX8_goDay 1 := by decide +kernel
theorem np_X8_isHome : g_NP μX8_isHome 1 := by decide +kernel
theorem np_X8_takeTurn : g_NP μX8_takeTurn 2 := by decide +kernel
theorem np_X4_isTold : g_NP μX4_isTold 0 := by decide +kernel
theorem np_X8_findValues : g_NP μX8_findValues 2 := by decide +kernel
theorem np_X6_peopleAt : g_NP μX6_peopleAt 2 := by decide +kernel
theorem np_J6_bitCount_0f7a4 : g_NP μJ6_bitCount_0f7a4 1 := by decide +kernel
theorem np_X4_value : g_NP μX4_value 1 := by decide +kernel
theorem np_X4_join : g_NP μX4_join 3 := by decide +kernel
theorem np_J9_min_7cf53 : g_NP μJ9_min_7cf53 2 := by decide +kernel
theorem np_J9_max_7cf53 : g_NP μJ9_max_7cf53 2 := by decide +kernel
theorem np_X8_follow : g_NP μX8_follow 2 := by decide +kernel
theorem np_X6_leads : g_NP μX6_leads 2 := by decide +kernel
theorem np_X6_roadIndex : g_NP μX6_roadIndex 2 := by decide +kernel
theorem np_X2_isShut : g_NP μX2_isShut 2 := by decide +kernel
theorem np_X8_turnOn : g_NP μX8_turnOn 2 := by decide +kernel
theorem np_X10_undo : g_NP μX10_undo 0 := by decide +kernel
theorem np_X0_takeBack : g_NP μX0_takeBack 1 := by decide +kernel
theorem np_X2_readBack : g_NP μX2_readBack 2 := by decide +kernel
theorem np_X10_image : g_NP μX10_image 0 := by decide +kernel
theorem np_X0_copy : g_NP μX0_copy 1 := by decide +kernel
theorem np_X5_copy : g_NP μX5_copy 1 := by decide +kernel
theorem np_X10_restore : g_NP μX10_restore 0 := by decide +kernel
theorem np_X10_round : g_NP μX10_round 0 := by decide +kernel
theorem np_X2_standsLike : g_NP μX2_standsLike 1 := by decide +kernel
theorem np_X10_first : g_NP μX10_first 0 := by decide +kernel
theorem np_X6_atHome : g_NP μX6_atHome 1 := by decide +kernel
theorem np_X10_forget : g_NP μX10_forget 0 := by decide +kernel
theorem np_X5_clear : g_NP μX5_clear 0 := by decide +kernel
theorem np_X10_circuit : g_NP μX10_circuit 0 := by decide +kernel
theorem np_X10_surveyed : g_NP μX10_surveyed 0 := by decide +kernel
theorem np_X9_survey : g_NP μX9_survey 2 := by decide +kernel
theorem np_X9_layRoads : g_NP μX9_layRoads 1 := by decide +kernel
theorem np_X9_pair : g_NP μX9_pair 2 := by decide +kernel
theorem np_X9_layRoad : g_NP μX9_layRoad 2 := by decide +kernel
theorem np_X9_joinWays : g_NP μX9_joinWays 1 := by decide +kernel
theorem np_X9_farFrom : g_NP μX9_farFrom 2 := by decide +kernel
theorem np_X9_costFrom : g_NP μX9_costFrom 2 := by decide +kernel
theorem np_X9_balance : g_NP μX9_balance 1 := by decide +kernel
theorem np_X9_partOf : g_NP μX9_partOf 1 := by decide +kernel
theorem np_L_shire : g_NP μL_shire 3 := by decide +kernel
theorem np_X10_shire : g_NP μX10_shire 1 := by decide +kernel
theorem np_X3_read : g_NP μX3_read 2 := by decide +kernel
theorem np_X6_clear : g_NP μX6_clear 0 := by decide +kernel
theorem np_X2_clear : g_NP μX2_clear 0 := by decide +kernel
theorem np_X7_open : g_NP μX7_open 1 := by decide +kernel
theorem np_X7_advance : g_NP μX7_advance 0 := by decide +kernel
theorem np_X7_kindOf : g_NP μX7_kindOf 1 := by decide +kernel
theorem np_J0_indexOf_0f7a4 : g_NP μJ0_indexOf_0f7a4 1 := by decide +kernel
theorem np_J0_indexOf_7cf53 : g_NP μJ0_indexOf_7cf53 2 := by decide +kernel
theorem np_J0_isLatin1_aae02 : g_NP μJ0_isLatin1_aae02 0 := by decide +kernel
theorem np_J0_length_8abf5 : g_NP μJ0_length_8abf5 0 := by decide +kernel
theorem np_J0_coder_7d493 : g_NP μJ0_coder_7d493 0 := by decide +kernel
theorem np_J1_indexOf_4cfef : g_NP μJ1_indexOf_4cfef 4 := by decide +kernel
theorem np_J1_canEncode_9a6ad : g_NP μJ1_canEncode_9a6ad 1 := by decide +kernel
theorem np_J1_indexOfChar_4cfef : g_NP μJ1_indexOfChar_4cfef 4 := by decide +kernel
theorem np_J2_indexOf_4cfef : g_NP μJ2_indexOf_4cfef 4 := by decide +kernel
theorem np_J2_indexOfChar_4cfef : g_NP μJ2_indexOfChar_4cfef 4 := by decide +kernel
theorem np_J2_checkBoundsBeginEnd_d044e : g_NP μJ2_checkBoundsBeginEnd_d044e 3 := by decide +kernel
theorem np_J2_length_9d52b : g_NP μJ2_length_9d52b 1 := by decide +kernel
theorem np_J0_checkBoundsBeginEnd_23922 : g_NP μJ0_checkBoundsBeginEnd_23922 3 := by decide +kernel
theorem np_J3_checkFromToIndex_8c36e : g_NP μJ3_checkFromToIndex_8c36e 4 := by decide +kernel
theorem np_J2_indexOfCharUnsafe_4cfef : g_NP μJ2_indexOfCharUnsafe_4cfef 4 := by decide +kernel
theorem np_J2_getChar_3b067 : g_NP μJ2_getChar_3b067 2 := by decide +kernel
theorem np_J2_indexOfSupplementary_4cfef : g_NP μJ2_indexOfSupplementary_4cfef 4 := by decide +kernel
theorem np_J11_isValidCodePoint_9a6ad : g_NP μJ11_isValidCodePoint_9a6ad 1 := by decide +kernel
theorem np_J11_highSurrogate_5068e : g_NP μJ11_highSurrogate_5068e 1 := by decide +kernel
theorem np_J11_lowSurrogate_5068e : g_NP μJ11_lowSurrogate_5068e 1 := by decide +kernel
theorem np_X3_readLine : g_NP μX3_readLine 0 := by decide +kernel
theorem np_X7_isWord : g_NP μX7_isWord 1 := by decide +kernel
theorem np_J0_charAt_5068e : g_NP μJ0_charAt_5068e 1 := by decide +kernel
theorem np_J1_charAt_3b067 : g_NP μJ1_charAt_3b067 2 := by decide +kernel
theorem np_J0_checkIndex_df160 : g_NP μJ0_checkIndex_df160 2 := by decide +kernel
theorem np_J3_checkIndex_8e157 : g_NP μJ3_checkIndex_8e157 3 := by decide +kernel
theorem np_J2_charAt_3b067 : g_NP μJ2_charAt_3b067 2 := by decide +kernel
theorem np_J2_checkIndex_2214a : g_NP μJ2_checkIndex_2214a 2 := by decide +kernel
theorem np_X3_readCrossing : g_NP μX3_readCrossing 0 := by decide +kernel
theorem np_X3_fail : g_NP μX3_fail 1 := by decide +kernel
theorem np_X3_isNumberTo : g_NP μX3_isNumberTo 1 := by decide +kernel
theorem np_X3_isNumber : g_NP μX3_isNumber 0 := by decide +kernel
theorem np_X7_isTooLong : g_NP μX7_isTooLong 0 := by decide +kernel
theorem np_X3_take : g_NP μX3_take 0 := by decide +kernel
theorem np_X3_readRoad : g_NP μX3_readRoad 0 := by decide +kernel
theorem np_X3_isTold : g_NP μX3_isTold 1 := by decide +kernel
theorem np_X6_addRoad : g_NP μX6_addRoad 2 := by decide +kernel
theorem np_X3_readPerson : g_NP μX3_readPerson 0 := by decide +kernel
theorem np_X3_readArm : g_NP μX3_readArm 0 := by decide +kernel
theorem np_X3_readRule : g_NP μX3_readRule 1 := by decide +kernel
theorem np_X3_readExpr : g_NP μX3_readExpr 1 := by decide +kernel
theorem np_X3_canBegin : g_NP μX3_canBegin 0 := by decide +kernel
theorem np_X3_readAnd : g_NP μX3_readAnd 1 := by decide +kernel
theorem np_X3_readNot : g_NP μX3_readNot 1 := by decide +kernel
theorem np_X3_readTest : g_NP μX3_readTest 1 := by decide +kernel
theorem np_X3_readSum : g_NP μX3_readSum 1 := by decide +kernel
theorem np_X3_readProduct : g_NP μX3_readProduct 1 := by decide +kernel
theorem np_X3_readPart : g_NP μX3_readPart 1 := by decide +kernel
theorem np_X3_readSign : g_NP μX3_readSign 1 := by decide +kernel
theorem np_X3_readValue : g_NP μX3_readValue 0 := by decide +kernel
theorem np_X4_addValue : g_NP μX4_addValue 1 := by decide +kernel
theorem np_X4_add : g_NP μX4_add 1 := by decide +kernel
theorem np_X0_clear : g_NP μX0_clear 0 := by decide +kernel
theorem np_L_count : g_NP μL_count 3 := by decide +kernel
theorem np_X10_count : g_NP μX10_count 1 := by decide +kernel
theorem np_X10_needWhat : g_NP μX10_needWhat 2 := by decide +kernel
theorem np_X6_allRoads : g_NP μX6_allRoads 0 := by decide +kernel
theorem np_X10_shutRoads : g_NP μX10_shutRoads 0 := by decide +kernel
theorem np_X9_parts : g_NP μX9_parts 0 := by decide +kernel
theorem np_X9_watch : g_NP μX9_watch 0 := by decide +kernel
theorem np_X9_watchesAll : g_NP μX9_watchesAll 1 := by decide +kernel
theorem np_X6_purses : g_NP μX6_purses 1 := by decide +kernel
theorem np_L_crossing : g_NP μL_crossing 4 := by decide +kernel
theorem np_X10_crossing : g_NP μX10_crossing 2 := by decide +kernel
theorem np_X10_needCrossing : g_NP μX10_needCrossing 1 := by decide +kernel
theorem np_L_road : g_NP μL_road 5 := by decide +kernel
theorem np_X10_road : g_NP μX10_road 3 := by decide +kernel
theorem np_X10_needRoad : g_NP μX10_needRoad 2 := by decide +kernel
theorem np_L_person : g_NP μL_person 4 := by decide +kernel
theorem np_X10_person : g_NP μX10_person 2 := by decide +kernel
theorem np_X10_needPerson : g_NP μX10_needPerson 1 := by decide +kernel
theorem np_X10_bedOf : g_NP μX10_bedOf 1 := by decide +kernel
theorem np_X9_lodge : g_NP μX9_lodge 0 := by decide +kernel
theorem np_X9_allBeds : g_NP μX9_allBeds 0 := by decide +kernel
theorem np_X9_lodging : g_NP μX9_lodging 2 := by decide +kernel
theorem np_X9_bestBed : g_NP μX9_bestBed 2 := by decide +kernel
theorem np_X9_worth : g_NP μX9_worth 3 := by decide +kernel
theorem np_X9_canSleep : g_NP μX9_canSleep 3 := by decide +kernel
theorem np_X9_takeBeds : g_NP μX9_takeBeds 0 := by decide +kernel
theorem np_X6_others : g_NP μX6_others 2 := by decide +kernel
theorem np_L_turn : g_NP μL_turn 4 := by decide +kernel
theorem np_X10_turn : g_NP μX10_turn 2 := by decide +kernel
theorem np_L_shut : g_NP μL_shut 5 := by decide +kernel
theorem np_X10_shut : g_NP μX10_shut 3 := by decide +kernel
theorem np_L_fill : g_NP μL_fill 4 := by decide +kernel
theorem np_X10_fill : g_NP μX10_fill 2 := by decide +kernel
theorem np_L_set : g_NP μL_set 4 := by decide +kernel
theorem np_X10_set : g_NP μX10_set 2 := by decide +kernel
theorem np_L_then : g_NP μL_then 5 := by decide +kernel
theorem np_X10_then : g_NP μX10_then 3 := by decide +kernel
theorem np_X10_needDays : g_NP μX10_needDays 3 := by decide +kernel
theorem np_L_points : g_NP μL_points 4 := by decide +kernel
theorem np_X10_points : g_NP μX10_points 2 := by decide +kernel
theorem np_L_comes : g_NP μL_comes 4 := by decide +kernel
theorem np_X10_comes : g_NP μX10_comes 2 := by decide +kernel
theorem np_L_meet : g_NP μL_meet 4 := by decide +kernel
theorem np_X10_meet : g_NP μX10_meet 2 := by decide +kernel
theorem np_X8_areTogether : g_NP μX8_areTogether 2 := by decide +kernel
theorem np_L_gone : g_NP μL_gone 5 := by decide +kernel
theorem np_X10_gone : g_NP μX10_gone 3 := by decide +kernel
theorem np_L_later : g_NP μL_later 4 := by decide +kernel
theorem np_X10_later : g_NP μX10_later 2 := by decide +kernel
theorem np_X10_homeAfter : g_NP μX10_homeAfter 1 := by decide +kernel
theorem np_X10_poorest : g_NP μX10_poorest 1 := by decide +kernel
theorem np_X10_busiest : g_NP μX10_busiest 1 := by decide +kernel
theorem np_X10_stuck : g_NP μX10_stuck 1 := by decide +kernel
theorem np_L_way : g_NP μL_way 5 := by decide +kernel
theorem np_X10_way : g_NP μX10_way 3 := by decide +kernel
theorem np_X10_orNone : g_NP μX10_orNone 1 := by decide +kernel
theorem np_L_best : g_NP μL_best 3 := by decide +kernel
theorem np_X10_best : g_NP μX10_best 1 := by decide +kernel
theorem np_X8_daysToHome : g_NP μX8_daysToHome 2 := by decide +kernel
theorem np_X10_daysByTurn : g_NP μX10_daysByTurn 4 := by decide +kernel
theorem np_L_lodged : g_NP μL_lodged 3 := by decide +kernel
theorem np_X10_lodged : g_NP μX10_lodged 1 := by decide +kernel
theorem np_L_see : g_NP μL_see 5 := by decide +kernel
theorem np_X10_see : g_NP μX10_see 3 := by decide +kernel
theorem np_X5_add : g_NP μX5_add 3 := by decide +kernel
theorem np_L_turned : g_NP μL_turned 3 := by decide +kernel
theorem np_X10_turned : g_NP μX10_turned 1 := by decide +kernel
theorem np_X5_isSo : g_NP μX5_isSo 1 := by decide +kernel
theorem np_X5_lastDay : g_NP μX5_lastDay 0 := by decide +kernel
theorem np_X5_isSoOn : g_NP μX5_isSoOn 2 := by decide +kernel
theorem np_X10_couldBeTurned : g_NP μX10_couldBeTurned 2 := by decide +kernel
theorem np_L_look : g_NP μL_look 3 := by decide +kernel
theorem np_X10_look : g_NP μX10_look 1 := by decide +kernel
theorem np_X10_addPlaces : g_NP μX10_addPlaces 2 := by decide +kernel
theorem np_L_wind : g_NP μL_wind 5 := by decide +kernel
theorem np_X10_wind : g_NP μX10_wind 3 := by decide +kernel
theorem np_X10_isHomeByWind : g_NP μX10_isHomeByWind 3 := by decide +kernel
theorem np_L_game : g_NP μL_game 5 := by decide +kernel
theorem np_X10_game : g_NP μX10_game 3 := by decide +kernel
theorem np_X10_play : g_NP μX10_play 3 := by decide +kernel
theorem np_X10_rests : g_NP μX10_rests 1 := by decide +kernel
theorem np_L_years : g_NP μL_years 5 := by decide +kernel
theorem np_X10_years : g_NP μX10_years 3 := by decide +kernel
theorem np_X10_drawAhead : g_NP μX10_drawAhead 0 := by decide +kernel
theorem np_X1_next : g_NP μX1_next 1 := by decide +kernel
theorem np_X8_allSteps : g_NP μX8_allSteps 0 := by decide +kernel
theorem np_L_visited : g_NP μL_visited 4 := by decide +kernel
theorem np_X10_visited : g_NP μX10_visited 2 := by decide +kernel
theorem np_L_uneven : g_NP μL_uneven 4 := by decide +kernel
theorem np_X10_uneven : g_NP μX10_uneven 2 := by decide +kernel
theorem np_L_together : g_NP μL_together 5 := by decide +kernel
theorem np_X10_together : g_NP μX10_together 3 := by decide +kernel
theorem np_L_taken : g_NP μL_taken 4 := by decide +kernel
theorem np_X10_taken : g_NP μX10_taken 2 := by decide +kernel
theorem np_L_covered : g_NP μL_covered 3 := by decide +kernel
theorem np_X10_covered : g_NP μX10_covered 1 := by decide +kernel
theorem np_L_parting : g_NP μL_parting 4 := by decide +kernel
theorem np_X10_parting : g_NP μX10_parting 2 := by decide +kernel
theorem np_L_purse : g_NP μL_purse 3 := by decide +kernel
theorem np_X10_purse : g_NP μX10_purse 1 := by decide +kernel
theorem np_L_cuts : g_NP μL_cuts 4 := by decide +kernel
theorem np_X10_cuts : g_NP μX10_cuts 2 := by decide +kernel
theorem np_X10_isCut : g_NP μX10_isCut 3 := by decide +kernel
theorem np_L_gather : g_NP μL_gather 3 := by decide +kernel
theorem np_X10_gather : g_NP μX10_gather 1 := by decide +kernel
theorem np_X9_comers : g_NP μX9_comers 1 := by decide +kernel
theorem np_X9_comersCost : g_NP μX9_comersCost 1 := by decide +kernel
theorem np_L_walk : g_NP μL_walk 4 := by decide +kernel
theorem np_X10_walk : g_NP μX10_walk 2 := by decide +kernel
theorem np_X9_loop : g_NP μX9_loop 1 := by decide +kernel
theorem np_X9_longest : g_NP μX9_longest 1 := by decide +kernel
theorem np_X9_walkOn : g_NP μX9_walkOn 1 := by decide +kernel
theorem np_L_tour : g_NP μL_tour 3 := by decide +kernel
theorem np_X10_tour : g_NP μX10_tour 1 := by decide +kernel
theorem np_X9_planTour : g_NP μX9_planTour 0 := by decide +kernel
theorem np_X9_stage : g_NP μX9_stage 2 := by decide +kernel
theorem np_X9_nextStop : g_NP μX9_nextStop 2 := by decide +kernel
theorem np_X9_costOn : g_NP μX9_costOn 3 := by decide +kernel
theorem np_X9_tourStop : g_NP μX9_tourStop 1 := by decide +kernel
theorem np_X11_init : g_NP μX11_init 0 := by decide +kernel
theorem np_X11_thrown : g_NP μX11_thrown 0 := by decide +kernel
theorem np_X11_feed : g_NP μX11_feed 5 := by decide +kernel
theorem np_X11_lays : g_NP μX11_lays 1 := by decide +kernel
theorem np_X11_shire : g_NP μX11_shire 1 := by decide +kernel
theorem np_X11_right : g_NP μX11_right 2 := by decide +kernel
theorem np_X11_goes : g_NP μX11_goes 0 := by decide +kernel
theorem np_X11_byteAt : g_NP μX11_byteAt 1 := by decide +kernel
theorem np_X11_isLetter : g_NP μX11_isLetter 1 := by decide +kernel
theorem np_X11_isDigit : g_NP μX11_isDigit 1 := by decide +kernel
theorem np_X11_isGood : g_NP μX11_isGood 0 := by decide +kernel
theorem np_X11_line : g_NP μX11_line 0 := by decide +kernel
theorem np_X11_knownWord : g_NP μX11_knownWord 0 := by decide +kernel
theorem np_X11_letters : g_NP μX11_letters 1 := by decide +kernel
theorem np_X11_spelled : g_NP μX11_spelled 8 := by decide +kernel
theorem np_X11_begins : g_NP μX11_begins 2 := by decide +kernel
theorem np_X11_wrong : g_NP μX11_wrong 1 := by decide +kernel
theorem np_X11_readsCrossing : g_NP μX11_readsCrossing 0 := by decide +kernel
theorem np_X11_number : g_NP μX11_number 2 := by decide +kernel
theorem np_X11_readsRoad : g_NP μX11_readsRoad 0 := by decide +kernel
theorem np_X11_isOneOf : g_NP μX11_isOneOf 1 := by decide +kernel
theorem np_X11_readsPerson : g_NP μX11_readsPerson 0 := by decide +kernel
theorem np_X11_readsArm : g_NP μX11_readsArm 0 := by decide +kernel
theorem np_X11_expression : g_NP μX11_expression 0 := by decide +kernel
theorem np_X11_deeper : g_NP μX11_deeper 0 := by decide +kernel
theorem np_X11_isSign : g_NP μX11_isSign 1 := by decide +kernel
theorem np_X11_operand : g_NP μX11_operand 1 := by decide +kernel
theorem np_X11_waitsFor : g_NP μX11_waitsFor 1 := by decide +kernel
theorem np_X11_part : g_NP μX11_part 0 := by decide +kernel
theorem np_X11_puts : g_NP μX11_puts 1 := by decide +kernel
theorem np_X11_drops : g_NP μX11_drops 1 := by decide +kernel
theorem np_X11_isOpen : g_NP μX11_isOpen 1 := by decide +kernel
theorem np_X11_strength : g_NP μX11_strength 1 := by decide +kernel
theorem np_X11_isOpened : g_NP μX11_isOpened 0 := by decide +kernel
theorem np_X11_closes : g_NP μX11_closes 0 := by decide +kernel
theorem np_X11_need : g_NP μX11_need 1 := by decide +kernel
theorem np_X11_copies : g_NP μX11_copies 2 := by decide +kernel
theorem np_X11_fault : g_NP μX11_fault 0 := by decide +kernel
theorem np_X11_undo : g_NP μX11_undo 0 := by decide +kernel
theorem np_X11_count : g_NP μX11_count 1 := by decide +kernel
theorem np_X11_within : g_NP μX11_within 3 := by decide +kernel
theorem np_X11_roadsAll : g_NP μX11_roadsAll 1 := by decide +kernel
theorem np_X11_isShut : g_NP μX11_isShut 3 := by decide +kernel
theorem np_X11_homeOnes : g_NP μX11_homeOnes 1 := by decide +kernel
theorem np_X11_isHome : g_NP μX11_isHome 2 := by decide +kernel
theorem np_X11_parts : g_NP μX11_parts 0 := by decide +kernel
theorem np_X11_laysWays : g_NP μX11_laysWays 0 := by decide +kernel
theorem np_X11_lesser : g_NP μX11_lesser 2 := by decide +kernel
theorem np_X11_partOf : g_NP μX11_partOf 1 := by decide +kernel
theorem np_X11_watched : g_NP μX11_watched 0 := by decide +kernel
theorem np_X11_bits : g_NP μX11_bits 1 := by decide +kernel
theorem np_X11_isWatched : g_NP μX11_isWatched 1 := by decide +kernel
theorem np_X11_purses : g_NP μX11_purses 1 := by decide +kernel
theorem np_X11_crossing : g_NP μX11_crossing 2 := by decide +kernel
theorem np_X11_isCrossing : g_NP μX11_isCrossing 1 := by decide +kernel
theorem np_X11_isWhat : g_NP μX11_isWhat 2 := by decide +kernel
theorem np_X11_standAt : g_NP μX11_standAt 2 := by decide +kernel
theorem np_X11_reachedFrom : g_NP μX11_reachedFrom 1 := by decide +kernel
theorem np_X11_road : g_NP μX11_road 3 := by decide +kernel
theorem np_X11_isRoad : g_NP μX11_isRoad 2 := by decide +kernel
theorem np_X11_person : g_NP μX11_person 2 := by decide +kernel
theorem np_X11_isPerson : g_NP μX11_isPerson 1 := by decide +kernel
theorem np_X11_bedOf : g_NP μX11_bedOf 1 := by decide +kernel
theorem np_X11_laysBeds : g_NP μX11_laysBeds 0 := by decide +kernel
theorem np_X11_canLie : g_NP μX11_canLie 3 := by decide +kernel
theorem np_X11_lies : g_NP μX11_lies 3 := by decide +kernel
theorem np_X11_days : g_NP μX11_days 1 := by decide +kernel
theorem np_X11_refuses : g_NP μX11_refuses 1 := by decide +kernel
theorem np_X11_keeps : g_NP μX11_keeps 0 := by decide +kernel
theorem np_X11_dayGoes : g_NP μX11_dayGoes 1 := by decide +kernel
theorem np_X11_personGoes : g_NP μX11_personGoes 2 := by decide +kernel
theorem np_X11_reckons : g_NP μX11_reckons 1 := by decide +kernel
theorem np_X11_works : g_NP μX11_works 3 := by decide +kernel
theorem np_X11_bounded : g_NP μX11_bounded 3 := by decide +kernel
theorem np_X11_turn : g_NP μX11_turn 2 := by decide +kernel
theorem np_X11_shut : g_NP μX11_shut 3 := by decide +kernel
theorem np_X11_fill : g_NP μX11_fill 2 := by decide +kernel
theorem np_X11_set : g_NP μX11_set 2 := by decide +kernel
theorem np_X11_then : g_NP μX11_then 3 := by decide +kernel
theorem np_X11_isSoon : g_NP μX11_isSoon 3 := by decide +kernel
theorem np_X11_goesTo : g_NP μX11_goesTo 1 := by decide +kernel
theorem np_X11_tries : g_NP μX11_tries 0 := by decide +kernel
theorem np_X11_daysGo : g_NP μX11_daysGo 1 := by decide +kernel
theorem np_X11_points : g_NP μX11_points 2 := by decide +kernel
theorem np_X11_comes : g_NP μX11_comes 2 := by decide +kernel
theorem np_X11_meet : g_NP μX11_meet 2 := by decide +kernel
theorem np_X11_areBoth : g_NP μX11_areBoth 2 := by decide +kernel
theorem np_X11_parting : g_NP μX11_parting 2 := by decide +kernel
theorem np_X11_together : g_NP μX11_together 3 := by decide +kernel
theorem np_X11_gone : g_NP μX11_gone 3 := by decide +kernel
theorem np_X11_taken : g_NP μX11_taken 2 := by decide +kernel
theorem np_X11_uneven : g_NP μX11_uneven 2 := by decide +kernel
theorem np_X11_visited : g_NP μX11_visited 2 := by decide +kernel
theorem np_X11_covered : g_NP μX11_covered 1 := by decide +kernel
theorem np_X11_later : g_NP μX11_later 2 := by decide +kernel
theorem np_X11_busiest : g_NP μX11_busiest 1 := by decide +kernel
theorem np_X11_stuck : g_NP μX11_stuck 1 := by decide +kernel
theorem np_X11_round : g_NP μX11_round 0 := by decide +kernel
theorem np_X11_isAsNow : g_NP μX11_isAsNow 0 := by decide +kernel
theorem np_X11_first : g_NP μX11_first 0 := by decide +kernel
theorem np_X11_best : g_NP μX11_best 1 := by decide +kernel
theorem np_X11_homeIn : g_NP μX11_homeIn 1 := by decide +kernel
theorem np_X11_purse : g_NP μX11_purse 1 := by decide +kernel
theorem np_X11_cuts : g_NP μX11_cuts 2 := by decide +kernel
theorem np_X11_way : g_NP μX11_way 3 := by decide +kernel
theorem np_X11_lodged : g_NP μX11_lodged 1 := by decide +kernel
theorem np_X11_gather : g_NP μX11_gather 1 := by decide +kernel
theorem np_X11_walk : g_NP μX11_walk 2 := by decide +kernel
theorem np_X11_loop : g_NP μX11_loop 1 := by decide +kernel
theorem np_X11_longest : g_NP μX11_longest 1 := by decide +kernel
theorem np_X11_doesLead : g_NP μX11_doesLead 2 := by decide +kernel
theorem np_X11_balance : g_NP μX11_balance 1 := by decide +kernel
theorem np_X11_tour : g_NP μX11_tour 1 := by decide +kernel
theorem np_X11_laysTour : g_NP μX11_laysTour 0 := by decide +kernel
theorem np_X11_onBy : g_NP μX11_onBy 3 := by decide +kernel
theorem np_X11_circuit : g_NP μX11_circuit 0 := by decide +kernel
theorem np_X11_see : g_NP μX11_see 3 := by decide +kernel
theorem np_X11_forget : g_NP μX11_forget 0 := by decide +kernel
theorem np_X11_turned : g_NP μX11_turned 1 := by decide +kernel
theorem np_X11_isSeen : g_NP μX11_isSeen 0 := by decide +kernel
theorem np_X11_isGuess : g_NP μX11_isGuess 1 := by decide +kernel
theorem np_X11_look : g_NP μX11_look 1 := by decide +kernel
theorem np_X11_wind : g_NP μX11_wind 3 := by decide +kernel
theorem np_X11_game : g_NP μX11_game 3 := by decide +kernel
theorem np_X11_gains : g_NP μX11_gains 4 := by decide +kernel
theorem np_X11_turnsOn : g_NP μX11_turnsOn 1 := by decide +kernel
theorem np_X11_years : g_NP μX11_years 3 := by decide +kernel
theorem np_X11_happens : g_NP μX11_happens 0 := by decide +kernel
theorem np_X11_draw : g_NP μX11_draw 1 := by decide +kernel
theorem np_X11_image : g_NP μX11_image 0 := by decide +kernel
theorem np_X11_restore : g_NP μX11_restore 0 := by decide +kernel
theorem mi_X10_init : g_MI μX10_init := ⟨(g_in (g_m1 (List.mem_of_getElem? (i := 30) rfl)) rfl), rfl⟩
theorem mi_X6_init : g_MI μX6_init := ⟨(g_in (g_m1 (List.mem_of_getElem? (i := 38) rfl)) rfl), rfl⟩
theorem mi_X4_init : g_MI μX4_init := ⟨(g_in (g_m1 (List.mem_of_getElem? (i := 44) rfl)) rfl), rfl⟩
theorem mi_X2_init : g_MI μX2_init := ⟨(g_in (g_m1 (List.mem_of_getElem? (i := 62) rfl)) rfl), rfl⟩
theorem mi_X3_init : g_MI μX3_init := ⟨(g_in (g_m1 (List.mem_of_getElem? (i := 158) rfl)) rfl), rfl⟩
theorem mi_X7_init : g_MI μX7_init := ⟨(g_in (g_m1 (List.mem_of_getElem? (i := 164) rfl)) rfl), rfl⟩
theorem mi_X0_init : g_MI μX0_init := ⟨(g_in (g_m1 (List.mem_of_getElem? (i := 214) rfl)) rfl), rfl⟩
theorem mi_X5_init : g_MI μX5_init := ⟨(g_in (g_m1 (List.mem_of_getElem? (i := 231) rfl)) rfl), rfl⟩
theorem mi_X8_init : g_MI μX8_init := ⟨(g_in (g_m2 (List.mem_of_getElem? (i := 11) rfl)) rfl), rfl⟩
theorem mi_X9_init : g_MI μX9_init := ⟨(g_in (g_m2 (List.mem_of_getElem? (i := 39) rfl)) rfl), rfl⟩
theorem mi_X1_init : g_MI μX1_init := ⟨(g_in (g_m2 (List.mem_of_getElem? (i := 84) rfl)) rfl), rfl⟩
theorem mv_X10_feed : g_MV μX10_feed := ⟨(g_in (g_m2 (List.mem_of_getElem? (i := 154) rfl)) rfl), (g_in (g_m2 (List.mem_of_getElem? (i := 155) rfl)) rfl)⟩
theorem mv_X10_feedFour : g_MV μX10_feedFour := ⟨(g_in (g_m2 (List.mem_of_getElem? (i := 159) rfl)) rfl), g_inP (q := (yX10_feedFour, 20)) (by decide +kernel)⟩
theorem mv_X10_fault : g_MV μX10_fault := ⟨(g_in (g_m2 (List.mem_of_getElem? (i := 162) rfl)) rfl), (g_in (g_m2 (List.mem_of_getElem? (i := 163) rfl)) rfl)⟩
theorem mv_X10_days : g_MV μX10_days := ⟨(g_in (g_m2 (List.mem_of_getElem? (i := 166) rfl)) rfl), (g_in (g_m2 (List.mem_of_getElem? (i := 167) rfl)) rfl)⟩
theorem mv_X10_refuse : g_MV μX10_refuse := ⟨(g_in (g_m2 (List.mem_of_getElem? (i := 171) rfl)) rfl), g_inP (q := (yX10_refuse, 20)) (by decide +kernel)⟩
theorem mv_X0_keep : g_MV μX0_keep := ⟨(g_in (g_m2 (List.mem_of_getElem? (i := 175) rfl)) rfl), g_inP (q := (yX0_keep, 3)) (by decide +kernel)⟩
theorem mv_X2_write : g_MV μX2_write := ⟨(g_in (g_m2 (List.mem_of_getElem? (i := 179) rfl)) rfl), g_inP (q := (yX2_write, 5)) (by decide +kernel)⟩
theorem mv_X10_setOut : g_MV μX10_setOut := ⟨(g_in (g_m2 (List.mem_of_getElem? (i := 186) rfl)) rfl), g_inP (q := (yX10_setOut, 20)) (by decide +kernel)⟩
theorem mv_X8_begin : g_MV μX8_begin := ⟨(g_in (g_m2 (List.mem_of_getElem? (i := 190) rfl)) rfl), g_inP (q := (yX8_begin, 5)) (by decide +kernel)⟩
theorem mv_X2_copy : g_MV μX2_copy := ⟨(g_in (g_m2 (List.mem_of_getElem? (i := 194) rfl)) rfl), g_inP (q := (yX2_copy, 5)) (by decide +kernel)⟩
theorem ms_J7_fill_53178 : g_MS μJ7_fill_53178 := (g_in (g_m2 (List.mem_of_getElem? (i := 197) rfl)) rfl)
theorem mv_X8_go : g_MV μX8_go := ⟨(g_in (g_m2 (List.mem_of_getElem? (i := 201) rfl)) rfl), g_inP (q := (yX8_go, 5)) (by decide +kernel)⟩
theorem mv_X8_goDay : g_MV μX8_goDay := ⟨(g_in (g_m2 (List.mem_of_getElem? (i := 205) rfl)) rfl), g_inP (q := (yX8_goDay, 5)) (by decide +kernel)⟩
theorem mv_X8_isHome : g_MV μX8_isHome := ⟨(g_in (g_m2 (List.mem_of_getElem? (i := 209) rfl)) rfl), g_inP (q := (yX8_isHome, 5)) (by decide +kernel)⟩
theorem mv_X8_takeTurn : g_MV μX8_takeTurn := ⟨(g_in (g_m2 (List.mem_of_getElem? (i := 213) rfl)) rfl), g_inP (q := (yX8_takeTurn, 5)) (by decide +kernel)⟩
theorem mv_X4_isTold : g_MV μX4_isTold := ⟨(g_in (g_m2 (List.mem_of_getElem? (i := 217) rfl)) rfl), g_inP (q := (yX4_isTold, 3)) (by decide +kernel)⟩
theorem mv_X8_findValues : g_MV μX8_findValues := ⟨(g_in (g_m2 (List.mem_of_getElem? (i := 221) rfl)) rfl), g_inP (q := (yX8_findValues, 5)) (by decide +kernel)⟩
theorem mv_X6_peopleAt : g_MV μX6_peopleAt := ⟨(g_in (g_m2 (List.mem_of_getElem? (i := 225) rfl)) rfl), g_inP (q := (yX6_peopleAt, 10)) (by decide +kernel)⟩
theorem ms_J6_bitCount_0f7a4 : g_MS μJ6_bitCount_0f7a4 := (g_in (g_m2 (List.mem_of_getElem? (i := 228) rfl)) rfl)
theorem mv_X4_value : g_MV μX4_value := ⟨(g_in (g_m2 (List.mem_of_getElem? (i := 235) rfl)) rfl), g_inP (q := (yX4_value, 3)) (by decide +kernel)⟩
theorem ms_X4_join : g_MS μX4_join := (g_in (g_m2 (List.mem_of_getElem? (i := 238) rfl)) rfl)
theorem ms_J9_min_7cf53 : g_MS μJ9_min_7cf53 := (g_in (g_m3 (List.mem_of_getElem? (i := 1) rfl)) rfl)
theorem ms_J9_max_7cf53 : g_MS μJ9_max_7cf53 := (g_in (g_m3 (List.mem_of_getElem? (i := 4) rfl)) rfl)
theorem mv_X8_follow : g_MV μX8_follow := ⟨(g_in (g_m3 (List.mem_of_getElem? (i := 8) rfl)) rfl), g_inP (q := (yX8_follow, 5)) (by decide +kernel)⟩
theorem mv_X6_leads : g_MV μX6_leads := ⟨(g_in (g_m3 (List.mem_of_getElem? (i := 12) rfl)) rfl), g_inP (q := (yX6_leads, 10)) (by decide +kernel)⟩
theorem ms_X6_roadIndex : g_MS μX6_roadIndex := (g_in (g_m3 (List.mem_of_getElem? (i := 15) rfl)) rfl)
theorem mv_X2_isShut : g_MV μX2_isShut := ⟨(g_in (g_m3 (List.mem_of_getElem? (i := 19) rfl)) rfl), g_inP (q := (yX2_isShut, 5)) (by decide +kernel)⟩
theorem mv_X8_turnOn : g_MV μX8_turnOn := ⟨(g_in (g_m3 (List.mem_of_getElem? (i := 24) rfl)) rfl), g_inP (q := (yX8_turnOn, 5)) (by decide +kernel)⟩
theorem mv_X10_undo : g_MV μX10_undo := ⟨(g_in (g_m3 (List.mem_of_getElem? (i := 28) rfl)) rfl), (g_in (g_m3 (List.mem_of_getElem? (i := 29) rfl)) rfl)⟩
theorem mv_X0_takeBack : g_MV μX0_takeBack := ⟨(g_in (g_m3 (List.mem_of_getElem? (i := 33) rfl)) rfl), g_inP (q := (yX0_takeBack, 3)) (by decide +kernel)⟩
theorem mv_X2_readBack : g_MV μX2_readBack := ⟨(g_in (g_m3 (List.mem_of_getElem? (i := 37) rfl)) rfl), g_inP (q := (yX2_readBack, 5)) (by decide +kernel)⟩
theorem mv_X10_image : g_MV μX10_image := ⟨(g_in (g_m3 (List.mem_of_getElem? (i := 40) rfl)) rfl), (g_in (g_m3 (List.mem_of_getElem? (i := 41) rfl)) rfl)⟩
theorem mv_X0_copy : g_MV μX0_copy := ⟨(g_in (g_m3 (List.mem_of_getElem? (i := 45) rfl)) rfl), g_inP (q := (yX0_copy, 3)) (by decide +kernel)⟩
theorem mv_X5_copy : g_MV μX5_copy := ⟨(g_in (g_m3 (List.mem_of_getElem? (i := 50) rfl)) rfl), g_inP (q := (yX5_copy, 4)) (by decide +kernel)⟩
theorem mv_X10_restore : g_MV μX10_restore := ⟨(g_in (g_m3 (List.mem_of_getElem? (i := 54) rfl)) rfl), (g_in (g_m3 (List.mem_of_getElem? (i := 55) rfl)) rfl)⟩
theorem mv_X10_round : g_MV μX10_round := ⟨(g_in (g_m3 (List.mem_of_getElem? (i := 58) rfl)) rfl), (g_in (g_m3 (List.mem_of_getElem? (i := 59) rfl)) rfl)⟩
theorem mv_X2_standsLike : g_MV μX2_standsLike := ⟨(g_in (g_m3 (List.mem_of_getElem? (i := 64) rfl)) rfl), g_inP (q := (yX2_standsLike, 5)) (by decide +kernel)⟩
theorem mv_X10_first : g_MV μX10_first := ⟨(g_in (g_m3 (List.mem_of_getElem? (i := 67) rfl)) rfl), (g_in (g_m3 (List.mem_of_getElem? (i := 68) rfl)) rfl)⟩
theorem mv_X6_atHome : g_MV μX6_atHome := ⟨(g_in (g_m3 (List.mem_of_getElem? (i := 72) rfl)) rfl), g_inP (q := (yX6_atHome, 10)) (by decide +kernel)⟩
theorem mv_X10_forget : g_MV μX10_forget := ⟨(g_in (g_m3 (List.mem_of_getElem? (i := 76) rfl)) rfl), (g_in (g_m3 (List.mem_of_getElem? (i := 77) rfl)) rfl)⟩
theorem mv_X5_clear : g_MV μX5_clear := ⟨(g_in (g_m3 (List.mem_of_getElem? (i := 81) rfl)) rfl), g_inP (q := (yX5_clear, 4)) (by decide +kernel)⟩
theorem mv_X10_circuit : g_MV μX10_circuit := ⟨(g_in (g_m3 (List.mem_of_getElem? (i := 84) rfl)) rfl), (g_in (g_m3 (List.mem_of_getElem? (i := 85) rfl)) rfl)⟩
theorem mv_X10_surveyed : g_MV μX10_surveyed := ⟨(g_in (g_m3 (List.mem_of_getElem? (i := 89) rfl)) rfl), g_inP (q := (yX10_surveyed, 20)) (by decide +kernel)⟩
theorem mv_X9_survey : g_MV μX9_survey := ⟨(g_in (g_m3 (List.mem_of_getElem? (i := 93) rfl)) rfl), g_inP (q := (yX9_survey, 11)) (by decide +kernel)⟩
theorem mv_X9_layRoads : g_MV μX9_layRoads := ⟨(g_in (g_m3 (List.mem_of_getElem? (i := 98) rfl)) rfl), g_inP (q := (yX9_layRoads, 11)) (by decide +kernel)⟩
theorem ms_X9_pair : g_MS μX9_pair := (g_in (g_m3 (List.mem_of_getElem? (i := 102) rfl)) rfl)
theorem mv_X9_layRoad : g_MV μX9_layRoad := ⟨(g_in (g_m3 (List.mem_of_getElem? (i := 108) rfl)) rfl), g_inP (q := (yX9_layRoad, 11)) (by decide +kernel)⟩
theorem mv_X9_joinWays : g_MV μX9_joinWays := ⟨(g_in (g_m3 (List.mem_of_getElem? (i := 112) rfl)) rfl), g_inP (q := (yX9_joinWays, 11)) (by decide +kernel)⟩
theorem mv_X9_farFrom : g_MV μX9_farFrom := ⟨(g_in (g_m3 (List.mem_of_getElem? (i := 116) rfl)) rfl), g_inP (q := (yX9_farFrom, 11)) (by decide +kernel)⟩
theorem mv_X9_costFrom : g_MV μX9_costFrom := ⟨(g_in (g_m3 (List.mem_of_getElem? (i := 121) rfl)) rfl), g_inP (q := (yX9_costFrom, 11)) (by decide +kernel)⟩
theorem mv_X9_balance : g_MV μX9_balance := ⟨(g_in (g_m3 (List.mem_of_getElem? (i := 125) rfl)) rfl), g_inP (q := (yX9_balance, 11)) (by decide +kernel)⟩
theorem mv_X9_partOf : g_MV μX9_partOf := ⟨(g_in (g_m3 (List.mem_of_getElem? (i := 129) rfl)) rfl), g_inP (q := (yX9_partOf, 11)) (by decide +kernel)⟩
theorem ms_L_shire : g_MS μL_shire := (g_in (g_m3 (List.mem_of_getElem? (i := 132) rfl)) rfl)
theorem mv_X10_shire : g_MV μX10_shire := ⟨(g_in (g_m3 (List.mem_of_getElem? (i := 136) rfl)) rfl), (g_in (g_m3 (List.mem_of_getElem? (i := 137) rfl)) rfl)⟩
theorem mv_X3_read : g_MV μX3_read := ⟨(g_in (g_m3 (List.mem_of_getElem? (i := 208) rfl)) rfl), g_inP (q := (yX3_read, 6)) (by decide +kernel)⟩
theorem mv_X6_clear : g_MV μX6_clear := ⟨(g_in (g_m3 (List.mem_of_getElem? (i := 212) rfl)) rfl), g_inP (q := (yX6_clear, 10)) (by decide +kernel)⟩
theorem mv_X2_clear : g_MV μX2_clear := ⟨(g_in (g_m3 (List.mem_of_getElem? (i := 217) rfl)) rfl), g_inP (q := (yX2_clear, 5)) (by decide +kernel)⟩
theorem mv_X7_open : g_MV μX7_open := ⟨(g_in (g_m3 (List.mem_of_getElem? (i := 222) rfl)) rfl), g_inP (q := (yX7_open, 6)) (by decide +kernel)⟩
theorem mv_X7_advance : g_MV μX7_advance := ⟨(g_in (g_m3 (List.mem_of_getElem? (i := 227) rfl)) rfl), g_inP (q := (yX7_advance, 6)) (by decide +kernel)⟩
theorem ms_X7_kindOf : g_MS μX7_kindOf := (g_in (g_m3 (List.mem_of_getElem? (i := 230) rfl)) rfl)
theorem mv_J0_indexOf_0f7a4 : g_MV μJ0_indexOf_0f7a4 := ⟨(g_in (g_m3 (List.mem_of_getElem? (i := 234) rfl)) rfl), (g_in (g_m3 (List.mem_of_getElem? (i := 235) rfl)) rfl)⟩
theorem mv_J0_indexOf_7cf53 : g_MV μJ0_indexOf_7cf53 := ⟨(g_in (g_m3 (List.mem_of_getElem? (i := 238) rfl)) rfl), (g_in (g_m3 (List.mem_of_getElem? (i := 239) rfl)) rfl)⟩
theorem mv_J0_isLatin1_aae02 : g_MV μJ0_isLatin1_aae02 := ⟨(g_in (g_m4 (List.mem_of_getElem? (i := 2) rfl)) rfl), (g_in (g_m4 (List.mem_of_getElem? (i := 3) rfl)) rfl)⟩
theorem mv_J0_length_8abf5 : g_MV μJ0_length_8abf5 := ⟨(g_in (g_m4 (List.mem_of_getElem? (i := 8) rfl)) rfl), (g_in (g_m4 (List.mem_of_getElem? (i := 9) rfl)) rfl)⟩
theorem mv_J0_coder_7d493 : g_MV μJ0_coder_7d493 := ⟨(g_in (g_m4 (List.mem_of_getElem? (i := 12) rfl)) rfl), (g_in (g_m4 (List.mem_of_getElem? (i := 13) rfl)) rfl)⟩
theorem ms_J1_indexOf_4cfef : g_MS μJ1_indexOf_4cfef := (g_in (g_m4 (List.mem_of_getElem? (i := 16) rfl)) rfl)
theorem ms_J1_canEncode_9a6ad : g_MS μJ1_canEncode_9a6ad := (g_in (g_m4 (List.mem_of_getElem? (i := 19) rfl)) rfl)
theorem ms_J1_indexOfChar_4cfef : g_MS μJ1_indexOfChar_4cfef := (g_in (g_m4 (List.mem_of_getElem? (i := 24) rfl)) rfl)
theorem ms_J2_indexOf_4cfef : g_MS μJ2_indexOf_4cfef := (g_in (g_m4 (List.mem_of_getElem? (i := 27) rfl)) rfl)
theorem ms_J2_indexOfChar_4cfef : g_MS μJ2_indexOfChar_4cfef := (g_in (g_m4 (List.mem_of_getElem? (i := 33) rfl)) rfl)
theorem ms_J2_checkBoundsBeginEnd_d044e : g_MS μJ2_checkBoundsBeginEnd_d044e := (g_in (g_m4 (List.mem_of_getElem? (i := 36) rfl)) rfl)
theorem ms_J2_length_9d52b : g_MS μJ2_length_9d52b := (g_in (g_m4 (List.mem_of_getElem? (i := 39) rfl)) rfl)
theorem ms_J0_checkBoundsBeginEnd_23922 : g_MS μJ0_checkBoundsBeginEnd_23922 := (g_in (g_m4 (List.mem_of_getElem? (i := 42) rfl)) rfl)
theorem ms_J3_checkFromToIndex_8c36e : g_MS μJ3_checkFromToIndex_8c36e := (g_in (g_m4 (List.mem_of_getElem? (i := 47) rfl)) rfl)
theorem ms_J2_indexOfCharUnsafe_4cfef : g_MS μJ2_indexOfCharUnsafe_4cfef := (g_in (g_m4 (List.mem_of_getElem? (i := 50) rfl)) rfl)
theorem ms_J2_getChar_3b067 : g_MS μJ2_getChar_3b067 := (g_in (g_m4 (List.mem_of_getElem? (i := 53) rfl)) rfl)
theorem ms_J2_indexOfSupplementary_4cfef : g_MS μJ2_indexOfSupplementary_4cfef := (g_in (g_m4 (List.mem_of_getElem? (i := 62) rfl)) rfl)
theorem ms_J11_isValidCodePoint_9a6ad : g_MS μJ11_isValidCodePoint_9a6ad := (g_in (g_m4 (List.mem_of_getElem? (i := 65) rfl)) rfl)
theorem ms_J11_highSurrogate_5068e : g_MS μJ11_highSurrogate_5068e := (g_in (g_m4 (List.mem_of_getElem? (i := 68) rfl)) rfl)
theorem ms_J11_lowSurrogate_5068e : g_MS μJ11_lowSurrogate_5068e := (g_in (g_m4 (List.mem_of_getElem? (i := 72) rfl)) rfl)
theorem mv_X3_readLine : g_MV μX3_readLine := ⟨(g_in (g_m4 (List.mem_of_getElem? (i := 77) rfl)) rfl), g_inP (q := (yX3_readLine, 6)) (by decide +kernel)⟩
theorem mv_X7_isWord : g_MV μX7_isWord := ⟨(g_in (g_m4 (List.mem_of_getElem? (i := 82) rfl)) rfl), g_inP (q := (yX7_isWord, 6)) (by decide +kernel)⟩
theorem mv_J0_charAt_5068e : g_MV μJ0_charAt_5068e := ⟨(g_in (g_m4 (List.mem_of_getElem? (i := 86) rfl)) rfl), (g_in (g_m4 (List.mem_of_getElem? (i := 87) rfl)) rfl)⟩
theorem ms_J1_charAt_3b067 : g_MS μJ1_charAt_3b067 := (g_in (g_m4 (List.mem_of_getElem? (i := 90) rfl)) rfl)
theorem ms_J0_checkIndex_df160 : g_MS μJ0_checkIndex_df160 := (g_in (g_m4 (List.mem_of_getElem? (i := 93) rfl)) rfl)
theorem ms_J3_checkIndex_8e157 : g_MS μJ3_checkIndex_8e157 := (g_in (g_m4 (List.mem_of_getElem? (i := 96) rfl)) rfl)
theorem ms_J2_charAt_3b067 : g_MS μJ2_charAt_3b067 := (g_in (g_m4 (List.mem_of_getElem? (i := 99) rfl)) rfl)
theorem ms_J2_checkIndex_2214a : g_MS μJ2_checkIndex_2214a := (g_in (g_m4 (List.mem_of_getElem? (i := 102) rfl)) rfl)
theorem mv_X3_readCrossing : g_MV μX3_readCrossing := ⟨(g_in (g_m4 (List.mem_of_getElem? (i := 107) rfl)) rfl), g_inP (q := (yX3_readCrossing, 6)) (by decide +kernel)⟩
theorem mv_X3_fail : g_MV μX3_fail := ⟨(g_in (g_m4 (List.mem_of_getElem? (i := 111) rfl)) rfl), g_inP (q := (yX3_fail, 6)) (by decide +kernel)⟩
theorem mv_X3_isNumberTo : g_MV μX3_isNumberTo := ⟨(g_in (g_m4 (List.mem_of_getElem? (i := 116) rfl)) rfl), g_inP (q := (yX3_isNumberTo, 6)) (by decide +kernel)⟩
theorem mv_X3_isNumber : g_MV μX3_isNumber := ⟨(g_in (g_m4 (List.mem_of_getElem? (i := 120) rfl)) rfl), g_inP (q := (yX3_isNumber, 6)) (by decide +kernel)⟩
theorem mv_X7_isTooLong : g_MV μX7_isTooLong := ⟨(g_in (g_m4 (List.mem_of_getElem? (i := 124) rfl)) rfl), g_inP (q := (yX7_isTooLong, 6)) (by decide +kernel)⟩
theorem mv_X3_take : g_MV μX3_take := ⟨(g_in (g_m4 (List.mem_of_getElem? (i := 128) rfl)) rfl), g_inP (q := (yX3_take, 6)) (by decide +kernel)⟩
theorem mv_X3_readRoad : g_MV μX3_readRoad := ⟨(g_in (g_m4 (List.mem_of_getElem? (i := 133) rfl)) rfl), g_inP (q := (yX3_readRoad, 6)) (by decide +kernel)⟩
theorem mv_X3_isTold : g_MV μX3_isTold := ⟨(g_in (g_m4 (List.mem_of_getElem? (i := 137) rfl)) rfl), g_inP (q := (yX3_isTold, 6)) (by decide +kernel)⟩
theorem mv_X6_addRoad : g_MV μX6_addRoad := ⟨(g_in (g_m4 (List.mem_of_getElem? (i := 141) rfl)) rfl), g_inP (q := (yX6_addRoad, 10)) (by decide +kernel)⟩
theorem mv_X3_readPerson : g_MV μX3_readPerson := ⟨(g_in (g_m4 (List.mem_of_getElem? (i := 146) rfl)) rfl), g_inP (q := (yX3_readPerson, 6)) (by decide +kernel)⟩
theorem mv_X3_readArm : g_MV μX3_readArm := ⟨(g_in (g_m4 (List.mem_of_getElem? (i := 151) rfl)) rfl), g_inP (q := (yX3_readArm, 6)) (by decide +kernel)⟩
theorem mv_X3_readRule : g_MV μX3_readRule := ⟨(g_in (g_m4 (List.mem_of_getElem? (i := 156) rfl)) rfl), g_inP (q := (yX3_readRule, 6)) (by decide +kernel)⟩
theorem mv_X3_readExpr : g_MV μX3_readExpr := ⟨(g_in (g_m4 (List.mem_of_getElem? (i := 161) rfl)) rfl), g_inP (q := (yX3_readExpr, 6)) (by decide +kernel)⟩
theorem mv_X3_canBegin : g_MV μX3_canBegin := ⟨(g_in (g_m4 (List.mem_of_getElem? (i := 165) rfl)) rfl), g_inP (q := (yX3_canBegin, 6)) (by decide +kernel)⟩
theorem mv_X3_readAnd : g_MV μX3_readAnd := ⟨(g_in (g_m4 (List.mem_of_getElem? (i := 169) rfl)) rfl), g_inP (q := (yX3_readAnd, 6)) (by decide +kernel)⟩
theorem mv_X3_readNot : g_MV μX3_readNot := ⟨(g_in (g_m4 (List.mem_of_getElem? (i := 173) rfl)) rfl), g_inP (q := (yX3_readNot, 6)) (by decide +kernel)⟩
theorem mv_X3_readTest : g_MV μX3_readTest := ⟨(g_in (g_m4 (List.mem_of_getElem? (i := 178) rfl)) rfl), g_inP (q := (yX3_readTest, 6)) (by decide +kernel)⟩
theorem mv_X3_readSum : g_MV μX3_readSum := ⟨(g_in (g_m4 (List.mem_of_getElem? (i := 182) rfl)) rfl), g_inP (q := (yX3_readSum, 6)) (by decide +kernel)⟩
theorem mv_X3_readProduct : g_MV μX3_readProduct := ⟨(g_in (g_m4 (List.mem_of_getElem? (i := 186) rfl)) rfl), g_inP (q := (yX3_readProduct, 6)) (by decide +kernel)⟩
theorem mv_X3_readPart : g_MV μX3_readPart := ⟨(g_in (g_m4 (List.mem_of_getElem? (i := 190) rfl)) rfl), g_inP (q := (yX3_readPart, 6)) (by decide +kernel)⟩
theorem mv_X3_readSign : g_MV μX3_readSign := ⟨(g_in (g_m4 (List.mem_of_getElem? (i := 194) rfl)) rfl), g_inP (q := (yX3_readSign, 6)) (by decide +kernel)⟩
theorem mv_X3_readValue : g_MV μX3_readValue := ⟨(g_in (g_m4 (List.mem_of_getElem? (i := 198) rfl)) rfl), g_inP (q := (yX3_readValue, 6)) (by decide +kernel)⟩
theorem mv_X4_addValue : g_MV μX4_addValue := ⟨(g_in (g_m4 (List.mem_of_getElem? (i := 202) rfl)) rfl), g_inP (q := (yX4_addValue, 3)) (by decide +kernel)⟩
theorem mv_X4_add : g_MV μX4_add := ⟨(g_in (g_m4 (List.mem_of_getElem? (i := 206) rfl)) rfl), g_inP (q := (yX4_add, 3)) (by decide +kernel)⟩
theorem mv_X0_clear : g_MV μX0_clear := ⟨(g_in (g_m4 (List.mem_of_getElem? (i := 218) rfl)) rfl), g_inP (q := (yX0_clear, 3)) (by decide +kernel)⟩
theorem ms_L_count : g_MS μL_count := (g_in (g_m4 (List.mem_of_getElem? (i := 221) rfl)) rfl)
theorem mv_X10_count : g_MV μX10_count := ⟨(g_in (g_m4 (List.mem_of_getElem? (i := 225) rfl)) rfl), (g_in (g_m4 (List.mem_of_getElem? (i := 226) rfl)) rfl)⟩
theorem ms_X10_needWhat : g_MS μX10_needWhat := (g_in (g_m4 (List.mem_of_getElem? (i := 229) rfl)) rfl)
theorem mv_X6_allRoads : g_MV μX6_allRoads := ⟨(g_in (g_m5 (List.mem_of_getElem? (i := 9) rfl)) rfl), g_inP (q := (yX6_allRoads, 10)) (by decide +kernel)⟩
theorem mv_X10_shutRoads : g_MV μX10_shutRoads := ⟨(g_in (g_m5 (List.mem_of_getElem? (i := 13) rfl)) rfl), g_inP (q := (yX10_shutRoads, 20)) (by decide +kernel)⟩
theorem mv_X9_parts : g_MV μX9_parts := ⟨(g_in (g_m5 (List.mem_of_getElem? (i := 18) rfl)) rfl), g_inP (q := (yX9_parts, 11)) (by decide +kernel)⟩
theorem mv_X9_watch : g_MV μX9_watch := ⟨(g_in (g_m5 (List.mem_of_getElem? (i := 23) rfl)) rfl), g_inP (q := (yX9_watch, 11)) (by decide +kernel)⟩
theorem mv_X9_watchesAll : g_MV μX9_watchesAll := ⟨(g_in (g_m5 (List.mem_of_getElem? (i := 28) rfl)) rfl), g_inP (q := (yX9_watchesAll, 11)) (by decide +kernel)⟩
theorem mv_X6_purses : g_MV μX6_purses := ⟨(g_in (g_m5 (List.mem_of_getElem? (i := 32) rfl)) rfl), g_inP (q := (yX6_purses, 10)) (by decide +kernel)⟩
theorem ms_L_crossing : g_MS μL_crossing := (g_in (g_m5 (List.mem_of_getElem? (i := 35) rfl)) rfl)
theorem mv_X10_crossing : g_MV μX10_crossing := ⟨(g_in (g_m5 (List.mem_of_getElem? (i := 38) rfl)) rfl), (g_in (g_m5 (List.mem_of_getElem? (i := 39) rfl)) rfl)⟩
theorem mv_X10_needCrossing : g_MV μX10_needCrossing := ⟨(g_in (g_m5 (List.mem_of_getElem? (i := 43) rfl)) rfl), g_inP (q := (yX10_needCrossing, 20)) (by decide +kernel)⟩
theorem ms_L_road : g_MS μL_road := (g_in (g_m5 (List.mem_of_getElem? (i := 48) rfl)) rfl)
theorem mv_X10_road : g_MV μX10_road := ⟨(g_in (g_m5 (List.mem_of_getElem? (i := 51) rfl)) rfl), (g_in (g_m5 (List.mem_of_getElem? (i := 52) rfl)) rfl)⟩
theorem mv_X10_needRoad : g_MV μX10_needRoad := ⟨(g_in (g_m5 (List.mem_of_getElem? (i := 56) rfl)) rfl), g_inP (q := (yX10_needRoad, 20)) (by decide +kernel)⟩
theorem ms_L_person : g_MS μL_person := (g_in (g_m5 (List.mem_of_getElem? (i := 62) rfl)) rfl)
theorem mv_X10_person : g_MV μX10_person := ⟨(g_in (g_m5 (List.mem_of_getElem? (i := 65) rfl)) rfl), (g_in (g_m5 (List.mem_of_getElem? (i := 66) rfl)) rfl)⟩
theorem mv_X10_needPerson : g_MV μX10_needPerson := ⟨(g_in (g_m5 (List.mem_of_getElem? (i := 70) rfl)) rfl), g_inP (q := (yX10_needPerson, 20)) (by decide +kernel)⟩
theorem mv_X10_bedOf : g_MV μX10_bedOf := ⟨(g_in (g_m5 (List.mem_of_getElem? (i := 75) rfl)) rfl), g_inP (q := (yX10_bedOf, 20)) (by decide +kernel)⟩
theorem mv_X9_lodge : g_MV μX9_lodge := ⟨(g_in (g_m5 (List.mem_of_getElem? (i := 79) rfl)) rfl), g_inP (q := (yX9_lodge, 11)) (by decide +kernel)⟩
theorem mv_X9_allBeds : g_MV μX9_allBeds := ⟨(g_in (g_m5 (List.mem_of_getElem? (i := 83) rfl)) rfl), g_inP (q := (yX9_allBeds, 11)) (by decide +kernel)⟩
theorem ms_X9_lodging : g_MS μX9_lodging := (g_in (g_m5 (List.mem_of_getElem? (i := 86) rfl)) rfl)
theorem mv_X9_bestBed : g_MV μX9_bestBed := ⟨(g_in (g_m5 (List.mem_of_getElem? (i := 90) rfl)) rfl), g_inP (q := (yX9_bestBed, 11)) (by decide +kernel)⟩
theorem mv_X9_worth : g_MV μX9_worth := ⟨(g_in (g_m5 (List.mem_of_getElem? (i := 94) rfl)) rfl), g_inP (q := (yX9_worth, 11)) (by decide +kernel)⟩
theorem mv_X9_canSleep : g_MV μX9_canSleep := ⟨(g_in (g_m5 (List.mem_of_getElem? (i := 98) rfl)) rfl), g_inP (q := (yX9_canSleep, 11)) (by decide +kernel)⟩
theorem mv_X9_takeBeds : g_MV μX9_takeBeds := ⟨(g_in (g_m5 (List.mem_of_getElem? (i := 102) rfl)) rfl), g_inP (q := (yX9_takeBeds, 11)) (by decide +kernel)⟩
theorem mv_X6_others : g_MV μX6_others := ⟨(g_in (g_m5 (List.mem_of_getElem? (i := 106) rfl)) rfl), g_inP (q := (yX6_others, 10)) (by decide +kernel)⟩
theorem ms_L_turn : g_MS μL_turn := (g_in (g_m5 (List.mem_of_getElem? (i := 111) rfl)) rfl)
theorem mv_X10_turn : g_MV μX10_turn := ⟨(g_in (g_m5 (List.mem_of_getElem? (i := 114) rfl)) rfl), (g_in (g_m5 (List.mem_of_getElem? (i := 115) rfl)) rfl)⟩
theorem ms_L_shut : g_MS μL_shut := (g_in (g_m5 (List.mem_of_getElem? (i := 118) rfl)) rfl)
theorem mv_X10_shut : g_MV μX10_shut := ⟨(g_in (g_m5 (List.mem_of_getElem? (i := 121) rfl)) rfl), (g_in (g_m5 (List.mem_of_getElem? (i := 122) rfl)) rfl)⟩
theorem ms_L_fill : g_MS μL_fill := (g_in (g_m5 (List.mem_of_getElem? (i := 125) rfl)) rfl)
theorem mv_X10_fill : g_MV μX10_fill := ⟨(g_in (g_m5 (List.mem_of_getElem? (i := 128) rfl)) rfl), (g_in (g_m5 (List.mem_of_getElem? (i := 129) rfl)) rfl)⟩
theorem ms_L_set : g_MS μL_set := (g_in (g_m5 (List.mem_of_getElem? (i := 132) rfl)) rfl)
theorem mv_X10_set : g_MV μX10_set := ⟨(g_in (g_m5 (List.mem_of_getElem? (i := 135) rfl)) rfl), (g_in (g_m5 (List.mem_of_getElem? (i := 136) rfl)) rfl)⟩
theorem ms_L_then : g_MS μL_then := (g_in (g_m5 (List.mem_of_getElem? (i := 139) rfl)) rfl)
theorem mv_X10_then : g_MV μX10_then := ⟨(g_in (g_m5 (List.mem_of_getElem? (i := 142) rfl)) rfl), (g_in (g_m5 (List.mem_of_getElem? (i := 143) rfl)) rfl)⟩
theorem ms_X10_needDays : g_MS μX10_needDays := (g_in (g_m5 (List.mem_of_getElem? (i := 146) rfl)) rfl)
theorem ms_L_points : g_MS μL_points := (g_in (g_m5 (List.mem_of_getElem? (i := 150) rfl)) rfl)
theorem mv_X10_points : g_MV μX10_points := ⟨(g_in (g_m5 (List.mem_of_getElem? (i := 153) rfl)) rfl), (g_in (g_m5 (List.mem_of_getElem? (i := 154) rfl)) rfl)⟩
theorem ms_L_comes : g_MS μL_comes := (g_in (g_m5 (List.mem_of_getElem? (i := 157) rfl)) rfl)
theorem mv_X10_comes : g_MV μX10_comes := ⟨(g_in (g_m5 (List.mem_of_getElem? (i := 160) rfl)) rfl), (g_in (g_m5 (List.mem_of_getElem? (i := 161) rfl)) rfl)⟩
theorem ms_L_meet : g_MS μL_meet := (g_in (g_m5 (List.mem_of_getElem? (i := 164) rfl)) rfl)
theorem mv_X10_meet : g_MV μX10_meet := ⟨(g_in (g_m5 (List.mem_of_getElem? (i := 167) rfl)) rfl), (g_in (g_m5 (List.mem_of_getElem? (i := 168) rfl)) rfl)⟩
theorem mv_X8_areTogether : g_MV μX8_areTogether := ⟨(g_in (g_m5 (List.mem_of_getElem? (i := 172) rfl)) rfl), g_inP (q := (yX8_areTogether, 5)) (by decide +kernel)⟩
theorem ms_L_gone : g_MS μL_gone := (g_in (g_m5 (List.mem_of_getElem? (i := 175) rfl)) rfl)
theorem mv_X10_gone : g_MV μX10_gone := ⟨(g_in (g_m5 (List.mem_of_getElem? (i := 178) rfl)) rfl), (g_in (g_m5 (List.mem_of_getElem? (i := 179) rfl)) rfl)⟩
theorem ms_L_later : g_MS μL_later := (g_in (g_m5 (List.mem_of_getElem? (i := 183) rfl)) rfl)
theorem mv_X10_later : g_MV μX10_later := ⟨(g_in (g_m5 (List.mem_of_getElem? (i := 186) rfl)) rfl), (g_in (g_m5 (List.mem_of_getElem? (i := 187) rfl)) rfl)⟩
theorem mv_X10_homeAfter : g_MV μX10_homeAfter := ⟨(g_in (g_m5 (List.mem_of_getElem? (i := 191) rfl)) rfl), g_inP (q := (yX10_homeAfter, 20)) (by decide +kernel)⟩
theorem mv_X10_poorest : g_MV μX10_poorest := ⟨(g_in (g_m5 (List.mem_of_getElem? (i := 195) rfl)) rfl), g_inP (q := (yX10_poorest, 20)) (by decide +kernel)⟩
theorem mv_X10_busiest : g_MV μX10_busiest := ⟨(g_in (g_m5 (List.mem_of_getElem? (i := 199) rfl)) rfl), g_inP (q := (yX10_busiest, 20)) (by decide +kernel)⟩
theorem mv_X10_stuck : g_MV μX10_stuck := ⟨(g_in (g_m5 (List.mem_of_getElem? (i := 204) rfl)) rfl), g_inP (q := (yX10_stuck, 20)) (by decide +kernel)⟩
theorem ms_L_way : g_MS μL_way := (g_in (g_m5 (List.mem_of_getElem? (i := 207) rfl)) rfl)
theorem mv_X10_way : g_MV μX10_way := ⟨(g_in (g_m5 (List.mem_of_getElem? (i := 210) rfl)) rfl), (g_in (g_m5 (List.mem_of_getElem? (i := 211) rfl)) rfl)⟩
theorem ms_X10_orNone : g_MS μX10_orNone := (g_in (g_m5 (List.mem_of_getElem? (i := 216) rfl)) rfl)
theorem ms_L_best : g_MS μL_best := (g_in (g_m5 (List.mem_of_getElem? (i := 219) rfl)) rfl)
theorem mv_X10_best : g_MV μX10_best := ⟨(g_in (g_m5 (List.mem_of_getElem? (i := 222) rfl)) rfl), (g_in (g_m5 (List.mem_of_getElem? (i := 223) rfl)) rfl)⟩
theorem mv_X8_daysToHome : g_MV μX8_daysToHome := ⟨(g_in (g_m5 (List.mem_of_getElem? (i := 227) rfl)) rfl), g_inP (q := (yX8_daysToHome, 5)) (by decide +kernel)⟩
theorem mv_X10_daysByTurn : g_MV μX10_daysByTurn := ⟨(g_in (g_m5 (List.mem_of_getElem? (i := 231) rfl)) rfl), g_inP (q := (yX10_daysByTurn, 20)) (by decide +kernel)⟩
theorem ms_L_lodged : g_MS μL_lodged := (g_in (g_m5 (List.mem_of_getElem? (i := 234) rfl)) rfl)
theorem mv_X10_lodged : g_MV μX10_lodged := ⟨(g_in (g_m5 (List.mem_of_getElem? (i := 237) rfl)) rfl), (g_in (g_m5 (List.mem_of_getElem? (i := 238) rfl)) rfl)⟩
theorem ms_L_see : g_MS μL_see := (g_in (g_m6 (List.mem_of_getElem? (i := 1) rfl)) rfl)
theorem mv_X10_see : g_MV μX10_see := ⟨(g_in (g_m6 (List.mem_of_getElem? (i := 4) rfl)) rfl), (g_in (g_m6 (List.mem_of_getElem? (i := 5) rfl)) rfl)⟩
theorem mv_X5_add : g_MV μX5_add := ⟨(g_in (g_m6 (List.mem_of_getElem? (i := 9) rfl)) rfl), g_inP (q := (yX5_add, 4)) (by decide +kernel)⟩
theorem ms_L_turned : g_MS μL_turned := (g_in (g_m6 (List.mem_of_getElem? (i := 12) rfl)) rfl)
theorem mv_X10_turned : g_MV μX10_turned := ⟨(g_in (g_m6 (List.mem_of_getElem? (i := 15) rfl)) rfl), (g_in (g_m6 (List.mem_of_getElem? (i := 16) rfl)) rfl)⟩
theorem mv_X5_isSo : g_MV μX5_isSo := ⟨(g_in (g_m6 (List.mem_of_getElem? (i := 20) rfl)) rfl), g_inP (q := (yX5_isSo, 4)) (by decide +kernel)⟩
theorem mv_X5_lastDay : g_MV μX5_lastDay := ⟨(g_in (g_m6 (List.mem_of_getElem? (i := 24) rfl)) rfl), g_inP (q := (yX5_lastDay, 4)) (by decide +kernel)⟩
theorem mv_X5_isSoOn : g_MV μX5_isSoOn := ⟨(g_in (g_m6 (List.mem_of_getElem? (i := 29) rfl)) rfl), g_inP (q := (yX5_isSoOn, 4)) (by decide +kernel)⟩
theorem mv_X10_couldBeTurned : g_MV μX10_couldBeTurned := ⟨(g_in (g_m6 (List.mem_of_getElem? (i := 34) rfl)) rfl), g_inP (q := (yX10_couldBeTurned, 20)) (by decide +kernel)⟩
theorem ms_L_look : g_MS μL_look := (g_in (g_m6 (List.mem_of_getElem? (i := 37) rfl)) rfl)
theorem mv_X10_look : g_MV μX10_look := ⟨(g_in (g_m6 (List.mem_of_getElem? (i := 40) rfl)) rfl), (g_in (g_m6 (List.mem_of_getElem? (i := 41) rfl)) rfl)⟩
theorem mv_X10_addPlaces : g_MV μX10_addPlaces := ⟨(g_in (g_m6 (List.mem_of_getElem? (i := 45) rfl)) rfl), g_inP (q := (yX10_addPlaces, 20)) (by decide +kernel)⟩
theorem ms_L_wind : g_MS μL_wind := (g_in (g_m6 (List.mem_of_getElem? (i := 48) rfl)) rfl)
theorem mv_X10_wind : g_MV μX10_wind := ⟨(g_in (g_m6 (List.mem_of_getElem? (i := 51) rfl)) rfl), (g_in (g_m6 (List.mem_of_getElem? (i := 52) rfl)) rfl)⟩
theorem mv_X10_isHomeByWind : g_MV μX10_isHomeByWind := ⟨(g_in (g_m6 (List.mem_of_getElem? (i := 57) rfl)) rfl), g_inP (q := (yX10_isHomeByWind, 20)) (by decide +kernel)⟩
theorem ms_L_game : g_MS μL_game := (g_in (g_m6 (List.mem_of_getElem? (i := 60) rfl)) rfl)
theorem mv_X10_game : g_MV μX10_game := ⟨(g_in (g_m6 (List.mem_of_getElem? (i := 63) rfl)) rfl), (g_in (g_m6 (List.mem_of_getElem? (i := 64) rfl)) rfl)⟩
theorem mv_X10_play : g_MV μX10_play := ⟨(g_in (g_m6 (List.mem_of_getElem? (i := 69) rfl)) rfl), g_inP (q := (yX10_play, 20)) (by decide +kernel)⟩
theorem mv_X10_rests : g_MV μX10_rests := ⟨(g_in (g_m6 (List.mem_of_getElem? (i := 74) rfl)) rfl), g_inP (q := (yX10_rests, 20)) (by decide +kernel)⟩
theorem ms_L_years : g_MS μL_years := (g_in (g_m6 (List.mem_of_getElem? (i := 77) rfl)) rfl)
theorem mv_X10_years : g_MV μX10_years := ⟨(g_in (g_m6 (List.mem_of_getElem? (i := 80) rfl)) rfl), (g_in (g_m6 (List.mem_of_getElem? (i := 81) rfl)) rfl)⟩
theorem mv_X10_drawAhead : g_MV μX10_drawAhead := ⟨(g_in (g_m6 (List.mem_of_getElem? (i := 85) rfl)) rfl), g_inP (q := (yX10_drawAhead, 20)) (by decide +kernel)⟩
theorem mv_X1_next : g_MV μX1_next := ⟨(g_in (g_m6 (List.mem_of_getElem? (i := 89) rfl)) rfl), g_inP (q := (yX1_next, 1)) (by decide +kernel)⟩
theorem mv_X8_allSteps : g_MV μX8_allSteps := ⟨(g_in (g_m6 (List.mem_of_getElem? (i := 94) rfl)) rfl), g_inP (q := (yX8_allSteps, 5)) (by decide +kernel)⟩
theorem ms_L_visited : g_MS μL_visited := (g_in (g_m6 (List.mem_of_getElem? (i := 97) rfl)) rfl)
theorem mv_X10_visited : g_MV μX10_visited := ⟨(g_in (g_m6 (List.mem_of_getElem? (i := 100) rfl)) rfl), (g_in (g_m6 (List.mem_of_getElem? (i := 101) rfl)) rfl)⟩
theorem ms_L_uneven : g_MS μL_uneven := (g_in (g_m6 (List.mem_of_getElem? (i := 104) rfl)) rfl)
theorem mv_X10_uneven : g_MV μX10_uneven := ⟨(g_in (g_m6 (List.mem_of_getElem? (i := 107) rfl)) rfl), (g_in (g_m6 (List.mem_of_getElem? (i := 108) rfl)) rfl)⟩
theorem ms_L_together : g_MS μL_together := (g_in (g_m6 (List.mem_of_getElem? (i := 113) rfl)) rfl)
theorem mv_X10_together : g_MV μX10_together := ⟨(g_in (g_m6 (List.mem_of_getElem? (i := 116) rfl)) rfl), (g_in (g_m6 (List.mem_of_getElem? (i := 117) rfl)) rfl)⟩
theorem ms_L_taken : g_MS μL_taken := (g_in (g_m6 (List.mem_of_getElem? (i := 120) rfl)) rfl)
theorem mv_X10_taken : g_MV μX10_taken := ⟨(g_in (g_m6 (List.mem_of_getElem? (i := 123) rfl)) rfl), (g_in (g_m6 (List.mem_of_getElem? (i := 124) rfl)) rfl)⟩
theorem ms_L_covered : g_MS μL_covered := (g_in (g_m6 (List.mem_of_getElem? (i := 127) rfl)) rfl)
theorem mv_X10_covered : g_MV μX10_covered := ⟨(g_in (g_m6 (List.mem_of_getElem? (i := 130) rfl)) rfl), (g_in (g_m6 (List.mem_of_getElem? (i := 131) rfl)) rfl)⟩
theorem ms_L_parting : g_MS μL_parting := (g_in (g_m6 (List.mem_of_getElem? (i := 134) rfl)) rfl)
theorem mv_X10_parting : g_MV μX10_parting := ⟨(g_in (g_m6 (List.mem_of_getElem? (i := 137) rfl)) rfl), (g_in (g_m6 (List.mem_of_getElem? (i := 138) rfl)) rfl)⟩
theorem ms_L_purse : g_MS μL_purse := (g_in (g_m6 (List.mem_of_getElem? (i := 141) rfl)) rfl)
theorem mv_X10_purse : g_MV μX10_purse := ⟨(g_in (g_m6 (List.mem_of_getElem? (i := 144) rfl)) rfl), (g_in (g_m6 (List.mem_of_getElem? (i := 145) rfl)) rfl)⟩
theorem ms_L_cuts : g_MS μL_cuts := (g_in (g_m6 (List.mem_of_getElem? (i := 148) rfl)) rfl)
theorem mv_X10_cuts : g_MV μX10_cuts := ⟨(g_in (g_m6 (List.mem_of_getElem? (i := 151) rfl)) rfl), (g_in (g_m6 (List.mem_of_getElem? (i := 152) rfl)) rfl)⟩
theorem mv_X10_isCut : g_MV μX10_isCut := ⟨(g_in (g_m6 (List.mem_of_getElem? (i := 156) rfl)) rfl), g_inP (q := (yX10_isCut, 20)) (by decide +kernel)⟩
theorem ms_L_gather : g_MS μL_gather := (g_in (g_m6 (List.mem_of_getElem? (i := 159) rfl)) rfl)
theorem mv_X10_gather : g_MV μX10_gather := ⟨(g_in (g_m6 (List.mem_of_getElem? (i := 162) rfl)) rfl), (g_in (g_m6 (List.mem_of_getElem? (i := 163) rfl)) rfl)⟩
theorem mv_X9_comers : g_MV μX9_comers := ⟨(g_in (g_m6 (List.mem_of_getElem? (i := 167) rfl)) rfl), g_inP (q := (yX9_comers, 11)) (by decide +kernel)⟩
theorem mv_X9_comersCost : g_MV μX9_comersCost := ⟨(g_in (g_m6 (List.mem_of_getElem? (i := 171) rfl)) rfl), g_inP (q := (yX9_comersCost, 11)) (by decide +kernel)⟩
theorem ms_L_walk : g_MS μL_walk := (g_in (g_m6 (List.mem_of_getElem? (i := 174) rfl)) rfl)
theorem mv_X10_walk : g_MV μX10_walk := ⟨(g_in (g_m6 (List.mem_of_getElem? (i := 177) rfl)) rfl), (g_in (g_m6 (List.mem_of_getElem? (i := 178) rfl)) rfl)⟩
theorem mv_X9_loop : g_MV μX9_loop := ⟨(g_in (g_m6 (List.mem_of_getElem? (i := 182) rfl)) rfl), g_inP (q := (yX9_loop, 11)) (by decide +kernel)⟩
theorem mv_X9_longest : g_MV μX9_longest := ⟨(g_in (g_m6 (List.mem_of_getElem? (i := 186) rfl)) rfl), g_inP (q := (yX9_longest, 11)) (by decide +kernel)⟩
theorem mv_X9_walkOn : g_MV μX9_walkOn := ⟨(g_in (g_m6 (List.mem_of_getElem? (i := 191) rfl)) rfl), g_inP (q := (yX9_walkOn, 11)) (by decide +kernel)⟩
theorem ms_L_tour : g_MS μL_tour := (g_in (g_m6 (List.mem_of_getElem? (i := 194) rfl)) rfl)
theorem mv_X10_tour : g_MV μX10_tour := ⟨(g_in (g_m6 (List.mem_of_getElem? (i := 197) rfl)) rfl), (g_in (g_m6 (List.mem_of_getElem? (i := 198) rfl)) rfl)⟩
theorem mv_X9_planTour : g_MV μX9_planTour := ⟨(g_in (g_m6 (List.mem_of_getElem? (i := 203) rfl)) rfl), g_inP (q := (yX9_planTour, 11)) (by decide +kernel)⟩
theorem ms_X9_stage : g_MS μX9_stage := (g_in (g_m6 (List.mem_of_getElem? (i := 206) rfl)) rfl)
theorem mv_X9_nextStop : g_MV μX9_nextStop := ⟨(g_in (g_m6 (List.mem_of_getElem? (i := 210) rfl)) rfl), g_inP (q := (yX9_nextStop, 11)) (by decide +kernel)⟩
theorem mv_X9_costOn : g_MV μX9_costOn := ⟨(g_in (g_m6 (List.mem_of_getElem? (i := 214) rfl)) rfl), g_inP (q := (yX9_costOn, 11)) (by decide +kernel)⟩
theorem mv_X9_tourStop : g_MV μX9_tourStop := ⟨(g_in (g_m6 (List.mem_of_getElem? (i := 218) rfl)) rfl), g_inP (q := (yX9_tourStop, 11)) (by decide +kernel)⟩
theorem mi_X11_init : g_MI μX11_init := ⟨(g_in (g_m6 (List.mem_of_getElem? (i := 223) rfl)) rfl), rfl⟩
theorem mv_X11_thrown : g_MV μX11_thrown := ⟨(g_in (g_m7 (List.mem_of_getElem? (i := 196) rfl)) rfl), (g_in (g_m7 (List.mem_of_getElem? (i := 197) rfl)) rfl)⟩
theorem mv_X11_feed : g_MV μX11_feed := ⟨(g_in (g_m7 (List.mem_of_getElem? (i := 200) rfl)) rfl), (g_in (g_m7 (List.mem_of_getElem? (i := 201) rfl)) rfl)⟩
theorem mv_X11_lays : g_MV μX11_lays := ⟨(g_in (g_m7 (List.mem_of_getElem? (i := 205) rfl)) rfl), g_inP (q := (yX11_lays, 69)) (by decide +kernel)⟩
theorem mv_X11_shire : g_MV μX11_shire := ⟨(g_in (g_m7 (List.mem_of_getElem? (i := 208) rfl)) rfl), (g_in (g_m7 (List.mem_of_getElem? (i := 209) rfl)) rfl)⟩
theorem mv_X11_right : g_MV μX11_right := ⟨(g_in (g_m7 (List.mem_of_getElem? (i := 213) rfl)) rfl), g_inP (q := (yX11_right, 69)) (by decide +kernel)⟩
theorem mv_X11_goes : g_MV μX11_goes := ⟨(g_in (g_m7 (List.mem_of_getElem? (i := 217) rfl)) rfl), g_inP (q := (yX11_goes, 69)) (by decide +kernel)⟩
theorem mv_X11_byteAt : g_MV μX11_byteAt := ⟨(g_in (g_m7 (List.mem_of_getElem? (i := 221) rfl)) rfl), g_inP (q := (yX11_byteAt, 69)) (by decide +kernel)⟩
theorem ms_X11_isLetter : g_MS μX11_isLetter := (g_in (g_m7 (List.mem_of_getElem? (i := 224) rfl)) rfl)
theorem ms_X11_isDigit : g_MS μX11_isDigit := (g_in (g_m7 (List.mem_of_getElem? (i := 227) rfl)) rfl)
theorem mv_X11_isGood : g_MV μX11_isGood := ⟨(g_in (g_m7 (List.mem_of_getElem? (i := 231) rfl)) rfl), g_inP (q := (yX11_isGood, 69)) (by decide +kernel)⟩
theorem mv_X11_line : g_MV μX11_line := ⟨(g_in (g_m7 (List.mem_of_getElem? (i := 235) rfl)) rfl), g_inP (q := (yX11_line, 69)) (by decide +kernel)⟩
theorem mv_X11_knownWord : g_MV μX11_knownWord := ⟨(g_in (g_m7 (List.mem_of_getElem? (i := 239) rfl)) rfl), g_inP (q := (yX11_knownWord, 69)) (by decide +kernel)⟩
theorem ms_X11_letters : g_MS μX11_letters := (g_in (g_m8 (List.mem_of_getElem? (i := 2) rfl)) rfl)
theorem ms_X11_spelled : g_MS μX11_spelled := (g_in (g_m8 (List.mem_of_getElem? (i := 5) rfl)) rfl)
theorem mv_X11_begins : g_MV μX11_begins := ⟨(g_in (g_m8 (List.mem_of_getElem? (i := 10) rfl)) rfl), g_inP (q := (yX11_begins, 69)) (by decide +kernel)⟩
theorem mv_X11_wrong : g_MV μX11_wrong := ⟨(g_in (g_m8 (List.mem_of_getElem? (i := 14) rfl)) rfl), g_inP (q := (yX11_wrong, 69)) (by decide +kernel)⟩
theorem mv_X11_readsCrossing : g_MV μX11_readsCrossing := ⟨(g_in (g_m8 (List.mem_of_getElem? (i := 18) rfl)) rfl), g_inP (q := (yX11_readsCrossing, 69)) (by decide +kernel)⟩
theorem mv_X11_number : g_MV μX11_number := ⟨(g_in (g_m8 (List.mem_of_getElem? (i := 22) rfl)) rfl), g_inP (q := (yX11_number, 69)) (by decide +kernel)⟩
theorem mv_X11_readsRoad : g_MV μX11_readsRoad := ⟨(g_in (g_m8 (List.mem_of_getElem? (i := 26) rfl)) rfl), g_inP (q := (yX11_readsRoad, 69)) (by decide +kernel)⟩
theorem mv_X11_isOneOf : g_MV μX11_isOneOf := ⟨(g_in (g_m8 (List.mem_of_getElem? (i := 30) rfl)) rfl), g_inP (q := (yX11_isOneOf, 69)) (by decide +kernel)⟩
theorem mv_X11_readsPerson : g_MV μX11_readsPerson := ⟨(g_in (g_m8 (List.mem_of_getElem? (i := 34) rfl)) rfl), g_inP (q := (yX11_readsPerson, 69)) (by decide +kernel)⟩
theorem mv_X11_readsArm : g_MV μX11_readsArm := ⟨(g_in (g_m8 (List.mem_of_getElem? (i := 38) rfl)) rfl), g_inP (q := (yX11_readsArm, 69)) (by decide +kernel)⟩
theorem mv_X11_expression : g_MV μX11_expression := ⟨(g_in (g_m8 (List.mem_of_getElem? (i := 42) rfl)) rfl), g_inP (q := (yX11_expression, 69)) (by decide +kernel)⟩
theorem mv_X11_deeper : g_MV μX11_deeper := ⟨(g_in (g_m8 (List.mem_of_getElem? (i := 46) rfl)) rfl), g_inP (q := (yX11_deeper, 69)) (by decide +kernel)⟩
theorem mv_X11_isSign : g_MV μX11_isSign := ⟨(g_in (g_m8 (List.mem_of_getElem? (i := 50) rfl)) rfl), g_inP (q := (yX11_isSign, 69)) (by decide +kernel)⟩
theorem mv_X11_operand : g_MV μX11_operand := ⟨(g_in (g_m8 (List.mem_of_getElem? (i := 54) rfl)) rfl), g_inP (q := (yX11_operand, 69)) (by decide +kernel)⟩
theorem mv_X11_waitsFor : g_MV μX11_waitsFor := ⟨(g_in (g_m8 (List.mem_of_getElem? (i := 58) rfl)) rfl), g_inP (q := (yX11_waitsFor, 69)) (by decide +kernel)⟩
theorem mv_X11_part : g_MV μX11_part := ⟨(g_in (g_m8 (List.mem_of_getElem? (i := 62) rfl)) rfl), g_inP (q := (yX11_part, 69)) (by decide +kernel)⟩
theorem mv_X11_puts : g_MV μX11_puts := ⟨(g_in (g_m8 (List.mem_of_getElem? (i := 66) rfl)) rfl), g_inP (q := (yX11_puts, 69)) (by decide +kernel)⟩
theorem mv_X11_drops : g_MV μX11_drops := ⟨(g_in (g_m8 (List.mem_of_getElem? (i := 70) rfl)) rfl), g_inP (q := (yX11_drops, 69)) (by decide +kernel)⟩
theorem ms_X11_isOpen : g_MS μX11_isOpen := (g_in (g_m8 (List.mem_of_getElem? (i := 73) rfl)) rfl)
theorem ms_X11_strength : g_MS μX11_strength := (g_in (g_m8 (List.mem_of_getElem? (i := 76) rfl)) rfl)
theorem mv_X11_isOpened : g_MV μX11_isOpened := ⟨(g_in (g_m8 (List.mem_of_getElem? (i := 80) rfl)) rfl), g_inP (q := (yX11_isOpened, 69)) (by decide +kernel)⟩
theorem mv_X11_closes : g_MV μX11_closes := ⟨(g_in (g_m8 (List.mem_of_getElem? (i := 84) rfl)) rfl), g_inP (q := (yX11_closes, 69)) (by decide +kernel)⟩
theorem mv_X11_need : g_MV μX11_need := ⟨(g_in (g_m8 (List.mem_of_getElem? (i := 88) rfl)) rfl), g_inP (q := (yX11_need, 69)) (by decide +kernel)⟩
theorem mv_X11_copies : g_MV μX11_copies := ⟨(g_in (g_m8 (List.mem_of_getElem? (i := 92) rfl)) rfl), g_inP (q := (yX11_copies, 69)) (by decide +kernel)⟩
theorem mv_X11_fault : g_MV μX11_fault := ⟨(g_in (g_m8 (List.mem_of_getElem? (i := 95) rfl)) rfl), (g_in (g_m8 (List.mem_of_getElem? (i := 96) rfl)) rfl)⟩
theorem mv_X11_undo : g_MV μX11_undo := ⟨(g_in (g_m8 (List.mem_of_getElem? (i := 99) rfl)) rfl), (g_in (g_m8 (List.mem_of_getElem? (i := 100) rfl)) rfl)⟩
theorem mv_X11_count : g_MV μX11_count := ⟨(g_in (g_m8 (List.mem_of_getElem? (i := 103) rfl)) rfl), (g_in (g_m8 (List.mem_of_getElem? (i := 104) rfl)) rfl)⟩
theorem ms_X11_within : g_MS μX11_within := (g_in (g_m8 (List.mem_of_getElem? (i := 107) rfl)) rfl)
theorem mv_X11_roadsAll : g_MV μX11_roadsAll := ⟨(g_in (g_m8 (List.mem_of_getElem? (i := 111) rfl)) rfl), g_inP (q := (yX11_roadsAll, 69)) (by decide +kernel)⟩
theorem mv_X11_isShut : g_MV μX11_isShut := ⟨(g_in (g_m8 (List.mem_of_getElem? (i := 115) rfl)) rfl), g_inP (q := (yX11_isShut, 69)) (by decide +kernel)⟩
theorem mv_X11_homeOnes : g_MV μX11_homeOnes := ⟨(g_in (g_m8 (List.mem_of_getElem? (i := 119) rfl)) rfl), g_inP (q := (yX11_homeOnes, 69)) (by decide +kernel)⟩
theorem mv_X11_isHome : g_MV μX11_isHome := ⟨(g_in (g_m8 (List.mem_of_getElem? (i := 123) rfl)) rfl), g_inP (q := (yX11_isHome, 69)) (by decide +kernel)⟩
theorem mv_X11_parts : g_MV μX11_parts := ⟨(g_in (g_m8 (List.mem_of_getElem? (i := 127) rfl)) rfl), g_inP (q := (yX11_parts, 69)) (by decide +kernel)⟩
theorem mv_X11_laysWays : g_MV μX11_laysWays := ⟨(g_in (g_m8 (List.mem_of_getElem? (i := 131) rfl)) rfl), g_inP (q := (yX11_laysWays, 69)) (by decide +kernel)⟩
theorem ms_X11_lesser : g_MS μX11_lesser := (g_in (g_m8 (List.mem_of_getElem? (i := 134) rfl)) rfl)
theorem mv_X11_partOf : g_MV μX11_partOf := ⟨(g_in (g_m8 (List.mem_of_getElem? (i := 138) rfl)) rfl), g_inP (q := (yX11_partOf, 69)) (by decide +kernel)⟩
theorem mv_X11_watched : g_MV μX11_watched := ⟨(g_in (g_m8 (List.mem_of_getElem? (i := 142) rfl)) rfl), g_inP (q := (yX11_watched, 69)) (by decide +kernel)⟩
theorem ms_X11_bits : g_MS μX11_bits := (g_in (g_m8 (List.mem_of_getElem? (i := 145) rfl)) rfl)
theorem mv_X11_isWatched : g_MV μX11_isWatched := ⟨(g_in (g_m8 (List.mem_of_getElem? (i := 149) rfl)) rfl), g_inP (q := (yX11_isWatched, 69)) (by decide +kernel)⟩
theorem mv_X11_purses : g_MV μX11_purses := ⟨(g_in (g_m8 (List.mem_of_getElem? (i := 153) rfl)) rfl), g_inP (q := (yX11_purses, 69)) (by decide +kernel)⟩
theorem mv_X11_crossing : g_MV μX11_crossing := ⟨(g_in (g_m8 (List.mem_of_getElem? (i := 156) rfl)) rfl), (g_in (g_m8 (List.mem_of_getElem? (i := 157) rfl)) rfl)⟩
theorem mv_X11_isCrossing : g_MV μX11_isCrossing := ⟨(g_in (g_m8 (List.mem_of_getElem? (i := 161) rfl)) rfl), g_inP (q := (yX11_isCrossing, 69)) (by decide +kernel)⟩
theorem mv_X11_isWhat : g_MV μX11_isWhat := ⟨(g_in (g_m8 (List.mem_of_getElem? (i := 165) rfl)) rfl), g_inP (q := (yX11_isWhat, 69)) (by decide +kernel)⟩
theorem mv_X11_standAt : g_MV μX11_standAt := ⟨(g_in (g_m8 (List.mem_of_getElem? (i := 169) rfl)) rfl), g_inP (q := (yX11_standAt, 69)) (by decide +kernel)⟩
theorem mv_X11_reachedFrom : g_MV μX11_reachedFrom := ⟨(g_in (g_m8 (List.mem_of_getElem? (i := 173) rfl)) rfl), g_inP (q := (yX11_reachedFrom, 69)) (by decide +kernel)⟩
theorem mv_X11_road : g_MV μX11_road := ⟨(g_in (g_m8 (List.mem_of_getElem? (i := 176) rfl)) rfl), (g_in (g_m8 (List.mem_of_getElem? (i := 177) rfl)) rfl)⟩
theorem mv_X11_isRoad : g_MV μX11_isRoad := ⟨(g_in (g_m8 (List.mem_of_getElem? (i := 181) rfl)) rfl), g_inP (q := (yX11_isRoad, 69)) (by decide +kernel)⟩
theorem mv_X11_person : g_MV μX11_person := ⟨(g_in (g_m8 (List.mem_of_getElem? (i := 184) rfl)) rfl), (g_in (g_m8 (List.mem_of_getElem? (i := 185) rfl)) rfl)⟩
theorem mv_X11_isPerson : g_MV μX11_isPerson := ⟨(g_in (g_m8 (List.mem_of_getElem? (i := 189) rfl)) rfl), g_inP (q := (yX11_isPerson, 69)) (by decide +kernel)⟩
theorem mv_X11_bedOf : g_MV μX11_bedOf := ⟨(g_in (g_m8 (List.mem_of_getElem? (i := 193) rfl)) rfl), g_inP (q := (yX11_bedOf, 69)) (by decide +kernel)⟩
theorem mv_X11_laysBeds : g_MV μX11_laysBeds := ⟨(g_in (g_m8 (List.mem_of_getElem? (i := 197) rfl)) rfl), g_inP (q := (yX11_laysBeds, 69)) (by decide +kernel)⟩
theorem mv_X11_canLie : g_MV μX11_canLie := ⟨(g_in (g_m8 (List.mem_of_getElem? (i := 201) rfl)) rfl), g_inP (q := (yX11_canLie, 69)) (by decide +kernel)⟩
theorem mv_X11_lies : g_MV μX11_lies := ⟨(g_in (g_m8 (List.mem_of_getElem? (i := 205) rfl)) rfl), g_inP (q := (yX11_lies, 69)) (by decide +kernel)⟩
theorem mv_X11_days : g_MV μX11_days := ⟨(g_in (g_m8 (List.mem_of_getElem? (i := 208) rfl)) rfl), (g_in (g_m8 (List.mem_of_getElem? (i := 209) rfl)) rfl)⟩
theorem mv_X11_refuses : g_MV μX11_refuses := ⟨(g_in (g_m8 (List.mem_of_getElem? (i := 213) rfl)) rfl), g_inP (q := (yX11_refuses, 69)) (by decide +kernel)⟩
theorem mv_X11_keeps : g_MV μX11_keeps := ⟨(g_in (g_m8 (List.mem_of_getElem? (i := 217) rfl)) rfl), g_inP (q := (yX11_keeps, 69)) (by decide +kernel)⟩
theorem mv_X11_dayGoes : g_MV μX11_dayGoes := ⟨(g_in (g_m8 (List.mem_of_getElem? (i := 221) rfl)) rfl), g_inP (q := (yX11_dayGoes, 69)) (by decide +kernel)⟩
theorem mv_X11_personGoes : g_MV μX11_personGoes := ⟨(g_in (g_m8 (List.mem_of_getElem? (i := 225) rfl)) rfl), g_inP (q := (yX11_personGoes, 69)) (by decide +kernel)⟩
theorem mv_X11_reckons : g_MV μX11_reckons := ⟨(g_in (g_m8 (List.mem_of_getElem? (i := 229) rfl)) rfl), g_inP (q := (yX11_reckons, 69)) (by decide +kernel)⟩
theorem ms_X11_works : g_MS μX11_works := (g_in (g_m8 (List.mem_of_getElem? (i := 232) rfl)) rfl)
theorem ms_X11_bounded : g_MS μX11_bounded := (g_in (g_m8 (List.mem_of_getElem? (i := 235) rfl)) rfl)
theorem mv_X11_turn : g_MV μX11_turn := ⟨(g_in (g_m8 (List.mem_of_getElem? (i := 238) rfl)) rfl), (g_in (g_m8 (List.mem_of_getElem? (i := 239) rfl)) rfl)⟩
theorem mv_X11_shut : g_MV μX11_shut := ⟨(g_in (g_m9 (List.mem_of_getElem? (i := 2) rfl)) rfl), (g_in (g_m9 (List.mem_of_getElem? (i := 3) rfl)) rfl)⟩
theorem mv_X11_fill : g_MV μX11_fill := ⟨(g_in (g_m9 (List.mem_of_getElem? (i := 6) rfl)) rfl), (g_in (g_m9 (List.mem_of_getElem? (i := 7) rfl)) rfl)⟩
theorem mv_X11_set : g_MV μX11_set := ⟨(g_in (g_m9 (List.mem_of_getElem? (i := 10) rfl)) rfl), (g_in (g_m9 (List.mem_of_getElem? (i := 11) rfl)) rfl)⟩
theorem mv_X11_then : g_MV μX11_then := ⟨(g_in (g_m9 (List.mem_of_getElem? (i := 14) rfl)) rfl), (g_in (g_m9 (List.mem_of_getElem? (i := 15) rfl)) rfl)⟩
theorem mv_X11_isSoon : g_MV μX11_isSoon := ⟨(g_in (g_m9 (List.mem_of_getElem? (i := 19) rfl)) rfl), g_inP (q := (yX11_isSoon, 69)) (by decide +kernel)⟩
theorem mv_X11_goesTo : g_MV μX11_goesTo := ⟨(g_in (g_m9 (List.mem_of_getElem? (i := 23) rfl)) rfl), g_inP (q := (yX11_goesTo, 69)) (by decide +kernel)⟩
theorem mv_X11_tries : g_MV μX11_tries := ⟨(g_in (g_m9 (List.mem_of_getElem? (i := 27) rfl)) rfl), g_inP (q := (yX11_tries, 69)) (by decide +kernel)⟩
theorem mv_X11_daysGo : g_MV μX11_daysGo := ⟨(g_in (g_m9 (List.mem_of_getElem? (i := 31) rfl)) rfl), g_inP (q := (yX11_daysGo, 69)) (by decide +kernel)⟩
theorem mv_X11_points : g_MV μX11_points := ⟨(g_in (g_m9 (List.mem_of_getElem? (i := 34) rfl)) rfl), (g_in (g_m9 (List.mem_of_getElem? (i := 35) rfl)) rfl)⟩
theorem mv_X11_comes : g_MV μX11_comes := ⟨(g_in (g_m9 (List.mem_of_getElem? (i := 38) rfl)) rfl), (g_in (g_m9 (List.mem_of_getElem? (i := 39) rfl)) rfl)⟩
theorem mv_X11_meet : g_MV μX11_meet := ⟨(g_in (g_m9 (List.mem_of_getElem? (i := 42) rfl)) rfl), (g_in (g_m9 (List.mem_of_getElem? (i := 43) rfl)) rfl)⟩
theorem mv_X11_areBoth : g_MV μX11_areBoth := ⟨(g_in (g_m9 (List.mem_of_getElem? (i := 47) rfl)) rfl), g_inP (q := (yX11_areBoth, 69)) (by decide +kernel)⟩
theorem mv_X11_parting : g_MV μX11_parting := ⟨(g_in (g_m9 (List.mem_of_getElem? (i := 50) rfl)) rfl), (g_in (g_m9 (List.mem_of_getElem? (i := 51) rfl)) rfl)⟩
theorem mv_X11_together : g_MV μX11_together := ⟨(g_in (g_m9 (List.mem_of_getElem? (i := 54) rfl)) rfl), (g_in (g_m9 (List.mem_of_getElem? (i := 55) rfl)) rfl)⟩
theorem mv_X11_gone : g_MV μX11_gone := ⟨(g_in (g_m9 (List.mem_of_getElem? (i := 58) rfl)) rfl), (g_in (g_m9 (List.mem_of_getElem? (i := 59) rfl)) rfl)⟩
theorem mv_X11_taken : g_MV μX11_taken := ⟨(g_in (g_m9 (List.mem_of_getElem? (i := 62) rfl)) rfl), (g_in (g_m9 (List.mem_of_getElem? (i := 63) rfl)) rfl)⟩
theorem mv_X11_uneven : g_MV μX11_uneven := ⟨(g_in (g_m9 (List.mem_of_getElem? (i := 66) rfl)) rfl), (g_in (g_m9 (List.mem_of_getElem? (i := 67) rfl)) rfl)⟩
theorem mv_X11_visited : g_MV μX11_visited := ⟨(g_in (g_m9 (List.mem_of_getElem? (i := 70) rfl)) rfl), (g_in (g_m9 (List.mem_of_getElem? (i := 71) rfl)) rfl)⟩
theorem mv_X11_covered : g_MV μX11_covered := ⟨(g_in (g_m9 (List.mem_of_getElem? (i := 74) rfl)) rfl), (g_in (g_m9 (List.mem_of_getElem? (i := 75) rfl)) rfl)⟩
theorem mv_X11_later : g_MV μX11_later := ⟨(g_in (g_m9 (List.mem_of_getElem? (i := 78) rfl)) rfl), (g_in (g_m9 (List.mem_of_getElem? (i := 79) rfl)) rfl)⟩
theorem mv_X11_busiest : g_MV μX11_busiest := ⟨(g_in (g_m9 (List.mem_of_getElem? (i := 83) rfl)) rfl), g_inP (q := (yX11_busiest, 69)) (by decide +kernel)⟩
theorem mv_X11_stuck : g_MV μX11_stuck := ⟨(g_in (g_m9 (List.mem_of_getElem? (i := 87) rfl)) rfl), g_inP (q := (yX11_stuck, 69)) (by decide +kernel)⟩
theorem mv_X11_round : g_MV μX11_round := ⟨(g_in (g_m9 (List.mem_of_getElem? (i := 90) rfl)) rfl), (g_in (g_m9 (List.mem_of_getElem? (i := 91) rfl)) rfl)⟩
theorem mv_X11_isAsNow : g_MV μX11_isAsNow := ⟨(g_in (g_m9 (List.mem_of_getElem? (i := 95) rfl)) rfl), g_inP (q := (yX11_isAsNow, 69)) (by decide +kernel)⟩
theorem mv_X11_first : g_MV μX11_first := ⟨(g_in (g_m9 (List.mem_of_getElem? (i := 98) rfl)) rfl), (g_in (g_m9 (List.mem_of_getElem? (i := 99) rfl)) rfl)⟩
theorem mv_X11_best : g_MV μX11_best := ⟨(g_in (g_m9 (List.mem_of_getElem? (i := 102) rfl)) rfl), (g_in (g_m9 (List.mem_of_getElem? (i := 103) rfl)) rfl)⟩
theorem mv_X11_homeIn : g_MV μX11_homeIn := ⟨(g_in (g_m9 (List.mem_of_getElem? (i := 107) rfl)) rfl), g_inP (q := (yX11_homeIn, 69)) (by decide +kernel)⟩
theorem mv_X11_purse : g_MV μX11_purse := ⟨(g_in (g_m9 (List.mem_of_getElem? (i := 110) rfl)) rfl), (g_in (g_m9 (List.mem_of_getElem? (i := 111) rfl)) rfl)⟩
theorem mv_X11_cuts : g_MV μX11_cuts := ⟨(g_in (g_m9 (List.mem_of_getElem? (i := 114) rfl)) rfl), (g_in (g_m9 (List.mem_of_getElem? (i := 115) rfl)) rfl)⟩
theorem mv_X11_way : g_MV μX11_way := ⟨(g_in (g_m9 (List.mem_of_getElem? (i := 118) rfl)) rfl), (g_in (g_m9 (List.mem_of_getElem? (i := 119) rfl)) rfl)⟩
theorem mv_X11_lodged : g_MV μX11_lodged := ⟨(g_in (g_m9 (List.mem_of_getElem? (i := 122) rfl)) rfl), (g_in (g_m9 (List.mem_of_getElem? (i := 123) rfl)) rfl)⟩
theorem mv_X11_gather : g_MV μX11_gather := ⟨(g_in (g_m9 (List.mem_of_getElem? (i := 126) rfl)) rfl), (g_in (g_m9 (List.mem_of_getElem? (i := 127) rfl)) rfl)⟩
theorem mv_X11_walk : g_MV μX11_walk := ⟨(g_in (g_m9 (List.mem_of_getElem? (i := 130) rfl)) rfl), (g_in (g_m9 (List.mem_of_getElem? (i := 131) rfl)) rfl)⟩
theorem mv_X11_loop : g_MV μX11_loop := ⟨(g_in (g_m9 (List.mem_of_getElem? (i := 135) rfl)) rfl), g_inP (q := (yX11_loop, 69)) (by decide +kernel)⟩
theorem mv_X11_longest : g_MV μX11_longest := ⟨(g_in (g_m9 (List.mem_of_getElem? (i := 139) rfl)) rfl), g_inP (q := (yX11_longest, 69)) (by decide +kernel)⟩
theorem mv_X11_doesLead : g_MV μX11_doesLead := ⟨(g_in (g_m9 (List.mem_of_getElem? (i := 143) rfl)) rfl), g_inP (q := (yX11_doesLead, 69)) (by decide +kernel)⟩
theorem mv_X11_balance : g_MV μX11_balance := ⟨(g_in (g_m9 (List.mem_of_getElem? (i := 147) rfl)) rfl), g_inP (q := (yX11_balance, 69)) (by decide +kernel)⟩
theorem mv_X11_tour : g_MV μX11_tour := ⟨(g_in (g_m9 (List.mem_of_getElem? (i := 150) rfl)) rfl), (g_in (g_m9 (List.mem_of_getElem? (i := 151) rfl)) rfl)⟩
theorem mv_X11_laysTour : g_MV μX11_laysTour := ⟨(g_in (g_m9 (List.mem_of_getElem? (i := 155) rfl)) rfl), g_inP (q := (yX11_laysTour, 69)) (by decide +kernel)⟩
theorem mv_X11_onBy : g_MV μX11_onBy := ⟨(g_in (g_m9 (List.mem_of_getElem? (i := 159) rfl)) rfl), g_inP (q := (yX11_onBy, 69)) (by decide +kernel)⟩
theorem mv_X11_circuit : g_MV μX11_circuit := ⟨(g_in (g_m9 (List.mem_of_getElem? (i := 162) rfl)) rfl), (g_in (g_m9 (List.mem_of_getElem? (i := 163) rfl)) rfl)⟩
theorem mv_X11_see : g_MV μX11_see := ⟨(g_in (g_m9 (List.mem_of_getElem? (i := 166) rfl)) rfl), (g_in (g_m9 (List.mem_of_getElem? (i := 167) rfl)) rfl)⟩
theorem mv_X11_forget : g_MV μX11_forget := ⟨(g_in (g_m9 (List.mem_of_getElem? (i := 170) rfl)) rfl), (g_in (g_m9 (List.mem_of_getElem? (i := 171) rfl)) rfl)⟩
theorem mv_X11_turned : g_MV μX11_turned := ⟨(g_in (g_m9 (List.mem_of_getElem? (i := 174) rfl)) rfl), (g_in (g_m9 (List.mem_of_getElem? (i := 175) rfl)) rfl)⟩
theorem mv_X11_isSeen : g_MV μX11_isSeen := ⟨(g_in (g_m9 (List.mem_of_getElem? (i := 179) rfl)) rfl), g_inP (q := (yX11_isSeen, 69)) (by decide +kernel)⟩
theorem mv_X11_isGuess : g_MV μX11_isGuess := ⟨(g_in (g_m9 (List.mem_of_getElem? (i := 183) rfl)) rfl), g_inP (q := (yX11_isGuess, 69)) (by decide +kernel)⟩
theorem mv_X11_look : g_MV μX11_look := ⟨(g_in (g_m9 (List.mem_of_getElem? (i := 186) rfl)) rfl), (g_in (g_m9 (List.mem_of_getElem? (i := 187) rfl)) rfl)⟩
theorem mv_X11_wind : g_MV μX11_wind := ⟨(g_in (g_m9 (List.mem_of_getElem? (i := 190) rfl)) rfl), (g_in (g_m9 (List.mem_of_getElem? (i := 191) rfl)) rfl)⟩
theorem mv_X11_game : g_MV μX11_game := ⟨(g_in (g_m9 (List.mem_of_getElem? (i := 194) rfl)) rfl), (g_in (g_m9 (List.mem_of_getElem? (i := 195) rfl)) rfl)⟩
theorem mv_X11_gains : g_MV μX11_gains := ⟨(g_in (g_m9 (List.mem_of_getElem? (i := 199) rfl)) rfl), g_inP (q := (yX11_gains, 69)) (by decide +kernel)⟩
theorem mv_X11_turnsOn : g_MV μX11_turnsOn := ⟨(g_in (g_m9 (List.mem_of_getElem? (i := 203) rfl)) rfl), g_inP (q := (yX11_turnsOn, 69)) (by decide +kernel)⟩
theorem mv_X11_years : g_MV μX11_years := ⟨(g_in (g_m9 (List.mem_of_getElem? (i := 206) rfl)) rfl), (g_in (g_m9 (List.mem_of_getElem? (i := 207) rfl)) rfl)⟩
theorem mv_X11_happens : g_MV μX11_happens := ⟨(g_in (g_m9 (List.mem_of_getElem? (i := 211) rfl)) rfl), g_inP (q := (yX11_happens, 69)) (by decide +kernel)⟩
theorem mv_X11_draw : g_MV μX11_draw := ⟨(g_in (g_m9 (List.mem_of_getElem? (i := 215) rfl)) rfl), g_inP (q := (yX11_draw, 69)) (by decide +kernel)⟩
theorem mv_X11_image : g_MV μX11_image := ⟨(g_in (g_m9 (List.mem_of_getElem? (i := 219) rfl)) rfl), (g_in (g_m9 (List.mem_of_getElem? (i := 220) rfl)) rfl)⟩
theorem mv_X11_restore : g_MV μX11_restore := ⟨(g_in (g_m9 (List.mem_of_getElem? (i := 223) rfl)) rfl), (g_in (g_m9 (List.mem_of_getElem? (i := 224) rfl)) rfl)⟩
theorem ml_L_122 : g_ML RL 122 yX10_init := Or.inl (g_in (g_m1 (List.mem_of_getElem? (i := 29) rfl)) rfl)
theorem ml_X10_19 : g_ML RX10 19 yX6_init := Or.inr ⟨_, g_inN (g_m1 (List.mem_of_getElem? (i := 37) rfl)) rfl⟩
theorem ml_X6_29 : g_ML RX6 29 yX4_init := Or.inr ⟨_, g_inN (g_m1 (List.mem_of_getElem? (i := 43) rfl)) rfl⟩
theorem ml_X6_39 : g_ML RX6 39 yX2_init := Or.inr ⟨_, g_inN (g_m1 (List.mem_of_getElem? (i := 61) rfl)) rfl⟩
theorem ml_X10_29 : g_ML RX10 29 yX3_init := Or.inr ⟨_, g_inN (g_m1 (List.mem_of_getElem? (i := 157) rfl)) rfl⟩
theorem ml_X3_11 : g_ML RX3 11 yX7_init := Or.inr ⟨_, g_inN (g_m1 (List.mem_of_getElem? (i := 163) rfl)) rfl⟩
theorem ml_X10_38 : g_ML RX10 38 yX2_init := Or.inr ⟨_, g_inN (g_m1 (List.mem_of_getElem? (i := 210) rfl)) rfl⟩
theorem ml_X10_45 : g_ML RX10 45 yX0_init := Or.inr ⟨_, g_inN (g_m1 (List.mem_of_getElem? (i := 213) rfl)) rfl⟩
theorem ml_X10_52 : g_ML RX10 52 yX5_init := Or.inr ⟨_, g_inN (g_m1 (List.mem_of_getElem? (i := 230) rfl)) rfl⟩
theorem ml_X10_71 : g_ML RX10 71 yX8_init := Or.inr ⟨_, g_inN (g_m2 (List.mem_of_getElem? (i := 10) rfl)) rfl⟩
theorem ml_X8_11 : g_ML RX8 11 yX2_init := Or.inr ⟨_, g_inN (g_m2 (List.mem_of_getElem? (i := 15) rfl)) rfl⟩
theorem ml_X10_80 : g_ML RX10 80 yX9_init := Or.inr ⟨_, g_inN (g_m2 (List.mem_of_getElem? (i := 38) rfl)) rfl⟩
theorem ml_X10_87 : g_ML RX10 87 yX1_init := Or.inr ⟨_, g_inN (g_m2 (List.mem_of_getElem? (i := 83) rfl)) rfl⟩
theorem ml_L_126 : g_ML RL 126 yX10_feed := Or.inl (g_in (g_m2 (List.mem_of_getElem? (i := 153) rfl)) rfl)
theorem ml_X10_104 : g_ML RX10 104 yX10_feedFour := Or.inl (g_in (g_m2 (List.mem_of_getElem? (i := 157) rfl)) rfl)
theorem ml_L_141 : g_ML RL 141 yX10_fault := Or.inl (g_in (g_m2 (List.mem_of_getElem? (i := 161) rfl)) rfl)
theorem ml_L_159 : g_ML RL 159 yX10_days := Or.inl (g_in (g_m2 (List.mem_of_getElem? (i := 165) rfl)) rfl)
theorem ml_X10_245 : g_ML RX10 245 yX10_refuse := Or.inl (g_in (g_m2 (List.mem_of_getElem? (i := 169) rfl)) rfl)
theorem ml_X10_248 : g_ML RX10 248 yX0_keep := Or.inr ⟨_, g_inN (g_m2 (List.mem_of_getElem? (i := 173) rfl)) rfl⟩
theorem ml_X0_24 : g_ML RX0 24 yX2_write := Or.inr ⟨_, g_inN (g_m2 (List.mem_of_getElem? (i := 177) rfl)) rfl⟩
theorem ml_X10_251 : g_ML RX10 251 yX10_setOut := Or.inl (g_in (g_m2 (List.mem_of_getElem? (i := 184) rfl)) rfl)
theorem ml_X10_423 : g_ML RX10 423 yX8_begin := Or.inr ⟨_, g_inN (g_m2 (List.mem_of_getElem? (i := 188) rfl)) rfl⟩
theorem ml_X8_34 : g_ML RX8 34 yX2_copy := Or.inr ⟨_, g_inN (g_m2 (List.mem_of_getElem? (i := 192) rfl)) rfl⟩
theorem ml_X8_38 : g_ML RX8 38 yJ7_fill_53178 := Or.inl (g_in (g_m2 (List.mem_of_getElem? (i := 196) rfl)) rfl)
theorem ml_X10_255 : g_ML RX10 255 yX8_go := Or.inr ⟨_, g_inN (g_m2 (List.mem_of_getElem? (i := 199) rfl)) rfl⟩
theorem ml_X8_44 : g_ML RX8 44 yX8_goDay := Or.inl (g_in (g_m2 (List.mem_of_getElem? (i := 203) rfl)) rfl)
theorem ml_X8_54 : g_ML RX8 54 yX8_isHome := Or.inl (g_in (g_m2 (List.mem_of_getElem? (i := 207) rfl)) rfl)
theorem ml_X8_64 : g_ML RX8 64 yX8_takeTurn := Or.inl (g_in (g_m2 (List.mem_of_getElem? (i := 211) rfl)) rfl)
theorem ml_X8_75 : g_ML RX8 75 yX4_isTold := Or.inr ⟨_, g_inN (g_m2 (List.mem_of_getElem? (i := 215) rfl)) rfl⟩
theorem ml_X8_82 : g_ML RX8 82 yX8_findValues := Or.inl (g_in (g_m2 (List.mem_of_getElem? (i := 219) rfl)) rfl)
theorem ml_X8_111 : g_ML RX8 111 yX6_peopleAt := Or.inr ⟨_, g_inN (g_m2 (List.mem_of_getElem? (i := 223) rfl)) rfl⟩
theorem ml_X8_115 : g_ML RX8 115 yJ6_bitCount_0f7a4 := Or.inl (g_in (g_m2 (List.mem_of_getElem? (i := 227) rfl)) rfl)
theorem ml_X8_86 : g_ML RX8 86 yX4_value := Or.inr ⟨_, g_inN (g_m2 (List.mem_of_getElem? (i := 233) rfl)) rfl⟩
theorem ml_X4_26 : g_ML RX4 26 yX4_join := Or.inl (g_in (g_m2 (List.mem_of_getElem? (i := 237) rfl)) rfl)
theorem ml_X8_90 : g_ML RX8 90 yJ9_min_7cf53 := Or.inl (g_in (g_m3 (List.mem_of_getElem? (i := 0) rfl)) rfl)
theorem ml_X8_96 : g_ML RX8 96 yJ9_max_7cf53 := Or.inl (g_in (g_m3 (List.mem_of_getElem? (i := 3) rfl)) rfl)
theorem ml_X8_99 : g_ML RX8 99 yX8_follow := Or.inl (g_in (g_m3 (List.mem_of_getElem? (i := 6) rfl)) rfl)
theorem ml_X8_121 : g_ML RX8 121 yX6_leads := Or.inr ⟨_, g_inN (g_m3 (List.mem_of_getElem? (i := 10) rfl)) rfl⟩
theorem ml_X6_63 : g_ML RX6 63 yX6_roadIndex := Or.inl (g_in (g_m3 (List.mem_of_getElem? (i := 14) rfl)) rfl)
theorem ml_X8_124 : g_ML RX8 124 yX2_isShut := Or.inr ⟨_, g_inN (g_m3 (List.mem_of_getElem? (i := 17) rfl)) rfl⟩
theorem ml_X8_131 : g_ML RX8 131 yX6_roadIndex := Or.inr ⟨_, g_inN (g_m3 (List.mem_of_getElem? (i := 21) rfl)) rfl⟩
theorem ml_X8_102 : g_ML RX8 102 yX8_turnOn := Or.inl (g_in (g_m3 (List.mem_of_getElem? (i := 22) rfl)) rfl)
theorem ml_X10_123 : g_ML RX10 123 yX2_copy := Or.inr ⟨_, g_inN (g_m3 (List.mem_of_getElem? (i := 26) rfl)) rfl⟩
theorem ml_L_176 : g_ML RL 176 yX10_undo := Or.inl (g_in (g_m3 (List.mem_of_getElem? (i := 27) rfl)) rfl)
theorem ml_X10_261 : g_ML RX10 261 yX0_takeBack := Or.inr ⟨_, g_inN (g_m3 (List.mem_of_getElem? (i := 31) rfl)) rfl⟩
theorem ml_X0_28 : g_ML RX0 28 yX2_readBack := Or.inr ⟨_, g_inN (g_m3 (List.mem_of_getElem? (i := 35) rfl)) rfl⟩
theorem ml_L_275 : g_ML RL 275 yX10_image := Or.inl (g_in (g_m3 (List.mem_of_getElem? (i := 39) rfl)) rfl)
theorem ml_X10_264 : g_ML RX10 264 yX0_copy := Or.inr ⟨_, g_inN (g_m3 (List.mem_of_getElem? (i := 43) rfl)) rfl⟩
theorem ml_X10_267 : g_ML RX10 267 yX5_copy := Or.inr ⟨_, g_inN (g_m3 (List.mem_of_getElem? (i := 48) rfl)) rfl⟩
theorem ml_L_279 : g_ML RL 279 yX10_restore := Or.inl (g_in (g_m3 (List.mem_of_getElem? (i := 53) rfl)) rfl)
theorem ml_L_198 : g_ML RL 198 yX10_round := Or.inl (g_in (g_m3 (List.mem_of_getElem? (i := 57) rfl)) rfl)
theorem ml_X10_277 : g_ML RX10 277 yX8_goDay := Or.inr ⟨_, g_inN (g_m3 (List.mem_of_getElem? (i := 61) rfl)) rfl⟩
theorem ml_X10_308 : g_ML RX10 308 yX2_standsLike := Or.inr ⟨_, g_inN (g_m3 (List.mem_of_getElem? (i := 62) rfl)) rfl⟩
theorem ml_L_233 : g_ML RL 233 yX10_first := Or.inl (g_in (g_m3 (List.mem_of_getElem? (i := 66) rfl)) rfl)
theorem ml_X10_155 : g_ML RX10 155 yX6_atHome := Or.inr ⟨_, g_inN (g_m3 (List.mem_of_getElem? (i := 70) rfl)) rfl⟩
theorem ml_X10_312 : g_ML RX10 312 yX8_isHome := Or.inr ⟨_, g_inN (g_m3 (List.mem_of_getElem? (i := 74) rfl)) rfl⟩
theorem ml_L_214 : g_ML RL 214 yX10_forget := Or.inl (g_in (g_m3 (List.mem_of_getElem? (i := 75) rfl)) rfl)
theorem ml_X10_130 : g_ML RX10 130 yX5_clear := Or.inr ⟨_, g_inN (g_m3 (List.mem_of_getElem? (i := 79) rfl)) rfl⟩
theorem ml_L_270 : g_ML RL 270 yX10_circuit := Or.inl (g_in (g_m3 (List.mem_of_getElem? (i := 83) rfl)) rfl)
theorem ml_X10_159 : g_ML RX10 159 yX10_surveyed := Or.inl (g_in (g_m3 (List.mem_of_getElem? (i := 87) rfl)) rfl)
theorem ml_X10_419 : g_ML RX10 419 yX9_survey := Or.inr ⟨_, g_inN (g_m3 (List.mem_of_getElem? (i := 91) rfl)) rfl⟩
theorem ml_X9_49 : g_ML RX9 49 yX9_layRoads := Or.inl (g_in (g_m3 (List.mem_of_getElem? (i := 96) rfl)) rfl)
theorem ml_X9_67 : g_ML RX9 67 yJ7_fill_53178 := Or.inl (g_in (g_m3 (List.mem_of_getElem? (i := 100) rfl)) rfl)
theorem ml_X9_73 : g_ML RX9 73 yX9_pair := Or.inl (g_in (g_m3 (List.mem_of_getElem? (i := 101) rfl)) rfl)
theorem ml_X9_79 : g_ML RX9 79 yX2_isShut := Or.inr ⟨_, g_inN (g_m3 (List.mem_of_getElem? (i := 104) rfl)) rfl⟩
theorem ml_X9_83 : g_ML RX9 83 yX6_leads := Or.inr ⟨_, g_inN (g_m3 (List.mem_of_getElem? (i := 105) rfl)) rfl⟩
theorem ml_X9_86 : g_ML RX9 86 yX9_layRoad := Or.inl (g_in (g_m3 (List.mem_of_getElem? (i := 106) rfl)) rfl)
theorem ml_X9_59 : g_ML RX9 59 yX9_joinWays := Or.inl (g_in (g_m3 (List.mem_of_getElem? (i := 110) rfl)) rfl)
theorem ml_X9_63 : g_ML RX9 63 yX9_farFrom := Or.inl (g_in (g_m3 (List.mem_of_getElem? (i := 114) rfl)) rfl)
theorem ml_X9_93 : g_ML RX9 93 yJ9_min_7cf53 := Or.inl (g_in (g_m3 (List.mem_of_getElem? (i := 118) rfl)) rfl)
theorem ml_X9_98 : g_ML RX9 98 yX9_costFrom := Or.inl (g_in (g_m3 (List.mem_of_getElem? (i := 119) rfl)) rfl)
theorem ml_X10_403 : g_ML RX10 403 yX9_balance := Or.inr ⟨_, g_inN (g_m3 (List.mem_of_getElem? (i := 123) rfl)) rfl⟩
theorem ml_X10_204 : g_ML RX10 204 yX9_partOf := Or.inr ⟨_, g_inN (g_m3 (List.mem_of_getElem? (i := 127) rfl)) rfl⟩
theorem ml_L_131 : g_ML RL 131 yL_shire := Or.inl (g_in (g_m3 (List.mem_of_getElem? (i := 131) rfl)) rfl)
theorem ml_L_7 : g_ML RL 7 yX10_shire := Or.inl (g_in (g_m3 (List.mem_of_getElem? (i := 135) rfl)) rfl)
theorem ml_X10_115 : g_ML RX10 115 yX3_read := Or.inr ⟨_, g_inN (g_m3 (List.mem_of_getElem? (i := 206) rfl)) rfl⟩
theorem ml_X3_33 : g_ML RX3 33 yX6_clear := Or.inr ⟨_, g_inN (g_m3 (List.mem_of_getElem? (i := 210) rfl)) rfl⟩
theorem ml_X6_51 : g_ML RX6 51 yJ7_fill_53178 := Or.inl (g_in (g_m3 (List.mem_of_getElem? (i := 214) rfl)) rfl)
theorem ml_X6_60 : g_ML RX6 60 yX2_clear := Or.inr ⟨_, g_inN (g_m3 (List.mem_of_getElem? (i := 215) rfl)) rfl⟩
theorem ml_X2_28 : g_ML RX2 28 yJ7_fill_53178 := Or.inl (g_in (g_m3 (List.mem_of_getElem? (i := 219) rfl)) rfl)
theorem ml_X3_43 : g_ML RX3 43 yX7_open := Or.inr ⟨_, g_inN (g_m3 (List.mem_of_getElem? (i := 220) rfl)) rfl⟩
theorem ml_X7_13 : g_ML RX7 13 yJ9_min_7cf53 := Or.inl (g_in (g_m3 (List.mem_of_getElem? (i := 224) rfl)) rfl)
theorem ml_X7_26 : g_ML RX7 26 yX7_advance := Or.inl (g_in (g_m3 (List.mem_of_getElem? (i := 225) rfl)) rfl)
theorem ml_X7_35 : g_ML RX7 35 yX7_kindOf := Or.inl (g_in (g_m3 (List.mem_of_getElem? (i := 229) rfl)) rfl)
theorem ml_X7_44 : g_ML RX7 44 yJ0_indexOf_0f7a4 := Or.inl (g_in (g_m3 (List.mem_of_getElem? (i := 233) rfl)) rfl)
theorem ml_J0_633 : g_ML RJ0 633 yJ0_indexOf_7cf53 := Or.inl (g_in (g_m3 (List.mem_of_getElem? (i := 237) rfl)) rfl)
theorem ml_J0_492 : g_ML RJ0 492 yJ0_isLatin1_aae02 := Or.inl (g_in (g_m4 (List.mem_of_getElem? (i := 1) rfl)) rfl)
theorem ml_J0_505 : g_ML RJ0 505 yJ0_length_8abf5 := Or.inl (g_in (g_m4 (List.mem_of_getElem? (i := 7) rfl)) rfl)
theorem ml_J0_335 : g_ML RJ0 335 yJ0_coder_7d493 := Or.inl (g_in (g_m4 (List.mem_of_getElem? (i := 11) rfl)) rfl)
theorem ml_J0_637 : g_ML RJ0 637 yJ1_indexOf_4cfef := Or.inl (g_in (g_m4 (List.mem_of_getElem? (i := 15) rfl)) rfl)
theorem ml_J1_88 : g_ML RJ1 88 yJ1_canEncode_9a6ad := Or.inl (g_in (g_m4 (List.mem_of_getElem? (i := 18) rfl)) rfl)
theorem ml_J1_92 : g_ML RJ1 92 yJ9_max_7cf53 := Or.inl (g_in (g_m4 (List.mem_of_getElem? (i := 21) rfl)) rfl)
theorem ml_J1_38 : g_ML RJ1 38 yJ9_min_7cf53 := Or.inl (g_in (g_m4 (List.mem_of_getElem? (i := 22) rfl)) rfl)
theorem ml_J1_95 : g_ML RJ1 95 yJ1_indexOfChar_4cfef := Or.inl (g_in (g_m4 (List.mem_of_getElem? (i := 23) rfl)) rfl)
theorem ml_J0_640 : g_ML RJ0 640 yJ2_indexOf_4cfef := Or.inl (g_in (g_m4 (List.mem_of_getElem? (i := 26) rfl)) rfl)
theorem ml_J2_224 : g_ML RJ2 224 yJ9_max_7cf53 := Or.inl (g_in (g_m4 (List.mem_of_getElem? (i := 29) rfl)) rfl)
theorem ml_J2_183 : g_ML RJ2 183 yJ9_min_7cf53 := Or.inl (g_in (g_m4 (List.mem_of_getElem? (i := 30) rfl)) rfl)
theorem ml_J2_228 : g_ML RJ2 228 yJ2_indexOfChar_4cfef := Or.inl (g_in (g_m4 (List.mem_of_getElem? (i := 32) rfl)) rfl)
theorem ml_J2_96 : g_ML RJ2 96 yJ2_checkBoundsBeginEnd_d044e := Or.inl (g_in (g_m4 (List.mem_of_getElem? (i := 35) rfl)) rfl)
theorem ml_J2_48 : g_ML RJ2 48 yJ2_length_9d52b := Or.inl (g_in (g_m4 (List.mem_of_getElem? (i := 38) rfl)) rfl)
theorem ml_J2_241 : g_ML RJ2 241 yJ0_checkBoundsBeginEnd_23922 := Or.inl (g_in (g_m4 (List.mem_of_getElem? (i := 41) rfl)) rfl)
theorem ml_J0_1062 : g_ML RJ0 1062 yJ3_checkFromToIndex_8c36e := Or.inl (g_in (g_m4 (List.mem_of_getElem? (i := 46) rfl)) rfl)
theorem ml_J2_244 : g_ML RJ2 244 yJ2_indexOfCharUnsafe_4cfef := Or.inl (g_in (g_m4 (List.mem_of_getElem? (i := 49) rfl)) rfl)
theorem ml_J2_71 : g_ML RJ2 71 yJ2_getChar_3b067 := Or.inl (g_in (g_m4 (List.mem_of_getElem? (i := 52) rfl)) rfl)
theorem ml_J2_232 : g_ML RJ2 232 yJ2_indexOfSupplementary_4cfef := Or.inl (g_in (g_m4 (List.mem_of_getElem? (i := 61) rfl)) rfl)
theorem ml_J2_164 : g_ML RJ2 164 yJ11_isValidCodePoint_9a6ad := Or.inl (g_in (g_m4 (List.mem_of_getElem? (i := 64) rfl)) rfl)
theorem ml_J2_157 : g_ML RJ2 157 yJ11_highSurrogate_5068e := Or.inl (g_in (g_m4 (List.mem_of_getElem? (i := 67) rfl)) rfl)
theorem ml_J2_161 : g_ML RJ2 161 yJ11_lowSurrogate_5068e := Or.inl (g_in (g_m4 (List.mem_of_getElem? (i := 71) rfl)) rfl)
theorem ml_X3_50 : g_ML RX3 50 yX3_readLine := Or.inl (g_in (g_m4 (List.mem_of_getElem? (i := 75) rfl)) rfl)
theorem ml_X3_62 : g_ML RX3 62 yX7_isWord := Or.inr ⟨_, g_inN (g_m4 (List.mem_of_getElem? (i := 80) rfl)) rfl⟩
theorem ml_X7_49 : g_ML RX7 49 yJ0_length_8abf5 := Or.inl (g_in (g_m4 (List.mem_of_getElem? (i := 84) rfl)) rfl)
theorem ml_X7_52 : g_ML RX7 52 yJ0_charAt_5068e := Or.inl (g_in (g_m4 (List.mem_of_getElem? (i := 85) rfl)) rfl)
theorem ml_J0_495 : g_ML RJ0 495 yJ1_charAt_3b067 := Or.inl (g_in (g_m4 (List.mem_of_getElem? (i := 89) rfl)) rfl)
theorem ml_J1_9 : g_ML RJ1 9 yJ0_checkIndex_df160 := Or.inl (g_in (g_m4 (List.mem_of_getElem? (i := 92) rfl)) rfl)
theorem ml_J0_1059 : g_ML RJ0 1059 yJ3_checkIndex_8e157 := Or.inl (g_in (g_m4 (List.mem_of_getElem? (i := 95) rfl)) rfl)
theorem ml_J0_498 : g_ML RJ0 498 yJ2_charAt_3b067 := Or.inl (g_in (g_m4 (List.mem_of_getElem? (i := 98) rfl)) rfl)
theorem ml_J2_67 : g_ML RJ2 67 yJ2_checkIndex_2214a := Or.inl (g_in (g_m4 (List.mem_of_getElem? (i := 101) rfl)) rfl)
theorem ml_J2_414 : g_ML RJ2 414 yJ0_checkIndex_df160 := Or.inl (g_in (g_m4 (List.mem_of_getElem? (i := 104) rfl)) rfl)
theorem ml_X3_66 : g_ML RX3 66 yX3_readCrossing := Or.inl (g_in (g_m4 (List.mem_of_getElem? (i := 105) rfl)) rfl)
theorem ml_X3_93 : g_ML RX3 93 yX3_fail := Or.inl (g_in (g_m4 (List.mem_of_getElem? (i := 109) rfl)) rfl)
theorem ml_X3_101 : g_ML RX3 101 yX7_advance := Or.inr ⟨_, g_inN (g_m4 (List.mem_of_getElem? (i := 113) rfl)) rfl⟩
theorem ml_X3_116 : g_ML RX3 116 yX3_isNumberTo := Or.inl (g_in (g_m4 (List.mem_of_getElem? (i := 114) rfl)) rfl)
theorem ml_X3_107 : g_ML RX3 107 yX3_isNumber := Or.inl (g_in (g_m4 (List.mem_of_getElem? (i := 118) rfl)) rfl)
theorem ml_X3_104 : g_ML RX3 104 yX7_isTooLong := Or.inr ⟨_, g_inN (g_m4 (List.mem_of_getElem? (i := 122) rfl)) rfl⟩
theorem ml_X3_119 : g_ML RX3 119 yX3_take := Or.inl (g_in (g_m4 (List.mem_of_getElem? (i := 126) rfl)) rfl)
theorem ml_X3_71 : g_ML RX3 71 yX3_readRoad := Or.inl (g_in (g_m4 (List.mem_of_getElem? (i := 131) rfl)) rfl)
theorem ml_X3_130 : g_ML RX3 130 yX3_isTold := Or.inl (g_in (g_m4 (List.mem_of_getElem? (i := 135) rfl)) rfl)
theorem ml_X3_136 : g_ML RX3 136 yX6_addRoad := Or.inr ⟨_, g_inN (g_m4 (List.mem_of_getElem? (i := 139) rfl)) rfl⟩
theorem ml_X3_76 : g_ML RX3 76 yX3_readPerson := Or.inl (g_in (g_m4 (List.mem_of_getElem? (i := 144) rfl)) rfl)
theorem ml_X3_81 : g_ML RX3 81 yX3_readArm := Or.inl (g_in (g_m4 (List.mem_of_getElem? (i := 149) rfl)) rfl)
theorem ml_X3_85 : g_ML RX3 85 yX3_readRule := Or.inl (g_in (g_m4 (List.mem_of_getElem? (i := 154) rfl)) rfl)
theorem ml_X3_160 : g_ML RX3 160 yX4_isTold := Or.inr ⟨_, g_inN (g_m4 (List.mem_of_getElem? (i := 158) rfl)) rfl⟩
theorem ml_X3_164 : g_ML RX3 164 yX3_readExpr := Or.inl (g_in (g_m4 (List.mem_of_getElem? (i := 159) rfl)) rfl)
theorem ml_X3_167 : g_ML RX3 167 yX3_canBegin := Or.inl (g_in (g_m4 (List.mem_of_getElem? (i := 163) rfl)) rfl)
theorem ml_X3_170 : g_ML RX3 170 yX3_readAnd := Or.inl (g_in (g_m4 (List.mem_of_getElem? (i := 167) rfl)) rfl)
theorem ml_X3_178 : g_ML RX3 178 yX3_readNot := Or.inl (g_in (g_m4 (List.mem_of_getElem? (i := 171) rfl)) rfl)
theorem ml_X3_185 : g_ML RX3 185 yX3_readTest := Or.inl (g_in (g_m4 (List.mem_of_getElem? (i := 176) rfl)) rfl)
theorem ml_X3_188 : g_ML RX3 188 yX3_readSum := Or.inl (g_in (g_m4 (List.mem_of_getElem? (i := 180) rfl)) rfl)
theorem ml_X3_191 : g_ML RX3 191 yX3_readProduct := Or.inl (g_in (g_m4 (List.mem_of_getElem? (i := 184) rfl)) rfl)
theorem ml_X3_194 : g_ML RX3 194 yX3_readPart := Or.inl (g_in (g_m4 (List.mem_of_getElem? (i := 188) rfl)) rfl)
theorem ml_X3_97 : g_ML RX3 97 yX3_readSign := Or.inl (g_in (g_m4 (List.mem_of_getElem? (i := 192) rfl)) rfl)
theorem ml_X3_197 : g_ML RX3 197 yX3_readValue := Or.inl (g_in (g_m4 (List.mem_of_getElem? (i := 196) rfl)) rfl)
theorem ml_X3_200 : g_ML RX3 200 yX4_addValue := Or.inr ⟨_, g_inN (g_m4 (List.mem_of_getElem? (i := 200) rfl)) rfl⟩
theorem ml_X4_22 : g_ML RX4 22 yX4_add := Or.inl (g_in (g_m4 (List.mem_of_getElem? (i := 204) rfl)) rfl)
theorem ml_X3_175 : g_ML RX3 175 yX4_add := Or.inr ⟨_, g_inN (g_m4 (List.mem_of_getElem? (i := 212) rfl)) rfl⟩
theorem ml_X10_127 : g_ML RX10 127 yX0_clear := Or.inr ⟨_, g_inN (g_m4 (List.mem_of_getElem? (i := 216) rfl)) rfl⟩
theorem ml_L_145 : g_ML RL 145 yL_count := Or.inl (g_in (g_m4 (List.mem_of_getElem? (i := 220) rfl)) rfl)
theorem ml_L_15 : g_ML RL 15 yX10_count := Or.inl (g_in (g_m4 (List.mem_of_getElem? (i := 224) rfl)) rfl)
theorem ml_X10_135 : g_ML RX10 135 yX10_needWhat := Or.inl (g_in (g_m4 (List.mem_of_getElem? (i := 228) rfl)) rfl)
theorem ml_X10_148 : g_ML RX10 148 yX6_allRoads := Or.inr ⟨_, g_inN (g_m5 (List.mem_of_getElem? (i := 7) rfl)) rfl⟩
theorem ml_X10_152 : g_ML RX10 152 yX10_shutRoads := Or.inl (g_in (g_m5 (List.mem_of_getElem? (i := 11) rfl)) rfl)
theorem ml_X10_179 : g_ML RX10 179 yJ6_bitCount_0f7a4 := Or.inl (g_in (g_m5 (List.mem_of_getElem? (i := 15) rfl)) rfl)
theorem ml_X10_163 : g_ML RX10 163 yX9_parts := Or.inr ⟨_, g_inN (g_m5 (List.mem_of_getElem? (i := 16) rfl)) rfl⟩
theorem ml_X9_101 : g_ML RX9 101 yX9_partOf := Or.inl (g_in (g_m5 (List.mem_of_getElem? (i := 20) rfl)) rfl)
theorem ml_X10_166 : g_ML RX10 166 yX9_watch := Or.inr ⟨_, g_inN (g_m5 (List.mem_of_getElem? (i := 21) rfl)) rfl⟩
theorem ml_X9_105 : g_ML RX9 105 yJ6_bitCount_0f7a4 := Or.inl (g_in (g_m5 (List.mem_of_getElem? (i := 25) rfl)) rfl)
theorem ml_X9_110 : g_ML RX9 110 yX9_watchesAll := Or.inl (g_in (g_m5 (List.mem_of_getElem? (i := 26) rfl)) rfl)
theorem ml_X10_169 : g_ML RX10 169 yX6_purses := Or.inr ⟨_, g_inN (g_m5 (List.mem_of_getElem? (i := 30) rfl)) rfl⟩
theorem ml_L_148 : g_ML RL 148 yL_crossing := Or.inl (g_in (g_m5 (List.mem_of_getElem? (i := 34) rfl)) rfl)
theorem ml_L_20 : g_ML RL 20 yX10_crossing := Or.inl (g_in (g_m5 (List.mem_of_getElem? (i := 37) rfl)) rfl)
theorem ml_X10_185 : g_ML RX10 185 yX10_needCrossing := Or.inl (g_in (g_m5 (List.mem_of_getElem? (i := 41) rfl)) rfl)
theorem ml_X10_200 : g_ML RX10 200 yX6_peopleAt := Or.inr ⟨_, g_inN (g_m5 (List.mem_of_getElem? (i := 46) rfl)) rfl⟩
theorem ml_L_152 : g_ML RL 152 yL_road := Or.inl (g_in (g_m5 (List.mem_of_getElem? (i := 47) rfl)) rfl)
theorem ml_L_24 : g_ML RL 24 yX10_road := Or.inl (g_in (g_m5 (List.mem_of_getElem? (i := 50) rfl)) rfl)
theorem ml_X10_210 : g_ML RX10 210 yX10_needRoad := Or.inl (g_in (g_m5 (List.mem_of_getElem? (i := 54) rfl)) rfl)
theorem ml_X10_213 : g_ML RX10 213 yX6_leads := Or.inr ⟨_, g_inN (g_m5 (List.mem_of_getElem? (i := 59) rfl)) rfl⟩
theorem ml_X10_217 : g_ML RX10 217 yX2_isShut := Or.inr ⟨_, g_inN (g_m5 (List.mem_of_getElem? (i := 60) rfl)) rfl⟩
theorem ml_L_156 : g_ML RL 156 yL_person := Or.inl (g_in (g_m5 (List.mem_of_getElem? (i := 61) rfl)) rfl)
theorem ml_L_28 : g_ML RL 28 yX10_person := Or.inl (g_in (g_m5 (List.mem_of_getElem? (i := 64) rfl)) rfl)
theorem ml_X10_221 : g_ML RX10 221 yX10_needPerson := Or.inl (g_in (g_m5 (List.mem_of_getElem? (i := 68) rfl)) rfl)
theorem ml_X10_233 : g_ML RX10 233 yX10_bedOf := Or.inl (g_in (g_m5 (List.mem_of_getElem? (i := 73) rfl)) rfl)
theorem ml_X10_239 : g_ML RX10 239 yX9_lodge := Or.inr ⟨_, g_inN (g_m5 (List.mem_of_getElem? (i := 77) rfl)) rfl⟩
theorem ml_X9_123 : g_ML RX9 123 yX9_allBeds := Or.inl (g_in (g_m5 (List.mem_of_getElem? (i := 81) rfl)) rfl)
theorem ml_X9_127 : g_ML RX9 127 yX9_lodging := Or.inl (g_in (g_m5 (List.mem_of_getElem? (i := 85) rfl)) rfl)
theorem ml_X9_130 : g_ML RX9 130 yX9_bestBed := Or.inl (g_in (g_m5 (List.mem_of_getElem? (i := 88) rfl)) rfl)
theorem ml_X9_133 : g_ML RX9 133 yX9_worth := Or.inl (g_in (g_m5 (List.mem_of_getElem? (i := 92) rfl)) rfl)
theorem ml_X9_149 : g_ML RX9 149 yX9_canSleep := Or.inl (g_in (g_m5 (List.mem_of_getElem? (i := 96) rfl)) rfl)
theorem ml_X9_137 : g_ML RX9 137 yX9_takeBeds := Or.inl (g_in (g_m5 (List.mem_of_getElem? (i := 100) rfl)) rfl)
theorem ml_X10_236 : g_ML RX10 236 yX6_others := Or.inr ⟨_, g_inN (g_m5 (List.mem_of_getElem? (i := 104) rfl)) rfl⟩
theorem ml_X6_70 : g_ML RX6 70 yX6_peopleAt := Or.inl (g_in (g_m5 (List.mem_of_getElem? (i := 108) rfl)) rfl)
theorem ml_X6_74 : g_ML RX6 74 yJ6_bitCount_0f7a4 := Or.inl (g_in (g_m5 (List.mem_of_getElem? (i := 109) rfl)) rfl)
theorem ml_L_163 : g_ML RL 163 yL_turn := Or.inl (g_in (g_m5 (List.mem_of_getElem? (i := 110) rfl)) rfl)
theorem ml_L_31 : g_ML RL 31 yX10_turn := Or.inl (g_in (g_m5 (List.mem_of_getElem? (i := 113) rfl)) rfl)
theorem ml_L_166 : g_ML RL 166 yL_shut := Or.inl (g_in (g_m5 (List.mem_of_getElem? (i := 117) rfl)) rfl)
theorem ml_L_34 : g_ML RL 34 yX10_shut := Or.inl (g_in (g_m5 (List.mem_of_getElem? (i := 120) rfl)) rfl)
theorem ml_L_170 : g_ML RL 170 yL_fill := Or.inl (g_in (g_m5 (List.mem_of_getElem? (i := 124) rfl)) rfl)
theorem ml_L_38 : g_ML RL 38 yX10_fill := Or.inl (g_in (g_m5 (List.mem_of_getElem? (i := 127) rfl)) rfl)
theorem ml_L_173 : g_ML RL 173 yL_set := Or.inl (g_in (g_m5 (List.mem_of_getElem? (i := 131) rfl)) rfl)
theorem ml_L_41 : g_ML RL 41 yX10_set := Or.inl (g_in (g_m5 (List.mem_of_getElem? (i := 134) rfl)) rfl)
theorem ml_L_180 : g_ML RL 180 yL_then := Or.inl (g_in (g_m5 (List.mem_of_getElem? (i := 138) rfl)) rfl)
theorem ml_L_44 : g_ML RL 44 yX10_then := Or.inl (g_in (g_m5 (List.mem_of_getElem? (i := 141) rfl)) rfl)
theorem ml_X10_270 : g_ML RX10 270 yX10_needDays := Or.inl (g_in (g_m5 (List.mem_of_getElem? (i := 145) rfl)) rfl)
theorem ml_L_183 : g_ML RL 183 yL_points := Or.inl (g_in (g_m5 (List.mem_of_getElem? (i := 149) rfl)) rfl)
theorem ml_L_47 : g_ML RL 47 yX10_points := Or.inl (g_in (g_m5 (List.mem_of_getElem? (i := 152) rfl)) rfl)
theorem ml_L_186 : g_ML RL 186 yL_comes := Or.inl (g_in (g_m5 (List.mem_of_getElem? (i := 156) rfl)) rfl)
theorem ml_L_50 : g_ML RL 50 yX10_comes := Or.inl (g_in (g_m5 (List.mem_of_getElem? (i := 159) rfl)) rfl)
theorem ml_L_189 : g_ML RL 189 yL_meet := Or.inl (g_in (g_m5 (List.mem_of_getElem? (i := 163) rfl)) rfl)
theorem ml_L_53 : g_ML RL 53 yX10_meet := Or.inl (g_in (g_m5 (List.mem_of_getElem? (i := 166) rfl)) rfl)
theorem ml_X10_281 : g_ML RX10 281 yX8_areTogether := Or.inr ⟨_, g_inN (g_m5 (List.mem_of_getElem? (i := 170) rfl)) rfl⟩
theorem ml_L_192 : g_ML RL 192 yL_gone := Or.inl (g_in (g_m5 (List.mem_of_getElem? (i := 174) rfl)) rfl)
theorem ml_L_56 : g_ML RL 56 yX10_gone := Or.inl (g_in (g_m5 (List.mem_of_getElem? (i := 177) rfl)) rfl)
theorem ml_X10_287 : g_ML RX10 287 yX6_roadIndex := Or.inr ⟨_, g_inN (g_m5 (List.mem_of_getElem? (i := 181) rfl)) rfl⟩
theorem ml_L_195 : g_ML RL 195 yL_later := Or.inl (g_in (g_m5 (List.mem_of_getElem? (i := 182) rfl)) rfl)
theorem ml_L_59 : g_ML RL 59 yX10_later := Or.inl (g_in (g_m5 (List.mem_of_getElem? (i := 185) rfl)) rfl)
theorem ml_X10_290 : g_ML RX10 290 yX10_homeAfter := Or.inl (g_in (g_m5 (List.mem_of_getElem? (i := 189) rfl)) rfl)
theorem ml_X10_293 : g_ML RX10 293 yX10_poorest := Or.inl (g_in (g_m5 (List.mem_of_getElem? (i := 193) rfl)) rfl)
theorem ml_X10_296 : g_ML RX10 296 yX10_busiest := Or.inl (g_in (g_m5 (List.mem_of_getElem? (i := 197) rfl)) rfl)
theorem ml_X10_302 : g_ML RX10 302 yJ7_fill_53178 := Or.inl (g_in (g_m5 (List.mem_of_getElem? (i := 201) rfl)) rfl)
theorem ml_X10_299 : g_ML RX10 299 yX10_stuck := Or.inl (g_in (g_m5 (List.mem_of_getElem? (i := 202) rfl)) rfl)
theorem ml_L_202 : g_ML RL 202 yL_way := Or.inl (g_in (g_m5 (List.mem_of_getElem? (i := 206) rfl)) rfl)
theorem ml_L_62 : g_ML RL 62 yX10_way := Or.inl (g_in (g_m5 (List.mem_of_getElem? (i := 209) rfl)) rfl)
theorem ml_X10_376 : g_ML RX10 376 yX9_farFrom := Or.inr ⟨_, g_inN (g_m5 (List.mem_of_getElem? (i := 213) rfl)) rfl⟩
theorem ml_X10_379 : g_ML RX10 379 yX9_costFrom := Or.inr ⟨_, g_inN (g_m5 (List.mem_of_getElem? (i := 214) rfl)) rfl⟩
theorem ml_X10_382 : g_ML RX10 382 yX10_orNone := Or.inl (g_in (g_m5 (List.mem_of_getElem? (i := 215) rfl)) rfl)
theorem ml_L_205 : g_ML RL 205 yL_best := Or.inl (g_in (g_m5 (List.mem_of_getElem? (i := 218) rfl)) rfl)
theorem ml_L_65 : g_ML RL 65 yX10_best := Or.inl (g_in (g_m5 (List.mem_of_getElem? (i := 221) rfl)) rfl)
theorem ml_X10_324 : g_ML RX10 324 yX8_daysToHome := Or.inr ⟨_, g_inN (g_m5 (List.mem_of_getElem? (i := 225) rfl)) rfl⟩
theorem ml_X10_327 : g_ML RX10 327 yX10_daysByTurn := Or.inl (g_in (g_m5 (List.mem_of_getElem? (i := 229) rfl)) rfl)
theorem ml_L_208 : g_ML RL 208 yL_lodged := Or.inl (g_in (g_m5 (List.mem_of_getElem? (i := 233) rfl)) rfl)
theorem ml_L_68 : g_ML RL 68 yX10_lodged := Or.inl (g_in (g_m5 (List.mem_of_getElem? (i := 236) rfl)) rfl)
theorem ml_L_211 : g_ML RL 211 yL_see := Or.inl (g_in (g_m6 (List.mem_of_getElem? (i := 0) rfl)) rfl)
theorem ml_L_71 : g_ML RL 71 yX10_see := Or.inl (g_in (g_m6 (List.mem_of_getElem? (i := 3) rfl)) rfl)
theorem ml_X10_335 : g_ML RX10 335 yX5_add := Or.inr ⟨_, g_inN (g_m6 (List.mem_of_getElem? (i := 7) rfl)) rfl⟩
theorem ml_L_218 : g_ML RL 218 yL_turned := Or.inl (g_in (g_m6 (List.mem_of_getElem? (i := 11) rfl)) rfl)
theorem ml_L_74 : g_ML RL 74 yX10_turned := Or.inl (g_in (g_m6 (List.mem_of_getElem? (i := 14) rfl)) rfl)
theorem ml_X10_338 : g_ML RX10 338 yX5_isSo := Or.inr ⟨_, g_inN (g_m6 (List.mem_of_getElem? (i := 18) rfl)) rfl⟩
theorem ml_X5_31 : g_ML RX5 31 yX5_lastDay := Or.inl (g_in (g_m6 (List.mem_of_getElem? (i := 22) rfl)) rfl)
theorem ml_X5_49 : g_ML RX5 49 yJ9_max_7cf53 := Or.inl (g_in (g_m6 (List.mem_of_getElem? (i := 26) rfl)) rfl)
theorem ml_X5_41 : g_ML RX5 41 yX5_isSoOn := Or.inl (g_in (g_m6 (List.mem_of_getElem? (i := 27) rfl)) rfl)
theorem ml_X5_45 : g_ML RX5 45 yX8_goDay := Or.inr ⟨_, g_inN (g_m6 (List.mem_of_getElem? (i := 31) rfl)) rfl⟩
theorem ml_X10_342 : g_ML RX10 342 yX10_couldBeTurned := Or.inl (g_in (g_m6 (List.mem_of_getElem? (i := 32) rfl)) rfl)
theorem ml_L_221 : g_ML RL 221 yL_look := Or.inl (g_in (g_m6 (List.mem_of_getElem? (i := 36) rfl)) rfl)
theorem ml_L_77 : g_ML RL 77 yX10_look := Or.inl (g_in (g_m6 (List.mem_of_getElem? (i := 39) rfl)) rfl)
theorem ml_X10_345 : g_ML RX10 345 yX10_addPlaces := Or.inl (g_in (g_m6 (List.mem_of_getElem? (i := 43) rfl)) rfl)
theorem ml_L_224 : g_ML RL 224 yL_wind := Or.inl (g_in (g_m6 (List.mem_of_getElem? (i := 47) rfl)) rfl)
theorem ml_L_80 : g_ML RL 80 yX10_wind := Or.inl (g_in (g_m6 (List.mem_of_getElem? (i := 50) rfl)) rfl)
theorem ml_X10_350 : g_ML RX10 350 yX10_isHomeByWind := Or.inl (g_in (g_m6 (List.mem_of_getElem? (i := 55) rfl)) rfl)
theorem ml_L_227 : g_ML RL 227 yL_game := Or.inl (g_in (g_m6 (List.mem_of_getElem? (i := 59) rfl)) rfl)
theorem ml_L_83 : g_ML RL 83 yX10_game := Or.inl (g_in (g_m6 (List.mem_of_getElem? (i := 62) rfl)) rfl)
theorem ml_X10_355 : g_ML RX10 355 yX10_play := Or.inl (g_in (g_m6 (List.mem_of_getElem? (i := 67) rfl)) rfl)
theorem ml_X10_361 : g_ML RX10 361 yX8_turnOn := Or.inr ⟨_, g_inN (g_m6 (List.mem_of_getElem? (i := 71) rfl)) rfl⟩
theorem ml_X10_358 : g_ML RX10 358 yX10_rests := Or.inl (g_in (g_m6 (List.mem_of_getElem? (i := 72) rfl)) rfl)
theorem ml_L_230 : g_ML RL 230 yL_years := Or.inl (g_in (g_m6 (List.mem_of_getElem? (i := 76) rfl)) rfl)
theorem ml_L_86 : g_ML RL 86 yX10_years := Or.inl (g_in (g_m6 (List.mem_of_getElem? (i := 79) rfl)) rfl)
theorem ml_X10_367 : g_ML RX10 367 yX10_drawAhead := Or.inl (g_in (g_m6 (List.mem_of_getElem? (i := 83) rfl)) rfl)
theorem ml_X10_373 : g_ML RX10 373 yX1_next := Or.inr ⟨_, g_inN (g_m6 (List.mem_of_getElem? (i := 87) rfl)) rfl⟩
theorem ml_X10_370 : g_ML RX10 370 yX8_allSteps := Or.inr ⟨_, g_inN (g_m6 (List.mem_of_getElem? (i := 92) rfl)) rfl⟩
theorem ml_L_237 : g_ML RL 237 yL_visited := Or.inl (g_in (g_m6 (List.mem_of_getElem? (i := 96) rfl)) rfl)
theorem ml_L_89 : g_ML RL 89 yX10_visited := Or.inl (g_in (g_m6 (List.mem_of_getElem? (i := 99) rfl)) rfl)
theorem ml_L_240 : g_ML RL 240 yL_uneven := Or.inl (g_in (g_m6 (List.mem_of_getElem? (i := 103) rfl)) rfl)
theorem ml_L_92 : g_ML RL 92 yX10_uneven := Or.inl (g_in (g_m6 (List.mem_of_getElem? (i := 106) rfl)) rfl)
theorem ml_X10_316 : g_ML RX10 316 yJ9_max_7cf53 := Or.inl (g_in (g_m6 (List.mem_of_getElem? (i := 110) rfl)) rfl)
theorem ml_X10_321 : g_ML RX10 321 yJ9_min_7cf53 := Or.inl (g_in (g_m6 (List.mem_of_getElem? (i := 111) rfl)) rfl)
theorem ml_L_243 : g_ML RL 243 yL_together := Or.inl (g_in (g_m6 (List.mem_of_getElem? (i := 112) rfl)) rfl)
theorem ml_L_95 : g_ML RL 95 yX10_together := Or.inl (g_in (g_m6 (List.mem_of_getElem? (i := 115) rfl)) rfl)
theorem ml_L_246 : g_ML RL 246 yL_taken := Or.inl (g_in (g_m6 (List.mem_of_getElem? (i := 119) rfl)) rfl)
theorem ml_L_98 : g_ML RL 98 yX10_taken := Or.inl (g_in (g_m6 (List.mem_of_getElem? (i := 122) rfl)) rfl)
theorem ml_L_249 : g_ML RL 249 yL_covered := Or.inl (g_in (g_m6 (List.mem_of_getElem? (i := 126) rfl)) rfl)
theorem ml_L_101 : g_ML RL 101 yX10_covered := Or.inl (g_in (g_m6 (List.mem_of_getElem? (i := 129) rfl)) rfl)
theorem ml_L_252 : g_ML RL 252 yL_parting := Or.inl (g_in (g_m6 (List.mem_of_getElem? (i := 133) rfl)) rfl)
theorem ml_L_104 : g_ML RL 104 yX10_parting := Or.inl (g_in (g_m6 (List.mem_of_getElem? (i := 136) rfl)) rfl)
theorem ml_L_255 : g_ML RL 255 yL_purse := Or.inl (g_in (g_m6 (List.mem_of_getElem? (i := 140) rfl)) rfl)
theorem ml_L_107 : g_ML RL 107 yX10_purse := Or.inl (g_in (g_m6 (List.mem_of_getElem? (i := 143) rfl)) rfl)
theorem ml_L_258 : g_ML RL 258 yL_cuts := Or.inl (g_in (g_m6 (List.mem_of_getElem? (i := 147) rfl)) rfl)
theorem ml_L_110 : g_ML RL 110 yX10_cuts := Or.inl (g_in (g_m6 (List.mem_of_getElem? (i := 150) rfl)) rfl)
theorem ml_X10_331 : g_ML RX10 331 yX10_isCut := Or.inl (g_in (g_m6 (List.mem_of_getElem? (i := 154) rfl)) rfl)
theorem ml_L_261 : g_ML RL 261 yL_gather := Or.inl (g_in (g_m6 (List.mem_of_getElem? (i := 158) rfl)) rfl)
theorem ml_L_113 : g_ML RL 113 yX10_gather := Or.inl (g_in (g_m6 (List.mem_of_getElem? (i := 161) rfl)) rfl)
theorem ml_X10_391 : g_ML RX10 391 yX9_comers := Or.inr ⟨_, g_inN (g_m6 (List.mem_of_getElem? (i := 165) rfl)) rfl⟩
theorem ml_X10_394 : g_ML RX10 394 yX9_comersCost := Or.inr ⟨_, g_inN (g_m6 (List.mem_of_getElem? (i := 169) rfl)) rfl⟩
theorem ml_L_264 : g_ML RL 264 yL_walk := Or.inl (g_in (g_m6 (List.mem_of_getElem? (i := 173) rfl)) rfl)
theorem ml_L_116 : g_ML RL 116 yX10_walk := Or.inl (g_in (g_m6 (List.mem_of_getElem? (i := 176) rfl)) rfl)
theorem ml_X10_397 : g_ML RX10 397 yX9_loop := Or.inr ⟨_, g_inN (g_m6 (List.mem_of_getElem? (i := 180) rfl)) rfl⟩
theorem ml_X10_400 : g_ML RX10 400 yX9_longest := Or.inr ⟨_, g_inN (g_m6 (List.mem_of_getElem? (i := 184) rfl)) rfl⟩
theorem ml_X9_114 : g_ML RX9 114 yJ9_max_7cf53 := Or.inl (g_in (g_m6 (List.mem_of_getElem? (i := 188) rfl)) rfl)
theorem ml_X9_117 : g_ML RX9 117 yX9_walkOn := Or.inl (g_in (g_m6 (List.mem_of_getElem? (i := 189) rfl)) rfl)
theorem ml_L_267 : g_ML RL 267 yL_tour := Or.inl (g_in (g_m6 (List.mem_of_getElem? (i := 193) rfl)) rfl)
theorem ml_L_119 : g_ML RL 119 yX10_tour := Or.inl (g_in (g_m6 (List.mem_of_getElem? (i := 196) rfl)) rfl)
theorem ml_X10_411 : g_ML RX10 411 yX9_planTour := Or.inr ⟨_, g_inN (g_m6 (List.mem_of_getElem? (i := 201) rfl)) rfl⟩
theorem ml_X9_153 : g_ML RX9 153 yX9_stage := Or.inl (g_in (g_m6 (List.mem_of_getElem? (i := 205) rfl)) rfl)
theorem ml_X9_156 : g_ML RX9 156 yX9_nextStop := Or.inl (g_in (g_m6 (List.mem_of_getElem? (i := 208) rfl)) rfl)
theorem ml_X9_159 : g_ML RX9 159 yX9_costOn := Or.inl (g_in (g_m6 (List.mem_of_getElem? (i := 212) rfl)) rfl)
theorem ml_X10_414 : g_ML RX10 414 yX9_tourStop := Or.inr ⟨_, g_inN (g_m6 (List.mem_of_getElem? (i := 216) rfl)) rfl⟩
theorem ml_L_125 : g_ML RL 125 yX11_init := Or.inl (g_in (g_m6 (List.mem_of_getElem? (i := 222) rfl)) rfl)
theorem ml_L_137 : g_ML RL 137 yX11_thrown := Or.inl (g_in (g_m7 (List.mem_of_getElem? (i := 195) rfl)) rfl)
theorem ml_L_130 : g_ML RL 130 yX11_feed := Or.inl (g_in (g_m7 (List.mem_of_getElem? (i := 199) rfl)) rfl)
theorem ml_X11_138 : g_ML RX11 138 yX11_lays := Or.inl (g_in (g_m7 (List.mem_of_getElem? (i := 203) rfl)) rfl)
theorem ml_L_136 : g_ML RL 136 yX11_shire := Or.inl (g_in (g_m7 (List.mem_of_getElem? (i := 207) rfl)) rfl)
theorem ml_X11_295 : g_ML RX11 295 yX11_right := Or.inl (g_in (g_m7 (List.mem_of_getElem? (i := 211) rfl)) rfl)
theorem ml_X11_195 : g_ML RX11 195 yX11_goes := Or.inl (g_in (g_m7 (List.mem_of_getElem? (i := 215) rfl)) rfl)
theorem ml_X11_148 : g_ML RX11 148 yX11_byteAt := Or.inl (g_in (g_m7 (List.mem_of_getElem? (i := 219) rfl)) rfl)
theorem ml_X11_168 : g_ML RX11 168 yX11_isLetter := Or.inl (g_in (g_m7 (List.mem_of_getElem? (i := 223) rfl)) rfl)
theorem ml_X11_172 : g_ML RX11 172 yX11_isDigit := Or.inl (g_in (g_m7 (List.mem_of_getElem? (i := 226) rfl)) rfl)
theorem ml_X11_191 : g_ML RX11 191 yX11_isGood := Or.inl (g_in (g_m7 (List.mem_of_getElem? (i := 229) rfl)) rfl)
theorem ml_X11_299 : g_ML RX11 299 yX11_line := Or.inl (g_in (g_m7 (List.mem_of_getElem? (i := 233) rfl)) rfl)
theorem ml_X11_216 : g_ML RX11 216 yX11_knownWord := Or.inl (g_in (g_m7 (List.mem_of_getElem? (i := 237) rfl)) rfl)
theorem ml_X11_184 : g_ML RX11 184 yX11_letters := Or.inl (g_in (g_m8 (List.mem_of_getElem? (i := 1) rfl)) rfl)
theorem ml_X11_180 : g_ML RX11 180 yX11_spelled := Or.inl (g_in (g_m8 (List.mem_of_getElem? (i := 4) rfl)) rfl)
theorem ml_X11_267 : g_ML RX11 267 yX11_begins := Or.inl (g_in (g_m8 (List.mem_of_getElem? (i := 8) rfl)) rfl)
theorem ml_X11_198 : g_ML RX11 198 yX11_wrong := Or.inl (g_in (g_m8 (List.mem_of_getElem? (i := 12) rfl)) rfl)
theorem ml_X11_271 : g_ML RX11 271 yX11_readsCrossing := Or.inl (g_in (g_m8 (List.mem_of_getElem? (i := 16) rfl)) rfl)
theorem ml_X11_257 : g_ML RX11 257 yX11_number := Or.inl (g_in (g_m8 (List.mem_of_getElem? (i := 20) rfl)) rfl)
theorem ml_X11_274 : g_ML RX11 274 yX11_readsRoad := Or.inl (g_in (g_m8 (List.mem_of_getElem? (i := 24) rfl)) rfl)
theorem ml_X11_261 : g_ML RX11 261 yX11_isOneOf := Or.inl (g_in (g_m8 (List.mem_of_getElem? (i := 28) rfl)) rfl)
theorem ml_X11_277 : g_ML RX11 277 yX11_readsPerson := Or.inl (g_in (g_m8 (List.mem_of_getElem? (i := 32) rfl)) rfl)
theorem ml_X11_280 : g_ML RX11 280 yX11_readsArm := Or.inl (g_in (g_m8 (List.mem_of_getElem? (i := 36) rfl)) rfl)
theorem ml_X11_286 : g_ML RX11 286 yX11_expression := Or.inl (g_in (g_m8 (List.mem_of_getElem? (i := 40) rfl)) rfl)
theorem ml_X11_235 : g_ML RX11 235 yX11_deeper := Or.inl (g_in (g_m8 (List.mem_of_getElem? (i := 44) rfl)) rfl)
theorem ml_X11_229 : g_ML RX11 229 yX11_isSign := Or.inl (g_in (g_m8 (List.mem_of_getElem? (i := 48) rfl)) rfl)
theorem ml_X11_244 : g_ML RX11 244 yX11_operand := Or.inl (g_in (g_m8 (List.mem_of_getElem? (i := 52) rfl)) rfl)
theorem ml_X11_232 : g_ML RX11 232 yX11_waitsFor := Or.inl (g_in (g_m8 (List.mem_of_getElem? (i := 56) rfl)) rfl)
theorem ml_X11_238 : g_ML RX11 238 yX11_part := Or.inl (g_in (g_m8 (List.mem_of_getElem? (i := 60) rfl)) rfl)
theorem ml_X11_213 : g_ML RX11 213 yX11_puts := Or.inl (g_in (g_m8 (List.mem_of_getElem? (i := 64) rfl)) rfl)
theorem ml_X11_241 : g_ML RX11 241 yX11_drops := Or.inl (g_in (g_m8 (List.mem_of_getElem? (i := 68) rfl)) rfl)
theorem ml_X11_207 : g_ML RX11 207 yX11_isOpen := Or.inl (g_in (g_m8 (List.mem_of_getElem? (i := 72) rfl)) rfl)
theorem ml_X11_210 : g_ML RX11 210 yX11_strength := Or.inl (g_in (g_m8 (List.mem_of_getElem? (i := 75) rfl)) rfl)
theorem ml_X11_248 : g_ML RX11 248 yX11_isOpened := Or.inl (g_in (g_m8 (List.mem_of_getElem? (i := 78) rfl)) rfl)
theorem ml_X11_251 : g_ML RX11 251 yX11_closes := Or.inl (g_in (g_m8 (List.mem_of_getElem? (i := 82) rfl)) rfl)
theorem ml_X11_292 : g_ML RX11 292 yX11_need := Or.inl (g_in (g_m8 (List.mem_of_getElem? (i := 86) rfl)) rfl)
theorem ml_X11_308 : g_ML RX11 308 yX11_copies := Or.inl (g_in (g_m8 (List.mem_of_getElem? (i := 90) rfl)) rfl)
theorem ml_L_144 : g_ML RL 144 yX11_fault := Or.inl (g_in (g_m8 (List.mem_of_getElem? (i := 94) rfl)) rfl)
theorem ml_L_179 : g_ML RL 179 yX11_undo := Or.inl (g_in (g_m8 (List.mem_of_getElem? (i := 98) rfl)) rfl)
theorem ml_L_147 : g_ML RL 147 yX11_count := Or.inl (g_in (g_m8 (List.mem_of_getElem? (i := 102) rfl)) rfl)
theorem ml_X11_374 : g_ML RX11 374 yX11_within := Or.inl (g_in (g_m8 (List.mem_of_getElem? (i := 106) rfl)) rfl)
theorem ml_X11_377 : g_ML RX11 377 yX11_roadsAll := Or.inl (g_in (g_m8 (List.mem_of_getElem? (i := 109) rfl)) rfl)
theorem ml_X11_338 : g_ML RX11 338 yX11_isShut := Or.inl (g_in (g_m8 (List.mem_of_getElem? (i := 113) rfl)) rfl)
theorem ml_X11_381 : g_ML RX11 381 yX11_homeOnes := Or.inl (g_in (g_m8 (List.mem_of_getElem? (i := 117) rfl)) rfl)
theorem ml_X11_345 : g_ML RX11 345 yX11_isHome := Or.inl (g_in (g_m8 (List.mem_of_getElem? (i := 121) rfl)) rfl)
theorem ml_X11_384 : g_ML RX11 384 yX11_parts := Or.inl (g_in (g_m8 (List.mem_of_getElem? (i := 125) rfl)) rfl)
theorem ml_X11_365 : g_ML RX11 365 yX11_laysWays := Or.inl (g_in (g_m8 (List.mem_of_getElem? (i := 129) rfl)) rfl)
theorem ml_X11_362 : g_ML RX11 362 yX11_lesser := Or.inl (g_in (g_m8 (List.mem_of_getElem? (i := 133) rfl)) rfl)
theorem ml_X11_368 : g_ML RX11 368 yX11_partOf := Or.inl (g_in (g_m8 (List.mem_of_getElem? (i := 136) rfl)) rfl)
theorem ml_X11_387 : g_ML RX11 387 yX11_watched := Or.inl (g_in (g_m8 (List.mem_of_getElem? (i := 140) rfl)) rfl)
theorem ml_X11_329 : g_ML RX11 329 yX11_bits := Or.inl (g_in (g_m8 (List.mem_of_getElem? (i := 144) rfl)) rfl)
theorem ml_X11_371 : g_ML RX11 371 yX11_isWatched := Or.inl (g_in (g_m8 (List.mem_of_getElem? (i := 147) rfl)) rfl)
theorem ml_X11_390 : g_ML RX11 390 yX11_purses := Or.inl (g_in (g_m8 (List.mem_of_getElem? (i := 151) rfl)) rfl)
theorem ml_L_151 : g_ML RL 151 yX11_crossing := Or.inl (g_in (g_m8 (List.mem_of_getElem? (i := 155) rfl)) rfl)
theorem ml_X11_393 : g_ML RX11 393 yX11_isCrossing := Or.inl (g_in (g_m8 (List.mem_of_getElem? (i := 159) rfl)) rfl)
theorem ml_X11_396 : g_ML RX11 396 yX11_isWhat := Or.inl (g_in (g_m8 (List.mem_of_getElem? (i := 163) rfl)) rfl)
theorem ml_X11_326 : g_ML RX11 326 yX11_standAt := Or.inl (g_in (g_m8 (List.mem_of_getElem? (i := 167) rfl)) rfl)
theorem ml_X11_399 : g_ML RX11 399 yX11_reachedFrom := Or.inl (g_in (g_m8 (List.mem_of_getElem? (i := 171) rfl)) rfl)
theorem ml_L_155 : g_ML RL 155 yX11_road := Or.inl (g_in (g_m8 (List.mem_of_getElem? (i := 175) rfl)) rfl)
theorem ml_X11_402 : g_ML RX11 402 yX11_isRoad := Or.inl (g_in (g_m8 (List.mem_of_getElem? (i := 179) rfl)) rfl)
theorem ml_L_158 : g_ML RL 158 yX11_person := Or.inl (g_in (g_m8 (List.mem_of_getElem? (i := 183) rfl)) rfl)
theorem ml_X11_405 : g_ML RX11 405 yX11_isPerson := Or.inl (g_in (g_m8 (List.mem_of_getElem? (i := 187) rfl)) rfl)
theorem ml_X11_408 : g_ML RX11 408 yX11_bedOf := Or.inl (g_in (g_m8 (List.mem_of_getElem? (i := 191) rfl)) rfl)
theorem ml_X11_444 : g_ML RX11 444 yX11_laysBeds := Or.inl (g_in (g_m8 (List.mem_of_getElem? (i := 195) rfl)) rfl)
theorem ml_X11_438 : g_ML RX11 438 yX11_canLie := Or.inl (g_in (g_m8 (List.mem_of_getElem? (i := 199) rfl)) rfl)
theorem ml_X11_441 : g_ML RX11 441 yX11_lies := Or.inl (g_in (g_m8 (List.mem_of_getElem? (i := 203) rfl)) rfl)
theorem ml_L_162 : g_ML RL 162 yX11_days := Or.inl (g_in (g_m8 (List.mem_of_getElem? (i := 207) rfl)) rfl)
theorem ml_X11_411 : g_ML RX11 411 yX11_refuses := Or.inl (g_in (g_m8 (List.mem_of_getElem? (i := 211) rfl)) rfl)
theorem ml_X11_414 : g_ML RX11 414 yX11_keeps := Or.inl (g_in (g_m8 (List.mem_of_getElem? (i := 215) rfl)) rfl)
theorem ml_X11_353 : g_ML RX11 353 yX11_dayGoes := Or.inl (g_in (g_m8 (List.mem_of_getElem? (i := 219) rfl)) rfl)
theorem ml_X11_349 : g_ML RX11 349 yX11_personGoes := Or.inl (g_in (g_m8 (List.mem_of_getElem? (i := 223) rfl)) rfl)
theorem ml_X11_332 : g_ML RX11 332 yX11_reckons := Or.inl (g_in (g_m8 (List.mem_of_getElem? (i := 227) rfl)) rfl)
theorem ml_X11_322 : g_ML RX11 322 yX11_works := Or.inl (g_in (g_m8 (List.mem_of_getElem? (i := 231) rfl)) rfl)
theorem ml_X11_335 : g_ML RX11 335 yX11_bounded := Or.inl (g_in (g_m8 (List.mem_of_getElem? (i := 234) rfl)) rfl)
theorem ml_L_165 : g_ML RL 165 yX11_turn := Or.inl (g_in (g_m8 (List.mem_of_getElem? (i := 237) rfl)) rfl)
theorem ml_L_169 : g_ML RL 169 yX11_shut := Or.inl (g_in (g_m9 (List.mem_of_getElem? (i := 1) rfl)) rfl)
theorem ml_L_172 : g_ML RL 172 yX11_fill := Or.inl (g_in (g_m9 (List.mem_of_getElem? (i := 5) rfl)) rfl)
theorem ml_L_175 : g_ML RL 175 yX11_set := Or.inl (g_in (g_m9 (List.mem_of_getElem? (i := 9) rfl)) rfl)
theorem ml_L_182 : g_ML RL 182 yX11_then := Or.inl (g_in (g_m9 (List.mem_of_getElem? (i := 13) rfl)) rfl)
theorem ml_X11_417 : g_ML RX11 417 yX11_isSoon := Or.inl (g_in (g_m9 (List.mem_of_getElem? (i := 17) rfl)) rfl)
theorem ml_X11_420 : g_ML RX11 420 yX11_goesTo := Or.inl (g_in (g_m9 (List.mem_of_getElem? (i := 21) rfl)) rfl)
theorem ml_X11_356 : g_ML RX11 356 yX11_tries := Or.inl (g_in (g_m9 (List.mem_of_getElem? (i := 25) rfl)) rfl)
theorem ml_X11_359 : g_ML RX11 359 yX11_daysGo := Or.inl (g_in (g_m9 (List.mem_of_getElem? (i := 29) rfl)) rfl)
theorem ml_L_185 : g_ML RL 185 yX11_points := Or.inl (g_in (g_m9 (List.mem_of_getElem? (i := 33) rfl)) rfl)
theorem ml_L_188 : g_ML RL 188 yX11_comes := Or.inl (g_in (g_m9 (List.mem_of_getElem? (i := 37) rfl)) rfl)
theorem ml_L_191 : g_ML RL 191 yX11_meet := Or.inl (g_in (g_m9 (List.mem_of_getElem? (i := 41) rfl)) rfl)
theorem ml_X11_423 : g_ML RX11 423 yX11_areBoth := Or.inl (g_in (g_m9 (List.mem_of_getElem? (i := 45) rfl)) rfl)
theorem ml_L_254 : g_ML RL 254 yX11_parting := Or.inl (g_in (g_m9 (List.mem_of_getElem? (i := 49) rfl)) rfl)
theorem ml_L_245 : g_ML RL 245 yX11_together := Or.inl (g_in (g_m9 (List.mem_of_getElem? (i := 53) rfl)) rfl)
theorem ml_L_194 : g_ML RL 194 yX11_gone := Or.inl (g_in (g_m9 (List.mem_of_getElem? (i := 57) rfl)) rfl)
theorem ml_L_248 : g_ML RL 248 yX11_taken := Or.inl (g_in (g_m9 (List.mem_of_getElem? (i := 61) rfl)) rfl)
theorem ml_L_242 : g_ML RL 242 yX11_uneven := Or.inl (g_in (g_m9 (List.mem_of_getElem? (i := 65) rfl)) rfl)
theorem ml_L_239 : g_ML RL 239 yX11_visited := Or.inl (g_in (g_m9 (List.mem_of_getElem? (i := 69) rfl)) rfl)
theorem ml_L_251 : g_ML RL 251 yX11_covered := Or.inl (g_in (g_m9 (List.mem_of_getElem? (i := 73) rfl)) rfl)
theorem ml_L_197 : g_ML RL 197 yX11_later := Or.inl (g_in (g_m9 (List.mem_of_getElem? (i := 77) rfl)) rfl)
theorem ml_X11_426 : g_ML RX11 426 yX11_busiest := Or.inl (g_in (g_m9 (List.mem_of_getElem? (i := 81) rfl)) rfl)
theorem ml_X11_429 : g_ML RX11 429 yX11_stuck := Or.inl (g_in (g_m9 (List.mem_of_getElem? (i := 85) rfl)) rfl)
theorem ml_L_201 : g_ML RL 201 yX11_round := Or.inl (g_in (g_m9 (List.mem_of_getElem? (i := 89) rfl)) rfl)
theorem ml_X11_432 : g_ML RX11 432 yX11_isAsNow := Or.inl (g_in (g_m9 (List.mem_of_getElem? (i := 93) rfl)) rfl)
theorem ml_L_236 : g_ML RL 236 yX11_first := Or.inl (g_in (g_m9 (List.mem_of_getElem? (i := 97) rfl)) rfl)
theorem ml_L_207 : g_ML RL 207 yX11_best := Or.inl (g_in (g_m9 (List.mem_of_getElem? (i := 101) rfl)) rfl)
theorem ml_X11_435 : g_ML RX11 435 yX11_homeIn := Or.inl (g_in (g_m9 (List.mem_of_getElem? (i := 105) rfl)) rfl)
theorem ml_L_257 : g_ML RL 257 yX11_purse := Or.inl (g_in (g_m9 (List.mem_of_getElem? (i := 109) rfl)) rfl)
theorem ml_L_260 : g_ML RL 260 yX11_cuts := Or.inl (g_in (g_m9 (List.mem_of_getElem? (i := 113) rfl)) rfl)
theorem ml_L_204 : g_ML RL 204 yX11_way := Or.inl (g_in (g_m9 (List.mem_of_getElem? (i := 117) rfl)) rfl)
theorem ml_L_210 : g_ML RL 210 yX11_lodged := Or.inl (g_in (g_m9 (List.mem_of_getElem? (i := 121) rfl)) rfl)
theorem ml_L_263 : g_ML RL 263 yX11_gather := Or.inl (g_in (g_m9 (List.mem_of_getElem? (i := 125) rfl)) rfl)
theorem ml_L_266 : g_ML RL 266 yX11_walk := Or.inl (g_in (g_m9 (List.mem_of_getElem? (i := 129) rfl)) rfl)
theorem ml_X11_450 : g_ML RX11 450 yX11_loop := Or.inl (g_in (g_m9 (List.mem_of_getElem? (i := 133) rfl)) rfl)
theorem ml_X11_453 : g_ML RX11 453 yX11_longest := Or.inl (g_in (g_m9 (List.mem_of_getElem? (i := 137) rfl)) rfl)
theorem ml_X11_447 : g_ML RX11 447 yX11_doesLead := Or.inl (g_in (g_m9 (List.mem_of_getElem? (i := 141) rfl)) rfl)
theorem ml_X11_456 : g_ML RX11 456 yX11_balance := Or.inl (g_in (g_m9 (List.mem_of_getElem? (i := 145) rfl)) rfl)
theorem ml_L_269 : g_ML RL 269 yX11_tour := Or.inl (g_in (g_m9 (List.mem_of_getElem? (i := 149) rfl)) rfl)
theorem ml_X11_462 : g_ML RX11 462 yX11_laysTour := Or.inl (g_in (g_m9 (List.mem_of_getElem? (i := 153) rfl)) rfl)
theorem ml_X11_459 : g_ML RX11 459 yX11_onBy := Or.inl (g_in (g_m9 (List.mem_of_getElem? (i := 157) rfl)) rfl)
theorem ml_L_274 : g_ML RL 274 yX11_circuit := Or.inl (g_in (g_m9 (List.mem_of_getElem? (i := 161) rfl)) rfl)
theorem ml_L_213 : g_ML RL 213 yX11_see := Or.inl (g_in (g_m9 (List.mem_of_getElem? (i := 165) rfl)) rfl)
theorem ml_L_217 : g_ML RL 217 yX11_forget := Or.inl (g_in (g_m9 (List.mem_of_getElem? (i := 169) rfl)) rfl)
theorem ml_L_220 : g_ML RL 220 yX11_turned := Or.inl (g_in (g_m9 (List.mem_of_getElem? (i := 173) rfl)) rfl)
theorem ml_X11_465 : g_ML RX11 465 yX11_isSeen := Or.inl (g_in (g_m9 (List.mem_of_getElem? (i := 177) rfl)) rfl)
theorem ml_X11_468 : g_ML RX11 468 yX11_isGuess := Or.inl (g_in (g_m9 (List.mem_of_getElem? (i := 181) rfl)) rfl)
theorem ml_L_223 : g_ML RL 223 yX11_look := Or.inl (g_in (g_m9 (List.mem_of_getElem? (i := 185) rfl)) rfl)
theorem ml_L_226 : g_ML RL 226 yX11_wind := Or.inl (g_in (g_m9 (List.mem_of_getElem? (i := 189) rfl)) rfl)
theorem ml_L_229 : g_ML RL 229 yX11_game := Or.inl (g_in (g_m9 (List.mem_of_getElem? (i := 193) rfl)) rfl)
theorem ml_X11_474 : g_ML RX11 474 yX11_gains := Or.inl (g_in (g_m9 (List.mem_of_getElem? (i := 197) rfl)) rfl)
theorem ml_X11_471 : g_ML RX11 471 yX11_turnsOn := Or.inl (g_in (g_m9 (List.mem_of_getElem? (i := 201) rfl)) rfl)
theorem ml_L_232 : g_ML RL 232 yX11_years := Or.inl (g_in (g_m9 (List.mem_of_getElem? (i := 205) rfl)) rfl)
theorem ml_X11_485 : g_ML RX11 485 yX11_happens := Or.inl (g_in (g_m9 (List.mem_of_getElem? (i := 209) rfl)) rfl)
theorem ml_X11_482 : g_ML RX11 482 yX11_draw := Or.inl (g_in (g_m9 (List.mem_of_getElem? (i := 213) rfl)) rfl)
theorem ml_L_278 : g_ML RL 278 yX11_image := Or.inl (g_in (g_m9 (List.mem_of_getElem? (i := 218) rfl)) rfl)
theorem ml_L_282 : g_ML RL 282 yX11_restore := Or.inl (g_in (g_m9 (List.mem_of_getElem? (i := 222) rfl)) rfl)
