/-! The constructors of the class's parts. -/
theorem nw_moment {l : Launch} {γ : Gh} {K : List Kd} {T S : List (Int × Int × Int)} {n r : Int} (hC0 : CS K T S n) (hk0 : g_k K r = some (.inl 2))  : gE l γ μX2_init 1 4 34 (rC (K ++ [.inr (0, 8), .inr (0, 8), .inr (0, 9), .inr (0, 9)]) ((r, 4, (n + 4)) :: (r, 3, (n + 3)) :: (r, 2, (n + 2)) :: (r, 1, (n + 1)) :: T) (S)) xN K (tf T) (tf S) [vR r] := by
  have hr0 := g_k_spec hk0
  have hKn := hC0.1
  have hr9 := (List.getElem?_eq_some_iff.mp hr0.2.1).1
  have hr8 : 0 < r ∧ r ≤ n := ⟨hr0.1, by omega⟩
  refine gE.ofw cl_X2.2 ?_ rfl rfl (Nat.le_of_ble_eq_true rfl)
  show gT l γ μX2_init 1 4 34 _ _ K (tf T) (tf S) 0 [some (vR r)] []
  refine tz_aload0 (n := 1) (g_at ck_X2_init 0 rfl) rfl (by omega) ?_
  refine tz_oinit (n := 4) (by omega) oi_X2_3 oi_1 oi_2 (g_at ck_X2_init 1 rfl) rfl (by decide) (Nat.le_of_ble_eq_true rfl) ?_
  refine tz_aload0 (n := 5) (g_at ck_X2_init 2 rfl) rfl (by omega) ?_
  refine tz_bipush (n := 7) (g_at ck_X2_init 3 rfl) rfl rfl ?_
  refine tq_newaI (N := 8) (nx := 9) (n9 := (n + 1)) (cb' := 3) (sb' := 26) hC0 (by omega) rfl ⟨okR (by omega), trivial⟩ ⟨okR (by omega), trivial⟩ (Nat.le_of_ble_eq_true rfl) (g_at ck_X2_init 4 rfl) rfl ⟨Nat.le_of_ble_eq_true rfl, Nat.le_of_ble_eq_true rfl⟩ (fun hC1 => ?_)
  have hk0 := g_k_app (K1 := [.inr (0, 8)]) hk0
  refine tq_putFA (nx := 12) (kz := 1) hC1 fk_X2_9 rfl (g_in (g_m1 (List.mem_of_getElem? (i := 68) rfl)) rfl) rfl hk0 (g_at ck_X2_init 5 rfl) rfl rfl (by omega) (by omega) (fun hC2 => ?_)
  refine tz_aload0 (n := 13) (g_at ck_X2_init 6 rfl) rfl (by omega) ?_
  refine tz_bipush (n := 15) (g_at ck_X2_init 7 rfl) rfl rfl ?_
  refine tq_newaI (N := 8) (nx := 17) (n9 := (n + 2)) (cb' := 2) (sb' := 18) hC2 (by omega) rfl ⟨okR (by omega), trivial⟩ ⟨okR (by omega), trivial⟩ (Nat.le_of_ble_eq_true rfl) (g_at ck_X2_init 8 rfl) rfl ⟨Nat.le_of_ble_eq_true rfl, Nat.le_of_ble_eq_true rfl⟩ (fun hC3 => ?_)
  have hk0 := g_k_app (K1 := [.inr (0, 8)]) hk0
  refine tq_putFA (nx := 20) (kz := 2) hC3 fk_X2_15 rfl (g_in (g_m1 (List.mem_of_getElem? (i := 75) rfl)) rfl) rfl hk0 (g_at ck_X2_init 9 rfl) rfl rfl (by omega) (by omega) (fun hC4 => ?_)
  refine tz_aload0 (n := 21) (g_at ck_X2_init 10 rfl) rfl (by omega) ?_
  refine tz_bipush (n := 23) (g_at ck_X2_init 11 rfl) rfl rfl ?_
  refine tq_newaI (N := 9) (nx := 25) (n9 := (n + 3)) (cb' := 1) (sb' := 9) hC4 (by omega) rfl ⟨okR (by omega), trivial⟩ ⟨okR (by omega), trivial⟩ (Nat.le_of_ble_eq_true rfl) (g_at ck_X2_init 12 rfl) rfl ⟨Nat.le_of_ble_eq_true rfl, Nat.le_of_ble_eq_true rfl⟩ (fun hC5 => ?_)
  have hk0 := g_k_app (K1 := [.inr (0, 9)]) hk0
  refine tq_putFA (nx := 28) (kz := 3) hC5 fk_X2_18 rfl (g_in (g_m1 (List.mem_of_getElem? (i := 80) rfl)) rfl) rfl hk0 (g_at ck_X2_init 13 rfl) rfl rfl (by omega) (by omega) (fun hC6 => ?_)
  refine tz_aload0 (n := 29) (g_at ck_X2_init 14 rfl) rfl (by omega) ?_
  refine tz_bipush (n := 31) (g_at ck_X2_init 15 rfl) rfl rfl ?_
  refine tq_newaI (N := 9) (nx := 33) (n9 := (n + 4)) (cb' := 0) (sb' := 0) hC6 (by omega) rfl ⟨okR (by omega), trivial⟩ ⟨okR (by omega), trivial⟩ (Nat.le_of_ble_eq_true rfl) (g_at ck_X2_init 16 rfl) rfl ⟨Nat.le_of_ble_eq_true rfl, Nat.le_of_ble_eq_true rfl⟩ (fun hC7 => ?_)
  have hk0 := g_k_app (K1 := [.inr (0, 9)]) hk0
  refine tq_putFA (nx := 36) (kz := 4) hC7 fk_X2_21 rfl (g_in (g_m1 (List.mem_of_getElem? (i := 84) rfl)) rfl) rfl hk0 (g_at ck_X2_init 17 rfl) rfl rfl (by omega) (by omega) (fun hC8 => ?_)
  exact tz_vret (g_at ck_X2_init 18 rfl) rfl ⟨rfl, by simp only [List.append_assoc, List.cons_append, List.nil_append], rfl, rfl⟩
theorem nw_moment_C {K : List Kd} {T S : List (Int × Int × Int)} {n r : Int} (hC0 : CS K T S n) (hk0 : g_k K r = some (.inl 2))  : CS (K ++ [.inr (0, 8), .inr (0, 8), .inr (0, 9), .inr (0, 9)]) ((r, 4, (n + 4)) :: (r, 3, (n + 3)) :: (r, 2, (n + 2)) :: (r, 1, (n + 1)) :: T) (S) (n + 4) := by
  have hr0 := g_k_spec hk0
  have hKn := hC0.1
  have hr9 := (List.getElem?_eq_some_iff.mp hr0.2.1).1
  have hr8 : 0 < r ∧ r ≤ n := ⟨hr0.1, by omega⟩
  refine ⟨by rw [List.length_append]; simp only [List.length_cons, List.length_nil]; omega, ?_, ?_⟩
  · have hB := hC0.2.1.up (show n ≤ n + 4 by omega)
    exact ((((hB.c (r := r) (k := 1) (x := (n + 1)) (by omega) (by omega)).c (r := r) (k := 2) (x := (n + 2)) (by omega) (by omega)).c (r := r) (k := 3) (x := (n + 3)) (by omega) (by omega)).c (r := r) (k := 4) (x := (n + 4)) (by omega) (by omega))
  · have hB := hC0.2.2.up (show n ≤ n + 4 by omega)
    exact hB
theorem nw_rule {l : Launch} {γ : Gh} {K : List Kd} {T S : List (Int × Int × Int)} {n r : Int} (hC0 : CS K T S n) (hk0 : g_k K r = some (.inl 4))  : gE l γ μX4_init 1 2 740 (rC (K ++ [.inr (0, 700), .inr (0, 40)]) ((r, 1, (n + 2)) :: (r, 0, (n + 1)) :: T) (S)) xN K (tf T) (tf S) [vR r] := by
  have hr0 := g_k_spec hk0
  have hKn := hC0.1
  have hr9 := (List.getElem?_eq_some_iff.mp hr0.2.1).1
  have hr8 : 0 < r ∧ r ≤ n := ⟨hr0.1, by omega⟩
  refine gE.ofw cl_X4.2 ?_ rfl rfl (Nat.le_of_ble_eq_true rfl)
  show gT l γ μX4_init 1 2 740 _ _ K (tf T) (tf S) 0 [some (vR r)] []
  refine tz_aload0 (n := 1) (g_at ck_X4_init 0 rfl) rfl (by omega) ?_
  refine tz_oinit (n := 4) (by omega) oi_X4_3 oi_1 oi_2 (g_at ck_X4_init 1 rfl) rfl (by decide) (Nat.le_of_ble_eq_true rfl) ?_
  refine tz_aload0 (n := 5) (g_at ck_X4_init 2 rfl) rfl (by omega) ?_
  refine tz_sipush (n := 8) (g_at ck_X4_init 3 rfl) rfl rfl ?_
  refine tq_newaI (N := 700) (nx := 10) (n9 := (n + 1)) (cb' := 1) (sb' := 40) hC0 (by omega) rfl ⟨okR (by omega), trivial⟩ ⟨okR (by omega), trivial⟩ (Nat.le_of_ble_eq_true rfl) (g_at ck_X4_init 4 rfl) rfl ⟨Nat.le_of_ble_eq_true rfl, Nat.le_of_ble_eq_true rfl⟩ (fun hC1 => ?_)
  have hk0 := g_k_app (K1 := [.inr (0, 700)]) hk0
  refine tq_putFA (nx := 13) (kz := 0) hC1 fk_X4_9 rfl (g_in (g_m1 (List.mem_of_getElem? (i := 47) rfl)) rfl) rfl hk0 (g_at ck_X4_init 5 rfl) rfl rfl (by omega) (by omega) (fun hC2 => ?_)
  refine tz_aload0 (n := 14) (g_at ck_X4_init 6 rfl) rfl (by omega) ?_
  refine tz_bipush (n := 16) (g_at ck_X4_init 7 rfl) rfl rfl ?_
  refine tq_newaI (N := 40) (nx := 18) (n9 := (n + 2)) (cb' := 0) (sb' := 0) hC2 (by omega) rfl ⟨okR (by omega), trivial⟩ ⟨okR (by omega), trivial⟩ (Nat.le_of_ble_eq_true rfl) (g_at ck_X4_init 8 rfl) rfl ⟨Nat.le_of_ble_eq_true rfl, Nat.le_of_ble_eq_true rfl⟩ (fun hC3 => ?_)
  have hk0 := g_k_app (K1 := [.inr (0, 40)]) hk0
  refine tq_putFA (nx := 21) (kz := 1) hC3 fk_X4_15 rfl (g_in (g_m1 (List.mem_of_getElem? (i := 48) rfl)) rfl) rfl hk0 (g_at ck_X4_init 9 rfl) rfl rfl (by omega) (by omega) (fun hC4 => ?_)
  exact tz_vret (g_at ck_X4_init 10 rfl) rfl ⟨rfl, by simp only [List.append_assoc, List.cons_append, List.nil_append], rfl, rfl⟩
theorem nw_rule_C {K : List Kd} {T S : List (Int × Int × Int)} {n r : Int} (hC0 : CS K T S n) (hk0 : g_k K r = some (.inl 4))  : CS (K ++ [.inr (0, 700), .inr (0, 40)]) ((r, 1, (n + 2)) :: (r, 0, (n + 1)) :: T) (S) (n + 2) := by
  have hr0 := g_k_spec hk0
  have hKn := hC0.1
  have hr9 := (List.getElem?_eq_some_iff.mp hr0.2.1).1
  have hr8 : 0 < r ∧ r ≤ n := ⟨hr0.1, by omega⟩
  refine ⟨by rw [List.length_append]; simp only [List.length_cons, List.length_nil]; omega, ?_, ?_⟩
  · have hB := hC0.2.1.up (show n ≤ n + 2 by omega)
    exact ((hB.c (r := r) (k := 0) (x := (n + 1)) (by omega) (by omega)).c (r := r) (k := 1) (x := (n + 2)) (by omega) (by omega))
  · have hB := hC0.2.2.up (show n ≤ n + 2 by omega)
    exact hB
theorem nw_acts {l : Launch} {γ : Gh} {K : List Kd} {T S : List (Int × Int × Int)} {n r : Int} (hC0 : CS K T S n) (hk0 : g_k K r = some (.inl 0))  : gE l γ μX0_init 1 1 1400 (rC (K ++ [.inr (0, 1400)]) ((r, 0, (n + 1)) :: T) (S)) xN K (tf T) (tf S) [vR r] := by
  have hr0 := g_k_spec hk0
  have hKn := hC0.1
  have hr9 := (List.getElem?_eq_some_iff.mp hr0.2.1).1
  have hr8 : 0 < r ∧ r ≤ n := ⟨hr0.1, by omega⟩
  refine gE.ofw cl_X0.2 ?_ rfl rfl (Nat.le_of_ble_eq_true rfl)
  show gT l γ μX0_init 1 1 1400 _ _ K (tf T) (tf S) 0 [some (vR r)] []
  refine tz_aload0 (n := 1) (g_at ck_X0_init 0 rfl) rfl (by omega) ?_
  refine tz_oinit (n := 4) (by omega) oi_X0_3 oi_1 oi_2 (g_at ck_X0_init 1 rfl) rfl (by decide) (Nat.le_of_ble_eq_true rfl) ?_
  refine tz_aload0 (n := 5) (g_at ck_X0_init 2 rfl) rfl (by omega) ?_
  refine tz_sipush (n := 8) (g_at ck_X0_init 3 rfl) rfl rfl ?_
  refine tq_newaI (N := 1400) (nx := 10) (n9 := (n + 1)) (cb' := 0) (sb' := 0) hC0 (by omega) rfl ⟨okR (by omega), trivial⟩ ⟨okR (by omega), trivial⟩ (Nat.le_of_ble_eq_true rfl) (g_at ck_X0_init 4 rfl) rfl ⟨Nat.le_of_ble_eq_true rfl, Nat.le_of_ble_eq_true rfl⟩ (fun hC1 => ?_)
  have hk0 := g_k_app (K1 := [.inr (0, 1400)]) hk0
  refine tq_putFA (nx := 13) (kz := 0) hC1 fk_X0_11 rfl (g_in (g_m1 (List.mem_of_getElem? (i := 217) rfl)) rfl) rfl hk0 (g_at ck_X0_init 5 rfl) rfl rfl (by omega) (by omega) (fun hC2 => ?_)
  exact tz_vret (g_at ck_X0_init 6 rfl) rfl ⟨rfl, by simp only [List.append_assoc, List.cons_append, List.nil_append], rfl, rfl⟩
theorem nw_acts_C {K : List Kd} {T S : List (Int × Int × Int)} {n r : Int} (hC0 : CS K T S n) (hk0 : g_k K r = some (.inl 0))  : CS (K ++ [.inr (0, 1400)]) ((r, 0, (n + 1)) :: T) (S) (n + 1) := by
  have hr0 := g_k_spec hk0
  have hKn := hC0.1
  have hr9 := (List.getElem?_eq_some_iff.mp hr0.2.1).1
  have hr8 : 0 < r ∧ r ≤ n := ⟨hr0.1, by omega⟩
  refine ⟨by rw [List.length_append]; simp only [List.length_cons, List.length_nil]; omega, ?_, ?_⟩
  · have hB := hC0.2.1.up (show n ≤ n + 1 by omega)
    exact (hB.c (r := r) (k := 0) (x := (n + 1)) (by omega) (by omega))
  · have hB := hC0.2.2.up (show n ≤ n + 1 by omega)
    exact hB
theorem nw_seen {l : Launch} {γ : Gh} {K : List Kd} {T S : List (Int × Int × Int)} {n r : Int} (hC0 : CS K T S n) (hk0 : g_k K r = some (.inl 5))  : gE l γ μX5_init 1 3 24 (rC (K ++ [.inr (0, 8), .inr (0, 8), .inr (0, 8)]) ((r, 2, (n + 3)) :: (r, 1, (n + 2)) :: (r, 0, (n + 1)) :: T) (S)) xN K (tf T) (tf S) [vR r] := by
  have hr0 := g_k_spec hk0
  have hKn := hC0.1
  have hr9 := (List.getElem?_eq_some_iff.mp hr0.2.1).1
  have hr8 : 0 < r ∧ r ≤ n := ⟨hr0.1, by omega⟩
  refine gE.ofw cl_X5.2 ?_ rfl rfl (Nat.le_of_ble_eq_true rfl)
  show gT l γ μX5_init 1 3 24 _ _ K (tf T) (tf S) 0 [some (vR r)] []
  refine tz_aload0 (n := 1) (g_at ck_X5_init 0 rfl) rfl (by omega) ?_
  refine tz_oinit (n := 4) (by omega) oi_X5_3 oi_1 oi_2 (g_at ck_X5_init 1 rfl) rfl (by decide) (Nat.le_of_ble_eq_true rfl) ?_
  refine tz_aload0 (n := 5) (g_at ck_X5_init 2 rfl) rfl (by omega) ?_
  refine tz_bipush (n := 7) (g_at ck_X5_init 3 rfl) rfl rfl ?_
  refine tq_newaI (N := 8) (nx := 9) (n9 := (n + 1)) (cb' := 2) (sb' := 16) hC0 (by omega) rfl ⟨okR (by omega), trivial⟩ ⟨okR (by omega), trivial⟩ (Nat.le_of_ble_eq_true rfl) (g_at ck_X5_init 4 rfl) rfl ⟨Nat.le_of_ble_eq_true rfl, Nat.le_of_ble_eq_true rfl⟩ (fun hC1 => ?_)
  have hk0 := g_k_app (K1 := [.inr (0, 8)]) hk0
  refine tq_putFA (nx := 12) (kz := 0) hC1 fk_X5_9 rfl (g_in (g_m1 (List.mem_of_getElem? (i := 234) rfl)) rfl) rfl hk0 (g_at ck_X5_init 5 rfl) rfl rfl (by omega) (by omega) (fun hC2 => ?_)
  refine tz_aload0 (n := 13) (g_at ck_X5_init 6 rfl) rfl (by omega) ?_
  refine tz_bipush (n := 15) (g_at ck_X5_init 7 rfl) rfl rfl ?_
  refine tq_newaI (N := 8) (nx := 17) (n9 := (n + 2)) (cb' := 1) (sb' := 8) hC2 (by omega) rfl ⟨okR (by omega), trivial⟩ ⟨okR (by omega), trivial⟩ (Nat.le_of_ble_eq_true rfl) (g_at ck_X5_init 8 rfl) rfl ⟨Nat.le_of_ble_eq_true rfl, Nat.le_of_ble_eq_true rfl⟩ (fun hC3 => ?_)
  have hk0 := g_k_app (K1 := [.inr (0, 8)]) hk0
  refine tq_putFA (nx := 20) (kz := 1) hC3 fk_X5_15 rfl (g_in (g_m1 (List.mem_of_getElem? (i := 235) rfl)) rfl) rfl hk0 (g_at ck_X5_init 9 rfl) rfl rfl (by omega) (by omega) (fun hC4 => ?_)
  refine tz_aload0 (n := 21) (g_at ck_X5_init 10 rfl) rfl (by omega) ?_
  refine tz_bipush (n := 23) (g_at ck_X5_init 11 rfl) rfl rfl ?_
  refine tq_newaI (N := 8) (nx := 25) (n9 := (n + 3)) (cb' := 0) (sb' := 0) hC4 (by omega) rfl ⟨okR (by omega), trivial⟩ ⟨okR (by omega), trivial⟩ (Nat.le_of_ble_eq_true rfl) (g_at ck_X5_init 12 rfl) rfl ⟨Nat.le_of_ble_eq_true rfl, Nat.le_of_ble_eq_true rfl⟩ (fun hC5 => ?_)
  have hk0 := g_k_app (K1 := [.inr (0, 8)]) hk0
  refine tq_putFA (nx := 28) (kz := 2) hC5 fk_X5_18 rfl (g_in (g_m1 (List.mem_of_getElem? (i := 236) rfl)) rfl) rfl hk0 (g_at ck_X5_init 13 rfl) rfl rfl (by omega) (by omega) (fun hC6 => ?_)
  exact tz_vret (g_at ck_X5_init 14 rfl) rfl ⟨rfl, by simp only [List.append_assoc, List.cons_append, List.nil_append], rfl, rfl⟩
theorem nw_seen_C {K : List Kd} {T S : List (Int × Int × Int)} {n r : Int} (hC0 : CS K T S n) (hk0 : g_k K r = some (.inl 5))  : CS (K ++ [.inr (0, 8), .inr (0, 8), .inr (0, 8)]) ((r, 2, (n + 3)) :: (r, 1, (n + 2)) :: (r, 0, (n + 1)) :: T) (S) (n + 3) := by
  have hr0 := g_k_spec hk0
  have hKn := hC0.1
  have hr9 := (List.getElem?_eq_some_iff.mp hr0.2.1).1
  have hr8 : 0 < r ∧ r ≤ n := ⟨hr0.1, by omega⟩
  refine ⟨by rw [List.length_append]; simp only [List.length_cons, List.length_nil]; omega, ?_, ?_⟩
  · have hB := hC0.2.1.up (show n ≤ n + 3 by omega)
    exact (((hB.c (r := r) (k := 0) (x := (n + 1)) (by omega) (by omega)).c (r := r) (k := 1) (x := (n + 2)) (by omega) (by omega)).c (r := r) (k := 2) (x := (n + 3)) (by omega) (by omega))
  · have hB := hC0.2.2.up (show n ≤ n + 3 by omega)
    exact hB
theorem nw_draws {l : Launch} {γ : Gh} {K : List Kd} {T S : List (Int × Int × Int)} {n r : Int} (hC0 : CS K T S n) (hk0 : g_k K r = some (.inl 1))  : gE l γ μX1_init 1 0 0 (rC K (T) (S)) xN K (tf T) (tf S) [vR r] := by
  have hr0 := g_k_spec hk0
  have hKn := hC0.1
  have hr9 := (List.getElem?_eq_some_iff.mp hr0.2.1).1
  have hr8 : 0 < r ∧ r ≤ n := ⟨hr0.1, by omega⟩
  refine gE.ofw cl_X1.2 ?_ rfl rfl (Nat.le_of_ble_eq_true rfl)
  show gT l γ μX1_init 1 0 0 _ _ K (tf T) (tf S) 0 [some (vR r)] []
  refine tz_aload0 (n := 1) (g_at ck_X1_init 0 rfl) rfl (by omega) ?_
  refine tz_oinit (n := 4) (by omega) oi_X1_1 oi_1 oi_2 (g_at ck_X1_init 1 rfl) rfl (by decide) (Nat.le_of_ble_eq_true rfl) ?_
  exact tz_vret (g_at ck_X1_init 2 rfl) rfl ⟨rfl, rfl, rfl, rfl⟩
theorem nw_draws_C {K : List Kd} {T S : List (Int × Int × Int)} {n r : Int} (hC0 : CS K T S n) (hk0 : g_k K r = some (.inl 1))  : CS K (T) (S) n := by
  have hr0 := g_k_spec hk0
  have hKn := hC0.1
  have hr9 := (List.getElem?_eq_some_iff.mp hr0.2.1).1
  have hr8 : 0 < r ∧ r ≤ n := ⟨hr0.1, by omega⟩
  refine ⟨hC0.1, ?_, ?_⟩
  · have hB := hC0.2.1.up (show n ≤ n by omega)
    exact hB
  · have hB := hC0.2.2.up (show n ≤ n by omega)
    exact hB
theorem nw_tokens {l : Launch} {γ : Gh} {K : List Kd} {T S : List (Int × Int × Int)} {n r : Int} {a1 : Int} (hC0 : CS K T S n) (hk0 : g_k K r = some (.inl 7)) (ha1 : 0 < a1 ∧ a1 ≤ n) : gE l γ μX7_init 1 0 0 (rC K ((r, 0, a1) :: T) (S)) xN K (tf T) (tf S) [vR r, vR a1] := by
  have hr0 := g_k_spec hk0
  have hKn := hC0.1
  have hr9 := (List.getElem?_eq_some_iff.mp hr0.2.1).1
  have hr8 : 0 < r ∧ r ≤ n := ⟨hr0.1, by omega⟩
  refine gE.ofw cl_X7.2 ?_ rfl rfl (Nat.le_of_ble_eq_true rfl)
  show gT l γ μX7_init 1 0 0 _ _ K (tf T) (tf S) 0 [some (vR r), some (vR a1)] []
  refine tz_aload0 (n := 1) (g_at ck_X7_init 0 rfl) rfl (by omega) ?_
  refine tz_oinit (n := 4) (by omega) oi_X7_1 oi_1 oi_2 (g_at ck_X7_init 1 rfl) rfl (by decide) (Nat.le_of_ble_eq_true rfl) ?_
  refine tz_aload0 (n := 5) (g_at ck_X7_init 2 rfl) rfl (by omega) ?_
  refine tz_aload1 (n := 6) (g_at ck_X7_init 3 rfl) rfl (by omega) ?_
  refine tq_putFA (nx := 9) (kz := 0) hC0 fk_X7_7 rfl (g_in (g_m1 (List.mem_of_getElem? (i := 167) rfl)) rfl) rfl hk0 (g_at ck_X7_init 4 rfl) rfl rfl (by omega) (by omega) (fun hC1 => ?_)
  exact tz_vret (g_at ck_X7_init 5 rfl) rfl ⟨rfl, rfl, rfl, rfl⟩
theorem nw_tokens_C {K : List Kd} {T S : List (Int × Int × Int)} {n r : Int} {a1 : Int} (hC0 : CS K T S n) (hk0 : g_k K r = some (.inl 7)) (ha1 : 0 < a1 ∧ a1 ≤ n) : CS K ((r, 0, a1) :: T) (S) n := by
  have hr0 := g_k_spec hk0
  have hKn := hC0.1
  have hr9 := (List.getElem?_eq_some_iff.mp hr0.2.1).1
  have hr8 : 0 < r ∧ r ≤ n := ⟨hr0.1, by omega⟩
  refine ⟨hC0.1, ?_, ?_⟩
  · have hB := hC0.2.1.up (show n ≤ n by omega)
    exact (hB.c (r := r) (k := 0) (x := a1) (by omega) (by omega))
  · have hB := hC0.2.2.up (show n ≤ n by omega)
    exact hB
theorem nw_shire {l : Launch} {γ : Gh} {K : List Kd} {T S : List (Int × Int × Int)} {n r : Int} (hC0 : CS K T S n) (hk0 : g_k K r = some (.inl 6))  : gE l γ μX6_init 2 16 1605 (rC (K ++ [.inr (0, 9), .inr (0, 9), .inr (0, 9), .inr (0, 45), .inr (0, 8), .inl 4, .inr (0, 700), .inr (0, 40), .inl 4, .inr (0, 700), .inr (0, 40), .inl 2, .inr (0, 8), .inr (0, 8), .inr (0, 9), .inr (0, 9)]) ((r, 9, (n + 12)) :: ((n + 12), 4, ((n + 12) + 4)) :: ((n + 12), 3, ((n + 12) + 3)) :: ((n + 12), 2, ((n + 12) + 2)) :: ((n + 12), 1, ((n + 12) + 1)) :: (r, 8, (n + 9)) :: ((n + 9), 1, ((n + 9) + 2)) :: ((n + 9), 0, ((n + 9) + 1)) :: (r, 7, (n + 6)) :: ((n + 6), 1, ((n + 6) + 2)) :: ((n + 6), 0, ((n + 6) + 1)) :: (r, 6, (n + 5)) :: (r, 5, (n + 4)) :: (r, 4, (n + 3)) :: (r, 3, (n + 2)) :: (r, 2, (n + 1)) :: T) (S)) xN K (tf T) (tf S) [vR r] := by
  have hr0 := g_k_spec hk0
  have hKn := hC0.1
  have hr9 := (List.getElem?_eq_some_iff.mp hr0.2.1).1
  have hr8 : 0 < r ∧ r ≤ n := ⟨hr0.1, by omega⟩
  refine gE.ofw cl_X6.2 ?_ rfl rfl (Nat.le_of_ble_eq_true rfl)
  show gT l γ μX6_init 2 16 1605 _ _ K (tf T) (tf S) 0 [some (vR r)] []
  refine tz_aload0 (n := 1) (g_at ck_X6_init 0 rfl) rfl (by omega) ?_
  refine tz_oinit (n := 4) (by omega) oi_X6_3 oi_1 oi_2 (g_at ck_X6_init 1 rfl) rfl (by decide) (Nat.le_of_ble_eq_true rfl) ?_
  refine tz_aload0 (n := 5) (g_at ck_X6_init 2 rfl) rfl (by omega) ?_
  refine tz_bipush (n := 7) (g_at ck_X6_init 3 rfl) rfl rfl ?_
  refine tq_newaI (N := 9) (nx := 9) (n9 := (n + 1)) (cb' := 15) (sb' := 1596) hC0 (by omega) rfl ⟨okR (by omega), trivial⟩ ⟨okR (by omega), trivial⟩ (Nat.le_of_ble_eq_true rfl) (g_at ck_X6_init 4 rfl) rfl ⟨Nat.le_of_ble_eq_true rfl, Nat.le_of_ble_eq_true rfl⟩ (fun hC1 => ?_)
  have hk0 := g_k_app (K1 := [.inr (0, 9)]) hk0
  refine tq_putFA (nx := 12) (kz := 2) hC1 fk_X6_9 rfl (g_in (g_m1 (List.mem_of_getElem? (i := 106) rfl)) rfl) rfl hk0 (g_at ck_X6_init 5 rfl) rfl rfl (by omega) (by omega) (fun hC2 => ?_)
  refine tz_aload0 (n := 13) (g_at ck_X6_init 6 rfl) rfl (by omega) ?_
  refine tz_bipush (n := 15) (g_at ck_X6_init 7 rfl) rfl rfl ?_
  refine tq_newaI (N := 9) (nx := 17) (n9 := (n + 2)) (cb' := 14) (sb' := 1587) hC2 (by omega) rfl ⟨okR (by omega), trivial⟩ ⟨okR (by omega), trivial⟩ (Nat.le_of_ble_eq_true rfl) (g_at ck_X6_init 8 rfl) rfl ⟨Nat.le_of_ble_eq_true rfl, Nat.le_of_ble_eq_true rfl⟩ (fun hC3 => ?_)
  have hk0 := g_k_app (K1 := [.inr (0, 9)]) hk0
  refine tq_putFA (nx := 20) (kz := 3) hC3 fk_X6_15 rfl (g_in (g_m1 (List.mem_of_getElem? (i := 111) rfl)) rfl) rfl hk0 (g_at ck_X6_init 9 rfl) rfl rfl (by omega) (by omega) (fun hC4 => ?_)
  refine tz_aload0 (n := 21) (g_at ck_X6_init 10 rfl) rfl (by omega) ?_
  refine tz_bipush (n := 23) (g_at ck_X6_init 11 rfl) rfl rfl ?_
  refine tq_newaI (N := 9) (nx := 25) (n9 := (n + 3)) (cb' := 13) (sb' := 1578) hC4 (by omega) rfl ⟨okR (by omega), trivial⟩ ⟨okR (by omega), trivial⟩ (Nat.le_of_ble_eq_true rfl) (g_at ck_X6_init 12 rfl) rfl ⟨Nat.le_of_ble_eq_true rfl, Nat.le_of_ble_eq_true rfl⟩ (fun hC5 => ?_)
  have hk0 := g_k_app (K1 := [.inr (0, 9)]) hk0
  refine tq_putFA (nx := 28) (kz := 4) hC5 fk_X6_18 rfl (g_in (g_m1 (List.mem_of_getElem? (i := 115) rfl)) rfl) rfl hk0 (g_at ck_X6_init 13 rfl) rfl rfl (by omega) (by omega) (fun hC6 => ?_)
  refine tz_aload0 (n := 29) (g_at ck_X6_init 14 rfl) rfl (by omega) ?_
  refine tz_bipush (n := 31) (g_at ck_X6_init 15 rfl) rfl rfl ?_
  refine tq_newaI (N := 45) (nx := 33) (n9 := (n + 4)) (cb' := 12) (sb' := 1533) hC6 (by omega) rfl ⟨okR (by omega), trivial⟩ ⟨okR (by omega), trivial⟩ (Nat.le_of_ble_eq_true rfl) (g_at ck_X6_init 16 rfl) rfl ⟨Nat.le_of_ble_eq_true rfl, Nat.le_of_ble_eq_true rfl⟩ (fun hC7 => ?_)
  have hk0 := g_k_app (K1 := [.inr (0, 45)]) hk0
  refine tq_putFA (nx := 36) (kz := 5) hC7 fk_X6_21 rfl (g_in (g_m1 (List.mem_of_getElem? (i := 120) rfl)) rfl) rfl hk0 (g_at ck_X6_init 17 rfl) rfl rfl (by omega) (by omega) (fun hC8 => ?_)
  refine tz_aload0 (n := 37) (g_at ck_X6_init 18 rfl) rfl (by omega) ?_
  refine tz_bipush (n := 39) (g_at ck_X6_init 19 rfl) rfl rfl ?_
  refine tq_newaI (N := 8) (nx := 41) (n9 := (n + 5)) (cb' := 11) (sb' := 1525) hC8 (by omega) rfl ⟨okR (by omega), trivial⟩ ⟨okR (by omega), trivial⟩ (Nat.le_of_ble_eq_true rfl) (g_at ck_X6_init 20 rfl) rfl ⟨Nat.le_of_ble_eq_true rfl, Nat.le_of_ble_eq_true rfl⟩ (fun hC9 => ?_)
  have hk0 := g_k_app (K1 := [.inr (0, 8)]) hk0
  refine tq_putFA (nx := 44) (kz := 6) hC9 fk_X6_24 rfl (g_in (g_m1 (List.mem_of_getElem? (i := 121) rfl)) rfl) rfl hk0 (g_at ck_X6_init 21 rfl) rfl rfl (by omega) (by omega) (fun hC10 => ?_)
  refine tz_aload0 (n := 45) (g_at ck_X6_init 22 rfl) rfl (by omega) ?_
  refine tq_new (nx := 48) (n9 := (n + 6)) (cb' := 10) (sb' := 1522) hC10 (by omega) nw_X6_27 ⟨okR (by omega), trivial⟩ ⟨okR (by omega), trivial⟩ (g_at ck_X6_init 23 rfl) rfl ⟨Nat.le_of_ble_eq_true rfl, Nat.le_of_ble_eq_true rfl⟩ (fun hC11 => ?_)
  have hk0 := g_k_app (K1 := [.inl 4]) hk0
  have hk1 : g_k _ (n + 6) = some (.inl 4) := g_k_new (kd := .inl 4) hC10.1 (by omega)
  refine tz_dupR (n := 49) (g_at ck_X6_init 24 rfl) rfl ?_
  refine tq_ci (nx := 52) (μ' := μX4_init) (As := []) (r := (n + 6)) (mc' := 2) (ms' := 740) (cb' := 8) (sb' := 782) hC11 ml_X6_29 mo_X4_init mi_X4_init rfl rfl np_X4_init (by omega) (g_at ck_X6_init 25 rfl) rfl ⟨by decide, by decide⟩ (Nat.le_of_ble_eq_true rfl) (Nat.le_of_ble_eq_true rfl) (Nat.le_of_ble_eq_true rfl) ⟨okR (by omega), trivial⟩ ⟨okR (by omega), okR (by omega), trivial⟩ (nw_rule  hC11 hk1 ) ?_
  have hC12 := nw_rule_C  hC11 hk1 
  have hk0 := g_k_app (K1 := [.inr (0, 700), .inr (0, 40)]) hk0
  have hk1 := g_k_app (K1 := [.inr (0, 700), .inr (0, 40)]) hk1
  refine tq_putFO (nx := 55) (kz := 7) hC12 fk_X6_30 rfl (g_in (g_m1 (List.mem_of_getElem? (i := 126) rfl)) rfl) rfl hk0 (g_at ck_X6_init 26 rfl) rfl rfl (by omega) (by omega) (fun hC13 => ?_)
  refine tz_aload0 (n := 56) (g_at ck_X6_init 27 rfl) rfl (by omega) ?_
  refine tq_new (nx := 59) (n9 := (n + 9)) (cb' := 7) (sb' := 779) hC13 (by omega) nw_X6_27 ⟨okR (by omega), trivial⟩ ⟨okR (by omega), trivial⟩ (g_at ck_X6_init 28 rfl) rfl ⟨Nat.le_of_ble_eq_true rfl, Nat.le_of_ble_eq_true rfl⟩ (fun hC14 => ?_)
  have hk0 := g_k_app (K1 := [.inl 4]) hk0
  have hk1 := g_k_app (K1 := [.inl 4]) hk1
  have hk2 : g_k _ (n + 9) = some (.inl 4) := g_k_new (kd := .inl 4) hC13.1 (by omega)
  refine tz_dupR (n := 60) (g_at ck_X6_init 29 rfl) rfl ?_
  refine tq_ci (nx := 63) (μ' := μX4_init) (As := []) (r := (n + 9)) (mc' := 2) (ms' := 740) (cb' := 5) (sb' := 39) hC14 ml_X6_29 mo_X4_init mi_X4_init rfl rfl np_X4_init (by omega) (g_at ck_X6_init 30 rfl) rfl ⟨by decide, by decide⟩ (Nat.le_of_ble_eq_true rfl) (Nat.le_of_ble_eq_true rfl) (Nat.le_of_ble_eq_true rfl) ⟨okR (by omega), trivial⟩ ⟨okR (by omega), okR (by omega), trivial⟩ (nw_rule  hC14 hk2 ) ?_
  have hC15 := nw_rule_C  hC14 hk2 
  have hk0 := g_k_app (K1 := [.inr (0, 700), .inr (0, 40)]) hk0
  have hk1 := g_k_app (K1 := [.inr (0, 700), .inr (0, 40)]) hk1
  have hk2 := g_k_app (K1 := [.inr (0, 700), .inr (0, 40)]) hk2
  refine tq_putFO (nx := 66) (kz := 8) hC15 fk_X6_34 rfl (g_in (g_m1 (List.mem_of_getElem? (i := 128) rfl)) rfl) rfl hk0 (g_at ck_X6_init 31 rfl) rfl rfl (by omega) (by omega) (fun hC16 => ?_)
  refine tz_aload0 (n := 67) (g_at ck_X6_init 32 rfl) rfl (by omega) ?_
  refine tq_new (nx := 70) (n9 := (n + 12)) (cb' := 4) (sb' := 34) hC16 (by omega) nw_X6_37 ⟨okR (by omega), trivial⟩ ⟨okR (by omega), trivial⟩ (g_at ck_X6_init 33 rfl) rfl ⟨Nat.le_of_ble_eq_true rfl, Nat.le_of_ble_eq_true rfl⟩ (fun hC17 => ?_)
  have hk0 := g_k_app (K1 := [.inl 2]) hk0
  have hk1 := g_k_app (K1 := [.inl 2]) hk1
  have hk2 := g_k_app (K1 := [.inl 2]) hk2
  have hk3 : g_k _ (n + 12) = some (.inl 2) := g_k_new (kd := .inl 2) hC16.1 (by omega)
  refine tz_dupR (n := 71) (g_at ck_X6_init 34 rfl) rfl ?_
  refine tq_ci (nx := 74) (μ' := μX2_init) (As := []) (r := (n + 12)) (mc' := 4) (ms' := 34) (cb' := 0) (sb' := 0) hC17 ml_X6_39 mo_X2_init mi_X2_init rfl rfl np_X2_init (by omega) (g_at ck_X6_init 35 rfl) rfl ⟨by decide, by decide⟩ (Nat.le_of_ble_eq_true rfl) (Nat.le_of_ble_eq_true rfl) (Nat.le_of_ble_eq_true rfl) ⟨okR (by omega), trivial⟩ ⟨okR (by omega), okR (by omega), trivial⟩ (nw_moment  hC17 hk3 ) ?_
  have hC18 := nw_moment_C  hC17 hk3 
  have hk0 := g_k_app (K1 := [.inr (0, 8), .inr (0, 8), .inr (0, 9), .inr (0, 9)]) hk0
  have hk1 := g_k_app (K1 := [.inr (0, 8), .inr (0, 8), .inr (0, 9), .inr (0, 9)]) hk1
  have hk2 := g_k_app (K1 := [.inr (0, 8), .inr (0, 8), .inr (0, 9), .inr (0, 9)]) hk2
  have hk3 := g_k_app (K1 := [.inr (0, 8), .inr (0, 8), .inr (0, 9), .inr (0, 9)]) hk3
  refine tq_putFO (nx := 77) (kz := 9) hC18 fk_X6_40 rfl (g_in (g_m1 (List.mem_of_getElem? (i := 131) rfl)) rfl) rfl hk0 (g_at ck_X6_init 36 rfl) rfl rfl (by omega) (by omega) (fun hC19 => ?_)
  exact tz_vret (g_at ck_X6_init 37 rfl) rfl ⟨rfl, by simp only [List.append_assoc, List.cons_append, List.nil_append], rfl, rfl⟩
theorem nw_shire_C {K : List Kd} {T S : List (Int × Int × Int)} {n r : Int} (hC0 : CS K T S n) (hk0 : g_k K r = some (.inl 6))  : CS (K ++ [.inr (0, 9), .inr (0, 9), .inr (0, 9), .inr (0, 45), .inr (0, 8), .inl 4, .inr (0, 700), .inr (0, 40), .inl 4, .inr (0, 700), .inr (0, 40), .inl 2, .inr (0, 8), .inr (0, 8), .inr (0, 9), .inr (0, 9)]) ((r, 9, (n + 12)) :: ((n + 12), 4, ((n + 12) + 4)) :: ((n + 12), 3, ((n + 12) + 3)) :: ((n + 12), 2, ((n + 12) + 2)) :: ((n + 12), 1, ((n + 12) + 1)) :: (r, 8, (n + 9)) :: ((n + 9), 1, ((n + 9) + 2)) :: ((n + 9), 0, ((n + 9) + 1)) :: (r, 7, (n + 6)) :: ((n + 6), 1, ((n + 6) + 2)) :: ((n + 6), 0, ((n + 6) + 1)) :: (r, 6, (n + 5)) :: (r, 5, (n + 4)) :: (r, 4, (n + 3)) :: (r, 3, (n + 2)) :: (r, 2, (n + 1)) :: T) (S) (n + 16) := by
  have hr0 := g_k_spec hk0
  have hKn := hC0.1
  have hr9 := (List.getElem?_eq_some_iff.mp hr0.2.1).1
  have hr8 : 0 < r ∧ r ≤ n := ⟨hr0.1, by omega⟩
  refine ⟨by rw [List.length_append]; simp only [List.length_cons, List.length_nil]; omega, ?_, ?_⟩
  · have hB := hC0.2.1.up (show n ≤ n + 16 by omega)
    exact ((((((((((((((((hB.c (r := r) (k := 2) (x := (n + 1)) (by omega) (by omega)).c (r := r) (k := 3) (x := (n + 2)) (by omega) (by omega)).c (r := r) (k := 4) (x := (n + 3)) (by omega) (by omega)).c (r := r) (k := 5) (x := (n + 4)) (by omega) (by omega)).c (r := r) (k := 6) (x := (n + 5)) (by omega) (by omega)).c (r := (n + 6)) (k := 0) (x := ((n + 6) + 1)) (by omega) (by omega)).c (r := (n + 6)) (k := 1) (x := ((n + 6) + 2)) (by omega) (by omega)).c (r := r) (k := 7) (x := (n + 6)) (by omega) (by omega)).c (r := (n + 9)) (k := 0) (x := ((n + 9) + 1)) (by omega) (by omega)).c (r := (n + 9)) (k := 1) (x := ((n + 9) + 2)) (by omega) (by omega)).c (r := r) (k := 8) (x := (n + 9)) (by omega) (by omega)).c (r := (n + 12)) (k := 1) (x := ((n + 12) + 1)) (by omega) (by omega)).c (r := (n + 12)) (k := 2) (x := ((n + 12) + 2)) (by omega) (by omega)).c (r := (n + 12)) (k := 3) (x := ((n + 12) + 3)) (by omega) (by omega)).c (r := (n + 12)) (k := 4) (x := ((n + 12) + 4)) (by omega) (by omega)).c (r := r) (k := 9) (x := (n + 12)) (by omega) (by omega))
  · have hB := hC0.2.2.up (show n ≤ n + 16 by omega)
    exact hB
theorem nw_trip {l : Launch} {γ : Gh} {K : List Kd} {T S : List (Int × Int × Int)} {n r : Int} {a1 : Int} (hC0 : CS K T S n) (hk0 : g_k K r = some (.inl 8)) (ha1 : 0 < a1 ∧ a1 ≤ n) : gE l γ μX8_init 2 8 97 (rC (K ++ [.inl 2, .inr (0, 8), .inr (0, 8), .inr (0, 9), .inr (0, 9), .inr (0, 8), .inr (0, 45), .inr (0, 5)]) ((r, 0, a1) :: (r, 4, (n + 8)) :: (r, 3, (n + 7)) :: (r, 2, (n + 6)) :: (r, 1, (n + 1)) :: ((n + 1), 4, ((n + 1) + 4)) :: ((n + 1), 3, ((n + 1) + 3)) :: ((n + 1), 2, ((n + 1) + 2)) :: ((n + 1), 1, ((n + 1) + 1)) :: T) (S)) xN K (tf T) (tf S) [vR r, vR a1] := by
  have hr0 := g_k_spec hk0
  have hKn := hC0.1
  have hr9 := (List.getElem?_eq_some_iff.mp hr0.2.1).1
  have hr8 : 0 < r ∧ r ≤ n := ⟨hr0.1, by omega⟩
  refine gE.ofw cl_X8.2 ?_ rfl rfl (Nat.le_of_ble_eq_true rfl)
  show gT l γ μX8_init 2 8 97 _ _ K (tf T) (tf S) 0 [some (vR r), some (vR a1)] []
  refine tz_aload0 (n := 1) (g_at ck_X8_init 0 rfl) rfl (by omega) ?_
  refine tz_oinit (n := 4) (by omega) oi_X8_3 oi_1 oi_2 (g_at ck_X8_init 1 rfl) rfl (by decide) (Nat.le_of_ble_eq_true rfl) ?_
  refine tz_aload0 (n := 5) (g_at ck_X8_init 2 rfl) rfl (by omega) ?_
  refine tq_new (nx := 8) (n9 := (n + 1)) (cb' := 7) (sb' := 92) hC0 (by omega) nw_X8_9 ⟨okR (by omega), okR (by omega), trivial⟩ ⟨okR (by omega), trivial⟩ (g_at ck_X8_init 3 rfl) rfl ⟨Nat.le_of_ble_eq_true rfl, Nat.le_of_ble_eq_true rfl⟩ (fun hC1 => ?_)
  have hk0 := g_k_app (K1 := [.inl 2]) hk0
  have hk1 : g_k _ (n + 1) = some (.inl 2) := g_k_new (kd := .inl 2) hC0.1 (by omega)
  refine tz_dupR (n := 9) (g_at ck_X8_init 4 rfl) rfl ?_
  refine tq_ci (nx := 12) (μ' := μX2_init) (As := []) (r := (n + 1)) (mc' := 4) (ms' := 34) (cb' := 3) (sb' := 58) hC1 ml_X8_11 mo_X2_init mi_X2_init rfl rfl np_X2_init (by omega) (g_at ck_X8_init 5 rfl) rfl ⟨by decide, by decide⟩ (Nat.le_of_ble_eq_true rfl) (Nat.le_of_ble_eq_true rfl) (Nat.le_of_ble_eq_true rfl) ⟨okR (by omega), okR (by omega), trivial⟩ ⟨okR (by omega), okR (by omega), trivial⟩ (nw_moment  hC1 hk1 ) ?_
  have hC2 := nw_moment_C  hC1 hk1 
  have hk0 := g_k_app (K1 := [.inr (0, 8), .inr (0, 8), .inr (0, 9), .inr (0, 9)]) hk0
  have hk1 := g_k_app (K1 := [.inr (0, 8), .inr (0, 8), .inr (0, 9), .inr (0, 9)]) hk1
  refine tq_putFO (nx := 15) (kz := 1) hC2 fk_X8_12 rfl (g_in (g_m2 (List.mem_of_getElem? (i := 17) rfl)) rfl) rfl hk0 (g_at ck_X8_init 6 rfl) rfl rfl (by omega) (by omega) (fun hC3 => ?_)
  refine tz_aload0 (n := 16) (g_at ck_X8_init 7 rfl) rfl (by omega) ?_
  refine tz_bipush (n := 18) (g_at ck_X8_init 8 rfl) rfl rfl ?_
  refine tq_newaI (N := 8) (nx := 20) (n9 := (n + 6)) (cb' := 2) (sb' := 50) hC3 (by omega) rfl ⟨okR (by omega), okR (by omega), trivial⟩ ⟨okR (by omega), trivial⟩ (Nat.le_of_ble_eq_true rfl) (g_at ck_X8_init 9 rfl) rfl ⟨Nat.le_of_ble_eq_true rfl, Nat.le_of_ble_eq_true rfl⟩ (fun hC4 => ?_)
  have hk0 := g_k_app (K1 := [.inr (0, 8)]) hk0
  have hk1 := g_k_app (K1 := [.inr (0, 8)]) hk1
  refine tq_putFA (nx := 23) (kz := 2) hC4 fk_X8_18 rfl (g_in (g_m2 (List.mem_of_getElem? (i := 20) rfl)) rfl) rfl hk0 (g_at ck_X8_init 10 rfl) rfl rfl (by omega) (by omega) (fun hC5 => ?_)
  refine tz_aload0 (n := 24) (g_at ck_X8_init 11 rfl) rfl (by omega) ?_
  refine tz_bipush (n := 26) (g_at ck_X8_init 12 rfl) rfl rfl ?_
  refine tq_newaI (N := 45) (nx := 28) (n9 := (n + 7)) (cb' := 1) (sb' := 5) hC5 (by omega) rfl ⟨okR (by omega), okR (by omega), trivial⟩ ⟨okR (by omega), trivial⟩ (Nat.le_of_ble_eq_true rfl) (g_at ck_X8_init 13 rfl) rfl ⟨Nat.le_of_ble_eq_true rfl, Nat.le_of_ble_eq_true rfl⟩ (fun hC6 => ?_)
  have hk0 := g_k_app (K1 := [.inr (0, 45)]) hk0
  have hk1 := g_k_app (K1 := [.inr (0, 45)]) hk1
  refine tq_putFA (nx := 31) (kz := 3) hC6 fk_X8_22 rfl (g_in (g_m2 (List.mem_of_getElem? (i := 22) rfl)) rfl) rfl hk0 (g_at ck_X8_init 14 rfl) rfl rfl (by omega) (by omega) (fun hC7 => ?_)
  refine tz_aload0 (n := 32) (g_at ck_X8_init 15 rfl) rfl (by omega) ?_
  refine tz_iconst (n := 33) (g_at ck_X8_init 16 rfl) rfl ?_
  refine tq_newaI (N := 5) (nx := 35) (n9 := (n + 8)) (cb' := 0) (sb' := 0) hC7 (by omega) rfl ⟨okR (by omega), okR (by omega), trivial⟩ ⟨okR (by omega), trivial⟩ (Nat.le_of_ble_eq_true rfl) (g_at ck_X8_init 17 rfl) rfl ⟨Nat.le_of_ble_eq_true rfl, Nat.le_of_ble_eq_true rfl⟩ (fun hC8 => ?_)
  have hk0 := g_k_app (K1 := [.inr (0, 5)]) hk0
  have hk1 := g_k_app (K1 := [.inr (0, 5)]) hk1
  refine tq_putFA (nx := 38) (kz := 4) hC8 fk_X8_27 rfl (g_in (g_m2 (List.mem_of_getElem? (i := 24) rfl)) rfl) rfl hk0 (g_at ck_X8_init 18 rfl) rfl rfl (by omega) (by omega) (fun hC9 => ?_)
  refine tz_aload0 (n := 39) (g_at ck_X8_init 19 rfl) rfl (by omega) ?_
  refine tz_aload1 (n := 40) (g_at ck_X8_init 20 rfl) rfl (by omega) ?_
  refine tq_putO (nx := 43) (kz := 0) hC9 fk_X8_30 hk0 (g_at ck_X8_init 21 rfl) rfl rfl (by omega) (by omega) (fun hC10 => ?_)
  exact tz_vret (g_at ck_X8_init 22 rfl) rfl ⟨rfl, by simp only [List.append_assoc, List.cons_append, List.nil_append], rfl, rfl⟩
theorem nw_trip_C {K : List Kd} {T S : List (Int × Int × Int)} {n r : Int} {a1 : Int} (hC0 : CS K T S n) (hk0 : g_k K r = some (.inl 8)) (ha1 : 0 < a1 ∧ a1 ≤ n) : CS (K ++ [.inl 2, .inr (0, 8), .inr (0, 8), .inr (0, 9), .inr (0, 9), .inr (0, 8), .inr (0, 45), .inr (0, 5)]) ((r, 0, a1) :: (r, 4, (n + 8)) :: (r, 3, (n + 7)) :: (r, 2, (n + 6)) :: (r, 1, (n + 1)) :: ((n + 1), 4, ((n + 1) + 4)) :: ((n + 1), 3, ((n + 1) + 3)) :: ((n + 1), 2, ((n + 1) + 2)) :: ((n + 1), 1, ((n + 1) + 1)) :: T) (S) (n + 8) := by
  have hr0 := g_k_spec hk0
  have hKn := hC0.1
  have hr9 := (List.getElem?_eq_some_iff.mp hr0.2.1).1
  have hr8 : 0 < r ∧ r ≤ n := ⟨hr0.1, by omega⟩
  refine ⟨by rw [List.length_append]; simp only [List.length_cons, List.length_nil]; omega, ?_, ?_⟩
  · have hB := hC0.2.1.up (show n ≤ n + 8 by omega)
    exact (((((((((hB.c (r := (n + 1)) (k := 1) (x := ((n + 1) + 1)) (by omega) (by omega)).c (r := (n + 1)) (k := 2) (x := ((n + 1) + 2)) (by omega) (by omega)).c (r := (n + 1)) (k := 3) (x := ((n + 1) + 3)) (by omega) (by omega)).c (r := (n + 1)) (k := 4) (x := ((n + 1) + 4)) (by omega) (by omega)).c (r := r) (k := 1) (x := (n + 1)) (by omega) (by omega)).c (r := r) (k := 2) (x := (n + 6)) (by omega) (by omega)).c (r := r) (k := 3) (x := (n + 7)) (by omega) (by omega)).c (r := r) (k := 4) (x := (n + 8)) (by omega) (by omega)).c (r := r) (k := 0) (x := a1) (by omega) (by omega))
  · have hB := hC0.2.2.up (show n ≤ n + 8 by omega)
    exact hB
theorem nw_ways {l : Launch} {γ : Gh} {K : List Kd} {T S : List (Int × Int × Int)} {n r : Int} {a1 : Int} (hC0 : CS K T S n) (hk0 : g_k K r = some (.inl 9)) (ha1 : 0 < a1 ∧ a1 ≤ n) : gE l γ μX9_init 1 8 4813 (rC (K ++ [.inr (0, 81), .inr (0, 81), .inr (0, 9), .inr (0, 9), .inr (0, 9), .inr (0, 8), .inr (0, 8), .inr (0, 4608)]) ((r, 0, a1) :: (r, 10, (n + 8)) :: (r, 7, (n + 7)) :: (r, 6, (n + 6)) :: (r, 5, (n + 5)) :: (r, 4, (n + 4)) :: (r, 3, (n + 3)) :: (r, 2, (n + 2)) :: (r, 1, (n + 1)) :: T) (S)) xN K (tf T) (tf S) [vR r, vR a1] := by
  have hr0 := g_k_spec hk0
  have hKn := hC0.1
  have hr9 := (List.getElem?_eq_some_iff.mp hr0.2.1).1
  have hr8 : 0 < r ∧ r ≤ n := ⟨hr0.1, by omega⟩
  refine gE.ofw cl_X9.2 ?_ rfl rfl (Nat.le_of_ble_eq_true rfl)
  show gT l γ μX9_init 1 8 4813 _ _ K (tf T) (tf S) 0 [some (vR r), some (vR a1)] []
  refine tz_aload0 (n := 1) (g_at ck_X9_init 0 rfl) rfl (by omega) ?_
  refine tz_oinit (n := 4) (by omega) oi_X9_3 oi_1 oi_2 (g_at ck_X9_init 1 rfl) rfl (by decide) (Nat.le_of_ble_eq_true rfl) ?_
  refine tz_aload0 (n := 5) (g_at ck_X9_init 2 rfl) rfl (by omega) ?_
  refine tz_bipush (n := 7) (g_at ck_X9_init 3 rfl) rfl rfl ?_
  refine tq_newaI (N := 81) (nx := 9) (n9 := (n + 1)) (cb' := 7) (sb' := 4732) hC0 (by omega) rfl ⟨okR (by omega), okR (by omega), trivial⟩ ⟨okR (by omega), trivial⟩ (Nat.le_of_ble_eq_true rfl) (g_at ck_X9_init 4 rfl) rfl ⟨Nat.le_of_ble_eq_true rfl, Nat.le_of_ble_eq_true rfl⟩ (fun hC1 => ?_)
  have hk0 := g_k_app (K1 := [.inr (0, 81)]) hk0
  refine tq_putFA (nx := 12) (kz := 1) hC1 fk_X9_9 rfl (g_in (g_m2 (List.mem_of_getElem? (i := 43) rfl)) rfl) rfl hk0 (g_at ck_X9_init 5 rfl) rfl rfl (by omega) (by omega) (fun hC2 => ?_)
  refine tz_aload0 (n := 13) (g_at ck_X9_init 6 rfl) rfl (by omega) ?_
  refine tz_bipush (n := 15) (g_at ck_X9_init 7 rfl) rfl rfl ?_
  refine tq_newaI (N := 81) (nx := 17) (n9 := (n + 2)) (cb' := 6) (sb' := 4651) hC2 (by omega) rfl ⟨okR (by omega), okR (by omega), trivial⟩ ⟨okR (by omega), trivial⟩ (Nat.le_of_ble_eq_true rfl) (g_at ck_X9_init 8 rfl) rfl ⟨Nat.le_of_ble_eq_true rfl, Nat.le_of_ble_eq_true rfl⟩ (fun hC3 => ?_)
  have hk0 := g_k_app (K1 := [.inr (0, 81)]) hk0
  refine tq_putFA (nx := 20) (kz := 2) hC3 fk_X9_15 rfl (g_in (g_m2 (List.mem_of_getElem? (i := 44) rfl)) rfl) rfl hk0 (g_at ck_X9_init 9 rfl) rfl rfl (by omega) (by omega) (fun hC4 => ?_)
  refine tz_aload0 (n := 21) (g_at ck_X9_init 10 rfl) rfl (by omega) ?_
  refine tz_bipush (n := 23) (g_at ck_X9_init 11 rfl) rfl rfl ?_
  refine tq_newaI (N := 9) (nx := 25) (n9 := (n + 3)) (cb' := 5) (sb' := 4642) hC4 (by omega) rfl ⟨okR (by omega), okR (by omega), trivial⟩ ⟨okR (by omega), trivial⟩ (Nat.le_of_ble_eq_true rfl) (g_at ck_X9_init 12 rfl) rfl ⟨Nat.le_of_ble_eq_true rfl, Nat.le_of_ble_eq_true rfl⟩ (fun hC5 => ?_)
  have hk0 := g_k_app (K1 := [.inr (0, 9)]) hk0
  refine tq_putFA (nx := 28) (kz := 3) hC5 fk_X9_18 rfl (g_in (g_m2 (List.mem_of_getElem? (i := 45) rfl)) rfl) rfl hk0 (g_at ck_X9_init 13 rfl) rfl rfl (by omega) (by omega) (fun hC6 => ?_)
  refine tz_aload0 (n := 29) (g_at ck_X9_init 14 rfl) rfl (by omega) ?_
  refine tz_bipush (n := 31) (g_at ck_X9_init 15 rfl) rfl rfl ?_
  refine tq_newaI (N := 9) (nx := 33) (n9 := (n + 4)) (cb' := 4) (sb' := 4633) hC6 (by omega) rfl ⟨okR (by omega), okR (by omega), trivial⟩ ⟨okR (by omega), trivial⟩ (Nat.le_of_ble_eq_true rfl) (g_at ck_X9_init 16 rfl) rfl ⟨Nat.le_of_ble_eq_true rfl, Nat.le_of_ble_eq_true rfl⟩ (fun hC7 => ?_)
  have hk0 := g_k_app (K1 := [.inr (0, 9)]) hk0
  refine tq_putFA (nx := 36) (kz := 4) hC7 fk_X9_21 rfl (g_in (g_m2 (List.mem_of_getElem? (i := 47) rfl)) rfl) rfl hk0 (g_at ck_X9_init 17 rfl) rfl rfl (by omega) (by omega) (fun hC8 => ?_)
  refine tz_aload0 (n := 37) (g_at ck_X9_init 18 rfl) rfl (by omega) ?_
  refine tz_bipush (n := 39) (g_at ck_X9_init 19 rfl) rfl rfl ?_
  refine tq_newaI (N := 9) (nx := 41) (n9 := (n + 5)) (cb' := 3) (sb' := 4624) hC8 (by omega) rfl ⟨okR (by omega), okR (by omega), trivial⟩ ⟨okR (by omega), trivial⟩ (Nat.le_of_ble_eq_true rfl) (g_at ck_X9_init 20 rfl) rfl ⟨Nat.le_of_ble_eq_true rfl, Nat.le_of_ble_eq_true rfl⟩ (fun hC9 => ?_)
  have hk0 := g_k_app (K1 := [.inr (0, 9)]) hk0
  refine tq_putFA (nx := 44) (kz := 5) hC9 fk_X9_24 rfl (g_in (g_m2 (List.mem_of_getElem? (i := 49) rfl)) rfl) rfl hk0 (g_at ck_X9_init 21 rfl) rfl rfl (by omega) (by omega) (fun hC10 => ?_)
  refine tz_aload0 (n := 45) (g_at ck_X9_init 22 rfl) rfl (by omega) ?_
  refine tz_bipush (n := 47) (g_at ck_X9_init 23 rfl) rfl rfl ?_
  refine tq_newaI (N := 8) (nx := 49) (n9 := (n + 6)) (cb' := 2) (sb' := 4616) hC10 (by omega) rfl ⟨okR (by omega), okR (by omega), trivial⟩ ⟨okR (by omega), trivial⟩ (Nat.le_of_ble_eq_true rfl) (g_at ck_X9_init 24 rfl) rfl ⟨Nat.le_of_ble_eq_true rfl, Nat.le_of_ble_eq_true rfl⟩ (fun hC11 => ?_)
  have hk0 := g_k_app (K1 := [.inr (0, 8)]) hk0
  refine tq_putFA (nx := 52) (kz := 6) hC11 fk_X9_27 rfl (g_in (g_m2 (List.mem_of_getElem? (i := 50) rfl)) rfl) rfl hk0 (g_at ck_X9_init 25 rfl) rfl rfl (by omega) (by omega) (fun hC12 => ?_)
  refine tz_aload0 (n := 53) (g_at ck_X9_init 26 rfl) rfl (by omega) ?_
  refine tz_bipush (n := 55) (g_at ck_X9_init 27 rfl) rfl rfl ?_
  refine tq_newaI (N := 8) (nx := 57) (n9 := (n + 7)) (cb' := 1) (sb' := 4608) hC12 (by omega) rfl ⟨okR (by omega), okR (by omega), trivial⟩ ⟨okR (by omega), trivial⟩ (Nat.le_of_ble_eq_true rfl) (g_at ck_X9_init 28 rfl) rfl ⟨Nat.le_of_ble_eq_true rfl, Nat.le_of_ble_eq_true rfl⟩ (fun hC13 => ?_)
  have hk0 := g_k_app (K1 := [.inr (0, 8)]) hk0
  refine tq_putFA (nx := 60) (kz := 7) hC13 fk_X9_30 rfl (g_in (g_m2 (List.mem_of_getElem? (i := 51) rfl)) rfl) rfl hk0 (g_at ck_X9_init 29 rfl) rfl rfl (by omega) (by omega) (fun hC14 => ?_)
  refine tz_aload0 (n := 61) (g_at ck_X9_init 30 rfl) rfl (by omega) ?_
  refine tz_sipush (n := 64) (g_at ck_X9_init 31 rfl) rfl rfl ?_
  refine tq_newaI (N := 4608) (nx := 66) (n9 := (n + 8)) (cb' := 0) (sb' := 0) hC14 (by omega) rfl ⟨okR (by omega), okR (by omega), trivial⟩ ⟨okR (by omega), trivial⟩ (Nat.le_of_ble_eq_true rfl) (g_at ck_X9_init 32 rfl) rfl ⟨Nat.le_of_ble_eq_true rfl, Nat.le_of_ble_eq_true rfl⟩ (fun hC15 => ?_)
  have hk0 := g_k_app (K1 := [.inr (0, 4608)]) hk0
  refine tq_putFA (nx := 69) (kz := 10) hC15 fk_X9_33 rfl (g_in (g_m2 (List.mem_of_getElem? (i := 57) rfl)) rfl) rfl hk0 (g_at ck_X9_init 33 rfl) rfl rfl (by omega) (by omega) (fun hC16 => ?_)
  refine tz_aload0 (n := 70) (g_at ck_X9_init 34 rfl) rfl (by omega) ?_
  refine tz_aload1 (n := 71) (g_at ck_X9_init 35 rfl) rfl (by omega) ?_
  refine tq_putO (nx := 74) (kz := 0) hC16 fk_X9_36 hk0 (g_at ck_X9_init 36 rfl) rfl rfl (by omega) (by omega) (fun hC17 => ?_)
  exact tz_vret (g_at ck_X9_init 37 rfl) rfl ⟨rfl, by simp only [List.append_assoc, List.cons_append, List.nil_append], rfl, rfl⟩
theorem nw_ways_C {K : List Kd} {T S : List (Int × Int × Int)} {n r : Int} {a1 : Int} (hC0 : CS K T S n) (hk0 : g_k K r = some (.inl 9)) (ha1 : 0 < a1 ∧ a1 ≤ n) : CS (K ++ [.inr (0, 81), .inr (0, 81), .inr (0, 9), .inr (0, 9), .inr (0, 9), .inr (0, 8), .inr (0, 8), .inr (0, 4608)]) ((r, 0, a1) :: (r, 10, (n + 8)) :: (r, 7, (n + 7)) :: (r, 6, (n + 6)) :: (r, 5, (n + 5)) :: (r, 4, (n + 4)) :: (r, 3, (n + 3)) :: (r, 2, (n + 2)) :: (r, 1, (n + 1)) :: T) (S) (n + 8) := by
  have hr0 := g_k_spec hk0
  have hKn := hC0.1
  have hr9 := (List.getElem?_eq_some_iff.mp hr0.2.1).1
  have hr8 : 0 < r ∧ r ≤ n := ⟨hr0.1, by omega⟩
  refine ⟨by rw [List.length_append]; simp only [List.length_cons, List.length_nil]; omega, ?_, ?_⟩
  · have hB := hC0.2.1.up (show n ≤ n + 8 by omega)
    exact (((((((((hB.c (r := r) (k := 1) (x := (n + 1)) (by omega) (by omega)).c (r := r) (k := 2) (x := (n + 2)) (by omega) (by omega)).c (r := r) (k := 3) (x := (n + 3)) (by omega) (by omega)).c (r := r) (k := 4) (x := (n + 4)) (by omega) (by omega)).c (r := r) (k := 5) (x := (n + 5)) (by omega) (by omega)).c (r := r) (k := 6) (x := (n + 6)) (by omega) (by omega)).c (r := r) (k := 7) (x := (n + 7)) (by omega) (by omega)).c (r := r) (k := 10) (x := (n + 8)) (by omega) (by omega)).c (r := r) (k := 0) (x := a1) (by omega) (by omega))
  · have hB := hC0.2.2.up (show n ≤ n + 8 by omega)
    exact hB
theorem nw_reader {l : Launch} {γ : Gh} {K : List Kd} {T S : List (Int × Int × Int)} {n r : Int} {a1 : Int} {a2 : Int} {a3 : Int} (hC0 : CS K T S n) (hk0 : g_k K r = some (.inl 3)) (ha1 : 0 < a1 ∧ a1 ≤ n) (ha2 : 0 < a2 ∧ a2 ≤ n) (hv : tf T a2 7 = a3) (hka : g_k K a2 = some (.inl 6)) (ha3 : 0 < a3 ∧ a3 ≤ n) : gE l γ μX3_init 2 1 6 (rC (K ++ [.inl 7]) ((r, 2, a3) :: (r, 1, a2) :: (r, 0, (n + 1)) :: ((n + 1), 0, a1) :: T) (S)) xN K (tf T) (tf S) [vR r, vR a1, vR a2] := by
  have hr0 := g_k_spec hk0
  have hKn := hC0.1
  have hr9 := (List.getElem?_eq_some_iff.mp hr0.2.1).1
  have hr8 : 0 < r ∧ r ≤ n := ⟨hr0.1, by omega⟩
  refine gE.ofw cl_X3.2 ?_ rfl rfl (Nat.le_of_ble_eq_true rfl)
  show gT l γ μX3_init 2 1 6 _ _ K (tf T) (tf S) 0 [some (vR r), some (vR a1), some (vR a2)] []
  refine tz_aload0 (n := 1) (g_at ck_X3_init 0 rfl) rfl (by omega) ?_
  refine tz_oinit (n := 4) (by omega) oi_X3_3 oi_1 oi_2 (g_at ck_X3_init 1 rfl) rfl (by decide) (Nat.le_of_ble_eq_true rfl) ?_
  refine tz_aload0 (n := 5) (g_at ck_X3_init 2 rfl) rfl (by omega) ?_
  refine tq_new (nx := 8) (n9 := (n + 1)) (cb' := 0) (sb' := 0) hC0 (by omega) nw_X3_9 ⟨okR (by omega), okR (by omega), okR (by omega), trivial⟩ ⟨okR (by omega), trivial⟩ (g_at ck_X3_init 3 rfl) rfl ⟨Nat.le_of_ble_eq_true rfl, Nat.le_of_ble_eq_true rfl⟩ (fun hC1 => ?_)
  have hk0 := g_k_app (K1 := [.inl 7]) hk0
  have hk1 : g_k _ (n + 1) = some (.inl 7) := g_k_new (kd := .inl 7) hC0.1 (by omega)
  refine tz_dupR (n := 9) (g_at ck_X3_init 4 rfl) rfl ?_
  refine tz_aload1 (n := 10) (g_at ck_X3_init 5 rfl) rfl (by omega) ?_
  refine tq_ci (nx := 13) (μ' := μX7_init) (As := [vR a1]) (r := (n + 1)) (mc' := 0) (ms' := 0) (cb' := 0) (sb' := 0) hC1 ml_X3_11 mo_X7_init mi_X7_init rfl rfl np_X7_init (by omega) (g_at ck_X3_init 6 rfl) rfl ⟨by decide, by decide⟩ (Nat.le_of_ble_eq_true rfl) (Nat.le_of_ble_eq_true rfl) (Nat.le_of_ble_eq_true rfl) ⟨okR (by omega), okR (by omega), okR (by omega), trivial⟩ ⟨okR (by omega), okR (by omega), trivial⟩ (nw_tokens (a1 := a1) hC1 hk1 (by omega)) ?_
  have hC2 := nw_tokens_C (a1 := a1) hC1 hk1 (by omega)
  refine tq_putFO (nx := 16) (kz := 0) hC2 fk_X3_14 rfl (g_in (g_m1 (List.mem_of_getElem? (i := 189) rfl)) rfl) rfl hk0 (g_at ck_X3_init 7 rfl) rfl rfl (by omega) (by omega) (fun hC3 => ?_)
  refine tz_aload0 (n := 17) (g_at ck_X3_init 8 rfl) rfl (by omega) ?_
  refine tz_aload2 (n := 18) (g_at ck_X3_init 9 rfl) rfl (by omega) ?_
  refine tq_putO (nx := 21) (kz := 1) hC3 fk_X3_20 hk0 (g_at ck_X3_init 10 rfl) rfl rfl (by omega) (by omega) (fun hC4 => ?_)
  refine tz_aload0 (n := 22) (g_at ck_X3_init 11 rfl) rfl (by omega) ?_
  refine tz_aload2 (n := 23) (g_at ck_X3_init 12 rfl) rfl (by omega) ?_
  refine tz_getOv (n := 26) (a := a3) fk_X3_24 (by first | exact hka | exact g_k_app hka | exact g_k_app (g_k_app hka)) (by simpa [tf, wr] using hv) (g_at ck_X3_init 13 rfl) rfl ?_
  refine tq_putO (nx := 29) (kz := 2) hC4 fk_X3_30 hk0 (g_at ck_X3_init 14 rfl) rfl rfl (by omega) (by omega) (fun hC5 => ?_)
  exact tz_vret (g_at ck_X3_init 15 rfl) rfl ⟨rfl, by simp only [List.append_assoc, List.cons_append, List.nil_append], rfl, rfl⟩
theorem nw_reader_C {K : List Kd} {T S : List (Int × Int × Int)} {n r : Int} {a1 : Int} {a2 : Int} {a3 : Int} (hC0 : CS K T S n) (hk0 : g_k K r = some (.inl 3)) (ha1 : 0 < a1 ∧ a1 ≤ n) (ha2 : 0 < a2 ∧ a2 ≤ n) (hv : tf T a2 7 = a3) (hka : g_k K a2 = some (.inl 6)) (ha3 : 0 < a3 ∧ a3 ≤ n) : CS (K ++ [.inl 7]) ((r, 2, a3) :: (r, 1, a2) :: (r, 0, (n + 1)) :: ((n + 1), 0, a1) :: T) (S) (n + 1) := by
  have hr0 := g_k_spec hk0
  have hKn := hC0.1
  have hr9 := (List.getElem?_eq_some_iff.mp hr0.2.1).1
  have hr8 : 0 < r ∧ r ≤ n := ⟨hr0.1, by omega⟩
  refine ⟨by rw [List.length_append]; simp only [List.length_cons, List.length_nil]; omega, ?_, ?_⟩
  · have hB := hC0.2.1.up (show n ≤ n + 1 by omega)
    exact ((((hB.c (r := (n + 1)) (k := 0) (x := a1) (by omega) (by omega)).c (r := r) (k := 0) (x := (n + 1)) (by omega) (by omega)).c (r := r) (k := 1) (x := a2) (by omega) (by omega)).c (r := r) (k := 2) (x := a3) (by omega) (by omega))
  · have hB := hC0.2.2.up (show n ≤ n + 1 by omega)
    exact hB
theorem nw_model {l : Launch} {γ : Gh} {K : List Kd} {T S : List (Int × Int × Int)} {n r : Int} (hC0 : CS K T S n) (hk0 : g_k K r = some (.inl 11))  : gE l γ μX11_init 1 37 18941 (rC (K ++ [.inr (0, 9), .inr (0, 9), .inr (0, 9), .inr (0, 45), .inr (0, 8), .inr (0, 1400), .inr (0, 700), .inr (0, 3), .inr (0, 9), .inr (0, 9), .inr (0, 9), .inr (0, 45), .inr (0, 8), .inr (0, 35), .inr (0, 1400), .inr (0, 950), .inr (1, 9), .inr (1, 9), .inr (0, 70), .inr (0, 1400), .inr (0, 45), .inr (0, 9), .inr (0, 8), .inr (0, 5), .inr (0, 950), .inr (0, 100), .inr (0, 100), .inr (0, 9), .inr (0, 4608), .inr (0, 512), .inr (0, 4608), .inr (0, 24), .inr (0, 8), .inr (0, 360), .inr (0, 35), .inr (0, 1400), .inr (0, 24)]) ((r, 68, (n + 37)) :: (r, 67, (n + 36)) :: (r, 66, (n + 35)) :: (r, 61, (n + 34)) :: (r, 60, (n + 33)) :: (r, 59, (n + 32)) :: (r, 57, (n + 31)) :: (r, 56, (n + 30)) :: (r, 55, (n + 29)) :: (r, 54, (n + 28)) :: (r, 53, (n + 27)) :: (r, 52, (n + 26)) :: (r, 50, (n + 25)) :: (r, 49, (n + 24)) :: (r, 48, (n + 23)) :: (r, 47, (n + 22)) :: (r, 46, (n + 21)) :: (r, 44, (n + 20)) :: (r, 43, (n + 19)) :: (r, 42, (n + 18)) :: (r, 41, (n + 17)) :: (r, 40, (n + 16)) :: (r, 39, (n + 15)) :: (r, 38, (n + 14)) :: (r, 37, (n + 13)) :: (r, 36, (n + 12)) :: (r, 35, (n + 11)) :: (r, 34, (n + 10)) :: (r, 33, (n + 9)) :: (r, 15, (n + 8)) :: (r, 11, (n + 7)) :: (r, 10, (n + 6)) :: (r, 9, (n + 5)) :: (r, 8, (n + 4)) :: (r, 7, (n + 3)) :: (r, 6, (n + 2)) :: (r, 5, (n + 1)) :: T) ((r, 14, (-1)) :: (r, 4, (-1)) :: (r, 3, (-1)) :: S)) xN K (tf T) (tf S) [vR r] := by
  have hr0 := g_k_spec hk0
  have hKn := hC0.1
  have hr9 := (List.getElem?_eq_some_iff.mp hr0.2.1).1
  have hr8 : 0 < r ∧ r ≤ n := ⟨hr0.1, by omega⟩
  refine gE.ofw cl_X11.2 ?_ rfl rfl (Nat.le_of_ble_eq_true rfl)
  show gT l γ μX11_init 1 37 18941 _ _ K (tf T) (tf S) 0 [some (vR r)] []
  refine tz_aload0 (n := 1) (g_at ck_X11_init 0 rfl) rfl (by omega) ?_
  refine tz_oinit (n := 4) (by omega) oi_X11_1 oi_1 oi_2 (g_at ck_X11_init 1 rfl) rfl (by decide) (Nat.le_of_ble_eq_true rfl) ?_
  refine tz_aload0 (n := 5) (g_at ck_X11_init 2 rfl) rfl (by omega) ?_
  refine tz_iconst (n := 6) (g_at ck_X11_init 3 rfl) rfl ?_
  refine tq_putI (nx := 9) (kz := 3) hC0 fk_X11_9 hk0 (g_at ck_X11_init 4 rfl) rfl rfl (by omega) (by omega) (fun hC1 => ?_)
  refine tz_aload0 (n := 10) (g_at ck_X11_init 5 rfl) rfl (by omega) ?_
  refine tz_iconst (n := 11) (g_at ck_X11_init 6 rfl) rfl ?_
  refine tq_putI (nx := 14) (kz := 4) hC1 fk_X11_13 hk0 (g_at ck_X11_init 7 rfl) rfl rfl (by omega) (by omega) (fun hC2 => ?_)
  refine tz_aload0 (n := 15) (g_at ck_X11_init 8 rfl) rfl (by omega) ?_
  refine tz_bipush (n := 17) (g_at ck_X11_init 9 rfl) rfl rfl ?_
  refine tq_newaI (N := 9) (nx := 19) (n9 := (n + 1)) (cb' := 36) (sb' := 18932) hC2 (by omega) rfl ⟨okR (by omega), trivial⟩ ⟨okR (by omega), trivial⟩ (Nat.le_of_ble_eq_true rfl) (g_at ck_X11_init 10 rfl) rfl ⟨Nat.le_of_ble_eq_true rfl, Nat.le_of_ble_eq_true rfl⟩ (fun hC3 => ?_)
  have hk0 := g_k_app (K1 := [.inr (0, 9)]) hk0
  refine tq_putFA (nx := 22) (kz := 5) hC3 fk_X11_16 rfl (g_in (g_m6 (List.mem_of_getElem? (i := 231) rfl)) rfl) rfl hk0 (g_at ck_X11_init 11 rfl) rfl rfl (by omega) (by omega) (fun hC4 => ?_)
  refine tz_aload0 (n := 23) (g_at ck_X11_init 12 rfl) rfl (by omega) ?_
  refine tz_bipush (n := 25) (g_at ck_X11_init 13 rfl) rfl rfl ?_
  refine tq_newaI (N := 9) (nx := 27) (n9 := (n + 2)) (cb' := 35) (sb' := 18923) hC4 (by omega) rfl ⟨okR (by omega), trivial⟩ ⟨okR (by omega), trivial⟩ (Nat.le_of_ble_eq_true rfl) (g_at ck_X11_init 14 rfl) rfl ⟨Nat.le_of_ble_eq_true rfl, Nat.le_of_ble_eq_true rfl⟩ (fun hC5 => ?_)
  have hk0 := g_k_app (K1 := [.inr (0, 9)]) hk0
  refine tq_putFA (nx := 30) (kz := 6) hC5 fk_X11_20 rfl (g_in (g_m6 (List.mem_of_getElem? (i := 232) rfl)) rfl) rfl hk0 (g_at ck_X11_init 15 rfl) rfl rfl (by omega) (by omega) (fun hC6 => ?_)
  refine tz_aload0 (n := 31) (g_at ck_X11_init 16 rfl) rfl (by omega) ?_
  refine tz_bipush (n := 33) (g_at ck_X11_init 17 rfl) rfl rfl ?_
  refine tq_newaI (N := 9) (nx := 35) (n9 := (n + 3)) (cb' := 34) (sb' := 18914) hC6 (by omega) rfl ⟨okR (by omega), trivial⟩ ⟨okR (by omega), trivial⟩ (Nat.le_of_ble_eq_true rfl) (g_at ck_X11_init 18 rfl) rfl ⟨Nat.le_of_ble_eq_true rfl, Nat.le_of_ble_eq_true rfl⟩ (fun hC7 => ?_)
  have hk0 := g_k_app (K1 := [.inr (0, 9)]) hk0
  refine tq_putFA (nx := 38) (kz := 7) hC7 fk_X11_23 rfl (g_in (g_m6 (List.mem_of_getElem? (i := 233) rfl)) rfl) rfl hk0 (g_at ck_X11_init 19 rfl) rfl rfl (by omega) (by omega) (fun hC8 => ?_)
  refine tz_aload0 (n := 39) (g_at ck_X11_init 20 rfl) rfl (by omega) ?_
  refine tz_bipush (n := 41) (g_at ck_X11_init 21 rfl) rfl rfl ?_
  refine tq_newaI (N := 45) (nx := 43) (n9 := (n + 4)) (cb' := 33) (sb' := 18869) hC8 (by omega) rfl ⟨okR (by omega), trivial⟩ ⟨okR (by omega), trivial⟩ (Nat.le_of_ble_eq_true rfl) (g_at ck_X11_init 22 rfl) rfl ⟨Nat.le_of_ble_eq_true rfl, Nat.le_of_ble_eq_true rfl⟩ (fun hC9 => ?_)
  have hk0 := g_k_app (K1 := [.inr (0, 45)]) hk0
  refine tq_putFA (nx := 46) (kz := 8) hC9 fk_X11_26 rfl (g_in (g_m6 (List.mem_of_getElem? (i := 234) rfl)) rfl) rfl hk0 (g_at ck_X11_init 23 rfl) rfl rfl (by omega) (by omega) (fun hC10 => ?_)
  refine tz_aload0 (n := 47) (g_at ck_X11_init 24 rfl) rfl (by omega) ?_
  refine tz_bipush (n := 49) (g_at ck_X11_init 25 rfl) rfl rfl ?_
  refine tq_newaI (N := 8) (nx := 51) (n9 := (n + 5)) (cb' := 32) (sb' := 18861) hC10 (by omega) rfl ⟨okR (by omega), trivial⟩ ⟨okR (by omega), trivial⟩ (Nat.le_of_ble_eq_true rfl) (g_at ck_X11_init 26 rfl) rfl ⟨Nat.le_of_ble_eq_true rfl, Nat.le_of_ble_eq_true rfl⟩ (fun hC11 => ?_)
  have hk0 := g_k_app (K1 := [.inr (0, 8)]) hk0
  refine tq_putFA (nx := 54) (kz := 9) hC11 fk_X11_29 rfl (g_in (g_m6 (List.mem_of_getElem? (i := 235) rfl)) rfl) rfl hk0 (g_at ck_X11_init 27 rfl) rfl rfl (by omega) (by omega) (fun hC12 => ?_)
  refine tz_aload0 (n := 55) (g_at ck_X11_init 28 rfl) rfl (by omega) ?_
  refine tz_sipush (n := 58) (g_at ck_X11_init 29 rfl) rfl rfl ?_
  refine tq_newaI (N := 1400) (nx := 60) (n9 := (n + 6)) (cb' := 31) (sb' := 17461) hC12 (by omega) rfl ⟨okR (by omega), trivial⟩ ⟨okR (by omega), trivial⟩ (Nat.le_of_ble_eq_true rfl) (g_at ck_X11_init 30 rfl) rfl ⟨Nat.le_of_ble_eq_true rfl, Nat.le_of_ble_eq_true rfl⟩ (fun hC13 => ?_)
  have hk0 := g_k_app (K1 := [.inr (0, 1400)]) hk0
  refine tq_putFA (nx := 63) (kz := 10) hC13 fk_X11_32 rfl (g_in (g_m6 (List.mem_of_getElem? (i := 236) rfl)) rfl) rfl hk0 (g_at ck_X11_init 31 rfl) rfl rfl (by omega) (by omega) (fun hC14 => ?_)
  refine tz_aload0 (n := 64) (g_at ck_X11_init 32 rfl) rfl (by omega) ?_
  refine tz_sipush (n := 67) (g_at ck_X11_init 33 rfl) rfl rfl ?_
  refine tq_newaI (N := 700) (nx := 69) (n9 := (n + 7)) (cb' := 30) (sb' := 16761) hC14 (by omega) rfl ⟨okR (by omega), trivial⟩ ⟨okR (by omega), trivial⟩ (Nat.le_of_ble_eq_true rfl) (g_at ck_X11_init 34 rfl) rfl ⟨Nat.le_of_ble_eq_true rfl, Nat.le_of_ble_eq_true rfl⟩ (fun hC15 => ?_)
  have hk0 := g_k_app (K1 := [.inr (0, 700)]) hk0
  refine tq_putFA (nx := 72) (kz := 11) hC15 fk_X11_35 rfl (g_in (g_m6 (List.mem_of_getElem? (i := 237) rfl)) rfl) rfl hk0 (g_at ck_X11_init 35 rfl) rfl rfl (by omega) (by omega) (fun hC16 => ?_)
  refine tz_aload0 (n := 73) (g_at ck_X11_init 36 rfl) rfl (by omega) ?_
  refine tz_iconst (n := 74) (g_at ck_X11_init 37 rfl) rfl ?_
  refine tq_putI (nx := 77) (kz := 14) hC16 fk_X11_38 hk0 (g_at ck_X11_init 38 rfl) rfl rfl (by omega) (by omega) (fun hC17 => ?_)
  refine tz_aload0 (n := 78) (g_at ck_X11_init 39 rfl) rfl (by omega) ?_
  refine tz_iconst (n := 79) (g_at ck_X11_init 40 rfl) rfl ?_
  refine tq_newaI (N := 3) (nx := 81) (n9 := (n + 8)) (cb' := 29) (sb' := 16758) hC17 (by omega) rfl ⟨okR (by omega), trivial⟩ ⟨okR (by omega), trivial⟩ (Nat.le_of_ble_eq_true rfl) (g_at ck_X11_init 41 rfl) rfl ⟨Nat.le_of_ble_eq_true rfl, Nat.le_of_ble_eq_true rfl⟩ (fun hC18 => ?_)
  have hk0 := g_k_app (K1 := [.inr (0, 3)]) hk0
  refine tq_putFA (nx := 84) (kz := 15) hC18 fk_X11_41 rfl (g_in (g_m7 (List.mem_of_getElem? (i := 1) rfl)) rfl) rfl hk0 (g_at ck_X11_init 42 rfl) rfl rfl (by omega) (by omega) (fun hC19 => ?_)
  refine tz_aload0 (n := 85) (g_at ck_X11_init 43 rfl) rfl (by omega) ?_
  refine tz_bipush (n := 87) (g_at ck_X11_init 44 rfl) rfl rfl ?_
  refine tq_newaI (N := 9) (nx := 89) (n9 := (n + 9)) (cb' := 28) (sb' := 16749) hC19 (by omega) rfl ⟨okR (by omega), trivial⟩ ⟨okR (by omega), trivial⟩ (Nat.le_of_ble_eq_true rfl) (g_at ck_X11_init 45 rfl) rfl ⟨Nat.le_of_ble_eq_true rfl, Nat.le_of_ble_eq_true rfl⟩ (fun hC20 => ?_)
  have hk0 := g_k_app (K1 := [.inr (0, 9)]) hk0
  refine tq_putFA (nx := 92) (kz := 33) hC20 fk_X11_44 rfl (g_in (g_m7 (List.mem_of_getElem? (i := 19) rfl)) rfl) rfl hk0 (g_at ck_X11_init 46 rfl) rfl rfl (by omega) (by omega) (fun hC21 => ?_)
  refine tz_aload0 (n := 93) (g_at ck_X11_init 47 rfl) rfl (by omega) ?_
  refine tz_bipush (n := 95) (g_at ck_X11_init 48 rfl) rfl rfl ?_
  refine tq_newaI (N := 9) (nx := 97) (n9 := (n + 10)) (cb' := 27) (sb' := 16740) hC21 (by omega) rfl ⟨okR (by omega), trivial⟩ ⟨okR (by omega), trivial⟩ (Nat.le_of_ble_eq_true rfl) (g_at ck_X11_init 49 rfl) rfl ⟨Nat.le_of_ble_eq_true rfl, Nat.le_of_ble_eq_true rfl⟩ (fun hC22 => ?_)
  have hk0 := g_k_app (K1 := [.inr (0, 9)]) hk0
  refine tq_putFA (nx := 100) (kz := 34) hC22 fk_X11_47 rfl (g_in (g_m7 (List.mem_of_getElem? (i := 20) rfl)) rfl) rfl hk0 (g_at ck_X11_init 50 rfl) rfl rfl (by omega) (by omega) (fun hC23 => ?_)
  refine tz_aload0 (n := 101) (g_at ck_X11_init 51 rfl) rfl (by omega) ?_
  refine tz_bipush (n := 103) (g_at ck_X11_init 52 rfl) rfl rfl ?_
  refine tq_newaI (N := 9) (nx := 105) (n9 := (n + 11)) (cb' := 26) (sb' := 16731) hC23 (by omega) rfl ⟨okR (by omega), trivial⟩ ⟨okR (by omega), trivial⟩ (Nat.le_of_ble_eq_true rfl) (g_at ck_X11_init 53 rfl) rfl ⟨Nat.le_of_ble_eq_true rfl, Nat.le_of_ble_eq_true rfl⟩ (fun hC24 => ?_)
  have hk0 := g_k_app (K1 := [.inr (0, 9)]) hk0
  refine tq_putFA (nx := 108) (kz := 35) hC24 fk_X11_50 rfl (g_in (g_m7 (List.mem_of_getElem? (i := 21) rfl)) rfl) rfl hk0 (g_at ck_X11_init 54 rfl) rfl rfl (by omega) (by omega) (fun hC25 => ?_)
  refine tz_aload0 (n := 109) (g_at ck_X11_init 55 rfl) rfl (by omega) ?_
  refine tz_bipush (n := 111) (g_at ck_X11_init 56 rfl) rfl rfl ?_
  refine tq_newaI (N := 45) (nx := 113) (n9 := (n + 12)) (cb' := 25) (sb' := 16686) hC25 (by omega) rfl ⟨okR (by omega), trivial⟩ ⟨okR (by omega), trivial⟩ (Nat.le_of_ble_eq_true rfl) (g_at ck_X11_init 57 rfl) rfl ⟨Nat.le_of_ble_eq_true rfl, Nat.le_of_ble_eq_true rfl⟩ (fun hC26 => ?_)
  have hk0 := g_k_app (K1 := [.inr (0, 45)]) hk0
  refine tq_putFA (nx := 116) (kz := 36) hC26 fk_X11_53 rfl (g_in (g_m7 (List.mem_of_getElem? (i := 22) rfl)) rfl) rfl hk0 (g_at ck_X11_init 58 rfl) rfl rfl (by omega) (by omega) (fun hC27 => ?_)
  refine tz_aload0 (n := 117) (g_at ck_X11_init 59 rfl) rfl (by omega) ?_
  refine tz_bipush (n := 119) (g_at ck_X11_init 60 rfl) rfl rfl ?_
  refine tq_newaI (N := 8) (nx := 121) (n9 := (n + 13)) (cb' := 24) (sb' := 16678) hC27 (by omega) rfl ⟨okR (by omega), trivial⟩ ⟨okR (by omega), trivial⟩ (Nat.le_of_ble_eq_true rfl) (g_at ck_X11_init 61 rfl) rfl ⟨Nat.le_of_ble_eq_true rfl, Nat.le_of_ble_eq_true rfl⟩ (fun hC28 => ?_)
  have hk0 := g_k_app (K1 := [.inr (0, 8)]) hk0
  refine tq_putFA (nx := 124) (kz := 37) hC28 fk_X11_56 rfl (g_in (g_m7 (List.mem_of_getElem? (i := 23) rfl)) rfl) rfl hk0 (g_at ck_X11_init 62 rfl) rfl rfl (by omega) (by omega) (fun hC29 => ?_)
  refine tz_aload0 (n := 125) (g_at ck_X11_init 63 rfl) rfl (by omega) ?_
  refine tz_bipush (n := 127) (g_at ck_X11_init 64 rfl) rfl rfl ?_
  refine tq_newaI (N := 35) (nx := 129) (n9 := (n + 14)) (cb' := 23) (sb' := 16643) hC29 (by omega) rfl ⟨okR (by omega), trivial⟩ ⟨okR (by omega), trivial⟩ (Nat.le_of_ble_eq_true rfl) (g_at ck_X11_init 65 rfl) rfl ⟨Nat.le_of_ble_eq_true rfl, Nat.le_of_ble_eq_true rfl⟩ (fun hC30 => ?_)
  have hk0 := g_k_app (K1 := [.inr (0, 35)]) hk0
  refine tq_putFA (nx := 132) (kz := 38) hC30 fk_X11_59 rfl (g_in (g_m7 (List.mem_of_getElem? (i := 24) rfl)) rfl) rfl hk0 (g_at ck_X11_init 66 rfl) rfl rfl (by omega) (by omega) (fun hC31 => ?_)
  refine tz_aload0 (n := 133) (g_at ck_X11_init 67 rfl) rfl (by omega) ?_
  refine tz_sipush (n := 136) (g_at ck_X11_init 68 rfl) rfl rfl ?_
  refine tq_newaI (N := 1400) (nx := 138) (n9 := (n + 15)) (cb' := 22) (sb' := 15243) hC31 (by omega) rfl ⟨okR (by omega), trivial⟩ ⟨okR (by omega), trivial⟩ (Nat.le_of_ble_eq_true rfl) (g_at ck_X11_init 69 rfl) rfl ⟨Nat.le_of_ble_eq_true rfl, Nat.le_of_ble_eq_true rfl⟩ (fun hC32 => ?_)
  have hk0 := g_k_app (K1 := [.inr (0, 1400)]) hk0
  refine tq_putFA (nx := 141) (kz := 39) hC32 fk_X11_62 rfl (g_in (g_m7 (List.mem_of_getElem? (i := 25) rfl)) rfl) rfl hk0 (g_at ck_X11_init 70 rfl) rfl rfl (by omega) (by omega) (fun hC33 => ?_)
  refine tz_aload0 (n := 142) (g_at ck_X11_init 71 rfl) rfl (by omega) ?_
  refine tz_sipush (n := 145) (g_at ck_X11_init 72 rfl) rfl rfl ?_
  refine tq_newaI (N := 950) (nx := 147) (n9 := (n + 16)) (cb' := 21) (sb' := 14293) hC33 (by omega) rfl ⟨okR (by omega), trivial⟩ ⟨okR (by omega), trivial⟩ (Nat.le_of_ble_eq_true rfl) (g_at ck_X11_init 73 rfl) rfl ⟨Nat.le_of_ble_eq_true rfl, Nat.le_of_ble_eq_true rfl⟩ (fun hC34 => ?_)
  have hk0 := g_k_app (K1 := [.inr (0, 950)]) hk0
  refine tq_putFA (nx := 150) (kz := 40) hC34 fk_X11_65 rfl (g_in (g_m7 (List.mem_of_getElem? (i := 26) rfl)) rfl) rfl hk0 (g_at ck_X11_init 74 rfl) rfl rfl (by omega) (by omega) (fun hC35 => ?_)
  refine tz_aload0 (n := 151) (g_at ck_X11_init 75 rfl) rfl (by omega) ?_
  refine tz_bipush (n := 153) (g_at ck_X11_init 76 rfl) rfl rfl ?_
  refine tq_newaZ (N := 9) (nx := 155) (n9 := (n + 17)) (cb' := 20) (sb' := 14284) hC35 (by omega) rfl ⟨okR (by omega), trivial⟩ ⟨okR (by omega), trivial⟩ (Nat.le_of_ble_eq_true rfl) (g_at ck_X11_init 77 rfl) rfl ⟨Nat.le_of_ble_eq_true rfl, Nat.le_of_ble_eq_true rfl⟩ (fun hC36 => ?_)
  have hk0 := g_k_app (K1 := [.inr (1, 9)]) hk0
  refine tq_putFA (nx := 158) (kz := 41) hC36 fk_X11_68 rfl (g_in (g_m7 (List.mem_of_getElem? (i := 27) rfl)) rfl) rfl hk0 (g_at ck_X11_init 78 rfl) rfl rfl (by omega) (by omega) (fun hC37 => ?_)
  refine tz_aload0 (n := 159) (g_at ck_X11_init 79 rfl) rfl (by omega) ?_
  refine tz_bipush (n := 161) (g_at ck_X11_init 80 rfl) rfl rfl ?_
  refine tq_newaZ (N := 9) (nx := 163) (n9 := (n + 18)) (cb' := 19) (sb' := 14275) hC37 (by omega) rfl ⟨okR (by omega), trivial⟩ ⟨okR (by omega), trivial⟩ (Nat.le_of_ble_eq_true rfl) (g_at ck_X11_init 81 rfl) rfl ⟨Nat.le_of_ble_eq_true rfl, Nat.le_of_ble_eq_true rfl⟩ (fun hC38 => ?_)
  have hk0 := g_k_app (K1 := [.inr (1, 9)]) hk0
  refine tq_putFA (nx := 166) (kz := 42) hC38 fk_X11_72 rfl (g_in (g_m7 (List.mem_of_getElem? (i := 28) rfl)) rfl) rfl hk0 (g_at ck_X11_init 82 rfl) rfl rfl (by omega) (by omega) (fun hC39 => ?_)
  refine tz_aload0 (n := 167) (g_at ck_X11_init 83 rfl) rfl (by omega) ?_
  refine tz_bipush (n := 169) (g_at ck_X11_init 84 rfl) rfl rfl ?_
  refine tq_newaI (N := 70) (nx := 171) (n9 := (n + 19)) (cb' := 18) (sb' := 14205) hC39 (by omega) rfl ⟨okR (by omega), trivial⟩ ⟨okR (by omega), trivial⟩ (Nat.le_of_ble_eq_true rfl) (g_at ck_X11_init 85 rfl) rfl ⟨Nat.le_of_ble_eq_true rfl, Nat.le_of_ble_eq_true rfl⟩ (fun hC40 => ?_)
  have hk0 := g_k_app (K1 := [.inr (0, 70)]) hk0
  refine tq_putFA (nx := 174) (kz := 43) hC40 fk_X11_75 rfl (g_in (g_m7 (List.mem_of_getElem? (i := 29) rfl)) rfl) rfl hk0 (g_at ck_X11_init 86 rfl) rfl rfl (by omega) (by omega) (fun hC41 => ?_)
  refine tz_aload0 (n := 175) (g_at ck_X11_init 87 rfl) rfl (by omega) ?_
  refine tz_sipush (n := 178) (g_at ck_X11_init 88 rfl) rfl rfl ?_
  refine tq_newaI (N := 1400) (nx := 180) (n9 := (n + 20)) (cb' := 17) (sb' := 12805) hC41 (by omega) rfl ⟨okR (by omega), trivial⟩ ⟨okR (by omega), trivial⟩ (Nat.le_of_ble_eq_true rfl) (g_at ck_X11_init 89 rfl) rfl ⟨Nat.le_of_ble_eq_true rfl, Nat.le_of_ble_eq_true rfl⟩ (fun hC42 => ?_)
  have hk0 := g_k_app (K1 := [.inr (0, 1400)]) hk0
  refine tq_putFA (nx := 183) (kz := 44) hC42 fk_X11_78 rfl (g_in (g_m7 (List.mem_of_getElem? (i := 30) rfl)) rfl) rfl hk0 (g_at ck_X11_init 90 rfl) rfl rfl (by omega) (by omega) (fun hC43 => ?_)
  refine tz_aload0 (n := 184) (g_at ck_X11_init 91 rfl) rfl (by omega) ?_
  refine tz_bipush (n := 186) (g_at ck_X11_init 92 rfl) rfl rfl ?_
  refine tq_newaI (N := 45) (nx := 188) (n9 := (n + 21)) (cb' := 16) (sb' := 12760) hC43 (by omega) rfl ⟨okR (by omega), trivial⟩ ⟨okR (by omega), trivial⟩ (Nat.le_of_ble_eq_true rfl) (g_at ck_X11_init 93 rfl) rfl ⟨Nat.le_of_ble_eq_true rfl, Nat.le_of_ble_eq_true rfl⟩ (fun hC44 => ?_)
  have hk0 := g_k_app (K1 := [.inr (0, 45)]) hk0
  refine tq_putFA (nx := 191) (kz := 46) hC44 fk_X11_81 rfl (g_in (g_m7 (List.mem_of_getElem? (i := 32) rfl)) rfl) rfl hk0 (g_at ck_X11_init 94 rfl) rfl rfl (by omega) (by omega) (fun hC45 => ?_)
  refine tz_aload0 (n := 192) (g_at ck_X11_init 95 rfl) rfl (by omega) ?_
  refine tz_bipush (n := 194) (g_at ck_X11_init 96 rfl) rfl rfl ?_
  refine tq_newaI (N := 9) (nx := 196) (n9 := (n + 22)) (cb' := 15) (sb' := 12751) hC45 (by omega) rfl ⟨okR (by omega), trivial⟩ ⟨okR (by omega), trivial⟩ (Nat.le_of_ble_eq_true rfl) (g_at ck_X11_init 97 rfl) rfl ⟨Nat.le_of_ble_eq_true rfl, Nat.le_of_ble_eq_true rfl⟩ (fun hC46 => ?_)
  have hk0 := g_k_app (K1 := [.inr (0, 9)]) hk0
  refine tq_putFA (nx := 199) (kz := 47) hC46 fk_X11_84 rfl (g_in (g_m7 (List.mem_of_getElem? (i := 33) rfl)) rfl) rfl hk0 (g_at ck_X11_init 98 rfl) rfl rfl (by omega) (by omega) (fun hC47 => ?_)
  refine tz_aload0 (n := 200) (g_at ck_X11_init 99 rfl) rfl (by omega) ?_
  refine tz_bipush (n := 202) (g_at ck_X11_init 100 rfl) rfl rfl ?_
  refine tq_newaI (N := 8) (nx := 204) (n9 := (n + 23)) (cb' := 14) (sb' := 12743) hC47 (by omega) rfl ⟨okR (by omega), trivial⟩ ⟨okR (by omega), trivial⟩ (Nat.le_of_ble_eq_true rfl) (g_at ck_X11_init 101 rfl) rfl ⟨Nat.le_of_ble_eq_true rfl, Nat.le_of_ble_eq_true rfl⟩ (fun hC48 => ?_)
  have hk0 := g_k_app (K1 := [.inr (0, 8)]) hk0
  refine tq_putFA (nx := 207) (kz := 48) hC48 fk_X11_87 rfl (g_in (g_m7 (List.mem_of_getElem? (i := 34) rfl)) rfl) rfl hk0 (g_at ck_X11_init 102 rfl) rfl rfl (by omega) (by omega) (fun hC49 => ?_)
  refine tz_aload0 (n := 208) (g_at ck_X11_init 103 rfl) rfl (by omega) ?_
  refine tz_iconst (n := 209) (g_at ck_X11_init 104 rfl) rfl ?_
  refine tq_newaI (N := 5) (nx := 211) (n9 := (n + 24)) (cb' := 13) (sb' := 12738) hC49 (by omega) rfl ⟨okR (by omega), trivial⟩ ⟨okR (by omega), trivial⟩ (Nat.le_of_ble_eq_true rfl) (g_at ck_X11_init 105 rfl) rfl ⟨Nat.le_of_ble_eq_true rfl, Nat.le_of_ble_eq_true rfl⟩ (fun hC50 => ?_)
  have hk0 := g_k_app (K1 := [.inr (0, 5)]) hk0
  refine tq_putFA (nx := 214) (kz := 49) hC50 fk_X11_90 rfl (g_in (g_m7 (List.mem_of_getElem? (i := 35) rfl)) rfl) rfl hk0 (g_at ck_X11_init 106 rfl) rfl rfl (by omega) (by omega) (fun hC51 => ?_)
  refine tz_aload0 (n := 215) (g_at ck_X11_init 107 rfl) rfl (by omega) ?_
  refine tz_sipush (n := 218) (g_at ck_X11_init 108 rfl) rfl rfl ?_
  refine tq_newaI (N := 950) (nx := 220) (n9 := (n + 25)) (cb' := 12) (sb' := 11788) hC51 (by omega) rfl ⟨okR (by omega), trivial⟩ ⟨okR (by omega), trivial⟩ (Nat.le_of_ble_eq_true rfl) (g_at ck_X11_init 109 rfl) rfl ⟨Nat.le_of_ble_eq_true rfl, Nat.le_of_ble_eq_true rfl⟩ (fun hC52 => ?_)
  have hk0 := g_k_app (K1 := [.inr (0, 950)]) hk0
  refine tq_putFA (nx := 223) (kz := 50) hC52 fk_X11_93 rfl (g_in (g_m7 (List.mem_of_getElem? (i := 36) rfl)) rfl) rfl hk0 (g_at ck_X11_init 110 rfl) rfl rfl (by omega) (by omega) (fun hC53 => ?_)
  refine tz_aload0 (n := 224) (g_at ck_X11_init 111 rfl) rfl (by omega) ?_
  refine tz_bipush (n := 226) (g_at ck_X11_init 112 rfl) rfl rfl ?_
  refine tq_newaI (N := 100) (nx := 228) (n9 := (n + 26)) (cb' := 11) (sb' := 11688) hC53 (by omega) rfl ⟨okR (by omega), trivial⟩ ⟨okR (by omega), trivial⟩ (Nat.le_of_ble_eq_true rfl) (g_at ck_X11_init 113 rfl) rfl ⟨Nat.le_of_ble_eq_true rfl, Nat.le_of_ble_eq_true rfl⟩ (fun hC54 => ?_)
  have hk0 := g_k_app (K1 := [.inr (0, 100)]) hk0
  refine tq_putFA (nx := 231) (kz := 52) hC54 fk_X11_96 rfl (g_in (g_m7 (List.mem_of_getElem? (i := 38) rfl)) rfl) rfl hk0 (g_at ck_X11_init 114 rfl) rfl rfl (by omega) (by omega) (fun hC55 => ?_)
  refine tz_aload0 (n := 232) (g_at ck_X11_init 115 rfl) rfl (by omega) ?_
  refine tz_bipush (n := 234) (g_at ck_X11_init 116 rfl) rfl rfl ?_
  refine tq_newaI (N := 100) (nx := 236) (n9 := (n + 27)) (cb' := 10) (sb' := 11588) hC55 (by omega) rfl ⟨okR (by omega), trivial⟩ ⟨okR (by omega), trivial⟩ (Nat.le_of_ble_eq_true rfl) (g_at ck_X11_init 117 rfl) rfl ⟨Nat.le_of_ble_eq_true rfl, Nat.le_of_ble_eq_true rfl⟩ (fun hC56 => ?_)
  have hk0 := g_k_app (K1 := [.inr (0, 100)]) hk0
  refine tq_putFA (nx := 239) (kz := 53) hC56 fk_X11_99 rfl (g_in (g_m7 (List.mem_of_getElem? (i := 39) rfl)) rfl) rfl hk0 (g_at ck_X11_init 118 rfl) rfl rfl (by omega) (by omega) (fun hC57 => ?_)
  refine tz_aload0 (n := 240) (g_at ck_X11_init 119 rfl) rfl (by omega) ?_
  refine tz_bipush (n := 242) (g_at ck_X11_init 120 rfl) rfl rfl ?_
  refine tq_newaI (N := 9) (nx := 244) (n9 := (n + 28)) (cb' := 9) (sb' := 11579) hC57 (by omega) rfl ⟨okR (by omega), trivial⟩ ⟨okR (by omega), trivial⟩ (Nat.le_of_ble_eq_true rfl) (g_at ck_X11_init 121 rfl) rfl ⟨Nat.le_of_ble_eq_true rfl, Nat.le_of_ble_eq_true rfl⟩ (fun hC58 => ?_)
  have hk0 := g_k_app (K1 := [.inr (0, 9)]) hk0
  refine tq_putFA (nx := 247) (kz := 54) hC58 fk_X11_102 rfl (g_in (g_m7 (List.mem_of_getElem? (i := 40) rfl)) rfl) rfl hk0 (g_at ck_X11_init 122 rfl) rfl rfl (by omega) (by omega) (fun hC59 => ?_)
  refine tz_aload0 (n := 248) (g_at ck_X11_init 123 rfl) rfl (by omega) ?_
  refine tz_sipush (n := 251) (g_at ck_X11_init 124 rfl) rfl rfl ?_
  refine tq_newaI (N := 4608) (nx := 253) (n9 := (n + 29)) (cb' := 8) (sb' := 6971) hC59 (by omega) rfl ⟨okR (by omega), trivial⟩ ⟨okR (by omega), trivial⟩ (Nat.le_of_ble_eq_true rfl) (g_at ck_X11_init 125 rfl) rfl ⟨Nat.le_of_ble_eq_true rfl, Nat.le_of_ble_eq_true rfl⟩ (fun hC60 => ?_)
  have hk0 := g_k_app (K1 := [.inr (0, 4608)]) hk0
  refine tq_putFA (nx := 256) (kz := 55) hC60 fk_X11_105 rfl (g_in (g_m7 (List.mem_of_getElem? (i := 41) rfl)) rfl) rfl hk0 (g_at ck_X11_init 126 rfl) rfl rfl (by omega) (by omega) (fun hC61 => ?_)
  refine tz_aload0 (n := 257) (g_at ck_X11_init 127 rfl) rfl (by omega) ?_
  refine tz_sipush (n := 260) (g_at ck_X11_init 128 rfl) rfl rfl ?_
  refine tq_newaI (N := 512) (nx := 262) (n9 := (n + 30)) (cb' := 7) (sb' := 6459) hC61 (by omega) rfl ⟨okR (by omega), trivial⟩ ⟨okR (by omega), trivial⟩ (Nat.le_of_ble_eq_true rfl) (g_at ck_X11_init 129 rfl) rfl ⟨Nat.le_of_ble_eq_true rfl, Nat.le_of_ble_eq_true rfl⟩ (fun hC62 => ?_)
  have hk0 := g_k_app (K1 := [.inr (0, 512)]) hk0
  refine tq_putFA (nx := 265) (kz := 56) hC62 fk_X11_108 rfl (g_in (g_m7 (List.mem_of_getElem? (i := 42) rfl)) rfl) rfl hk0 (g_at ck_X11_init 130 rfl) rfl rfl (by omega) (by omega) (fun hC63 => ?_)
  refine tz_aload0 (n := 266) (g_at ck_X11_init 131 rfl) rfl (by omega) ?_
  refine tz_sipush (n := 269) (g_at ck_X11_init 132 rfl) rfl rfl ?_
  refine tq_newaI (N := 4608) (nx := 271) (n9 := (n + 31)) (cb' := 6) (sb' := 1851) hC63 (by omega) rfl ⟨okR (by omega), trivial⟩ ⟨okR (by omega), trivial⟩ (Nat.le_of_ble_eq_true rfl) (g_at ck_X11_init 133 rfl) rfl ⟨Nat.le_of_ble_eq_true rfl, Nat.le_of_ble_eq_true rfl⟩ (fun hC64 => ?_)
  have hk0 := g_k_app (K1 := [.inr (0, 4608)]) hk0
  refine tq_putFA (nx := 274) (kz := 57) hC64 fk_X11_111 rfl (g_in (g_m7 (List.mem_of_getElem? (i := 43) rfl)) rfl) rfl hk0 (g_at ck_X11_init 134 rfl) rfl rfl (by omega) (by omega) (fun hC65 => ?_)
  refine tz_aload0 (n := 275) (g_at ck_X11_init 135 rfl) rfl (by omega) ?_
  refine tz_bipush (n := 277) (g_at ck_X11_init 136 rfl) rfl rfl ?_
  refine tq_newaI (N := 24) (nx := 279) (n9 := (n + 32)) (cb' := 5) (sb' := 1827) hC65 (by omega) rfl ⟨okR (by omega), trivial⟩ ⟨okR (by omega), trivial⟩ (Nat.le_of_ble_eq_true rfl) (g_at ck_X11_init 137 rfl) rfl ⟨Nat.le_of_ble_eq_true rfl, Nat.le_of_ble_eq_true rfl⟩ (fun hC66 => ?_)
  have hk0 := g_k_app (K1 := [.inr (0, 24)]) hk0
  refine tq_putFA (nx := 282) (kz := 59) hC66 fk_X11_114 rfl (g_in (g_m7 (List.mem_of_getElem? (i := 45) rfl)) rfl) rfl hk0 (g_at ck_X11_init 138 rfl) rfl rfl (by omega) (by omega) (fun hC67 => ?_)
  refine tz_aload0 (n := 283) (g_at ck_X11_init 139 rfl) rfl (by omega) ?_
  refine tz_bipush (n := 285) (g_at ck_X11_init 140 rfl) rfl rfl ?_
  refine tq_newaI (N := 8) (nx := 287) (n9 := (n + 33)) (cb' := 4) (sb' := 1819) hC67 (by omega) rfl ⟨okR (by omega), trivial⟩ ⟨okR (by omega), trivial⟩ (Nat.le_of_ble_eq_true rfl) (g_at ck_X11_init 141 rfl) rfl ⟨Nat.le_of_ble_eq_true rfl, Nat.le_of_ble_eq_true rfl⟩ (fun hC68 => ?_)
  have hk0 := g_k_app (K1 := [.inr (0, 8)]) hk0
  refine tq_putFA (nx := 290) (kz := 60) hC68 fk_X11_117 rfl (g_in (g_m7 (List.mem_of_getElem? (i := 46) rfl)) rfl) rfl hk0 (g_at ck_X11_init 142 rfl) rfl rfl (by omega) (by omega) (fun hC69 => ?_)
  refine tz_aload0 (n := 291) (g_at ck_X11_init 143 rfl) rfl (by omega) ?_
  refine tz_sipush (n := 294) (g_at ck_X11_init 144 rfl) rfl rfl ?_
  refine tq_newaI (N := 360) (nx := 296) (n9 := (n + 34)) (cb' := 3) (sb' := 1459) hC69 (by omega) rfl ⟨okR (by omega), trivial⟩ ⟨okR (by omega), trivial⟩ (Nat.le_of_ble_eq_true rfl) (g_at ck_X11_init 145 rfl) rfl ⟨Nat.le_of_ble_eq_true rfl, Nat.le_of_ble_eq_true rfl⟩ (fun hC70 => ?_)
  have hk0 := g_k_app (K1 := [.inr (0, 360)]) hk0
  refine tq_putFA (nx := 299) (kz := 61) hC70 fk_X11_120 rfl (g_in (g_m7 (List.mem_of_getElem? (i := 47) rfl)) rfl) rfl hk0 (g_at ck_X11_init 146 rfl) rfl rfl (by omega) (by omega) (fun hC71 => ?_)
  refine tz_aload0 (n := 300) (g_at ck_X11_init 147 rfl) rfl (by omega) ?_
  refine tz_bipush (n := 302) (g_at ck_X11_init 148 rfl) rfl rfl ?_
  refine tq_newaI (N := 35) (nx := 304) (n9 := (n + 35)) (cb' := 2) (sb' := 1424) hC71 (by omega) rfl ⟨okR (by omega), trivial⟩ ⟨okR (by omega), trivial⟩ (Nat.le_of_ble_eq_true rfl) (g_at ck_X11_init 149 rfl) rfl ⟨Nat.le_of_ble_eq_true rfl, Nat.le_of_ble_eq_true rfl⟩ (fun hC72 => ?_)
  have hk0 := g_k_app (K1 := [.inr (0, 35)]) hk0
  refine tq_putFA (nx := 307) (kz := 66) hC72 fk_X11_123 rfl (g_in (g_m7 (List.mem_of_getElem? (i := 52) rfl)) rfl) rfl hk0 (g_at ck_X11_init 150 rfl) rfl rfl (by omega) (by omega) (fun hC73 => ?_)
  refine tz_aload0 (n := 308) (g_at ck_X11_init 151 rfl) rfl (by omega) ?_
  refine tz_sipush (n := 311) (g_at ck_X11_init 152 rfl) rfl rfl ?_
  refine tq_newaI (N := 1400) (nx := 313) (n9 := (n + 36)) (cb' := 1) (sb' := 24) hC73 (by omega) rfl ⟨okR (by omega), trivial⟩ ⟨okR (by omega), trivial⟩ (Nat.le_of_ble_eq_true rfl) (g_at ck_X11_init 153 rfl) rfl ⟨Nat.le_of_ble_eq_true rfl, Nat.le_of_ble_eq_true rfl⟩ (fun hC74 => ?_)
  have hk0 := g_k_app (K1 := [.inr (0, 1400)]) hk0
  refine tq_putFA (nx := 316) (kz := 67) hC74 fk_X11_126 rfl (g_in (g_m7 (List.mem_of_getElem? (i := 53) rfl)) rfl) rfl hk0 (g_at ck_X11_init 154 rfl) rfl rfl (by omega) (by omega) (fun hC75 => ?_)
  refine tz_aload0 (n := 317) (g_at ck_X11_init 155 rfl) rfl (by omega) ?_
  refine tz_bipush (n := 319) (g_at ck_X11_init 156 rfl) rfl rfl ?_
  refine tq_newaI (N := 24) (nx := 321) (n9 := (n + 37)) (cb' := 0) (sb' := 0) hC75 (by omega) rfl ⟨okR (by omega), trivial⟩ ⟨okR (by omega), trivial⟩ (Nat.le_of_ble_eq_true rfl) (g_at ck_X11_init 157 rfl) rfl ⟨Nat.le_of_ble_eq_true rfl, Nat.le_of_ble_eq_true rfl⟩ (fun hC76 => ?_)
  have hk0 := g_k_app (K1 := [.inr (0, 24)]) hk0
  refine tq_putFA (nx := 324) (kz := 68) hC76 fk_X11_129 rfl (g_in (g_m7 (List.mem_of_getElem? (i := 54) rfl)) rfl) rfl hk0 (g_at ck_X11_init 158 rfl) rfl rfl (by omega) (by omega) (fun hC77 => ?_)
  exact tz_vret (g_at ck_X11_init 159 rfl) rfl ⟨rfl, by simp only [List.append_assoc, List.cons_append, List.nil_append], rfl, rfl⟩
theorem nw_model_C {K : List Kd} {T S : List (Int × Int × Int)} {n r : Int} (hC0 : CS K T S n) (hk0 : g_k K r = some (.inl 11))  : CS (K ++ [.inr (0, 9), .inr (0, 9), .inr (0, 9), .inr (0, 45), .inr (0, 8), .inr (0, 1400), .inr (0, 700), .inr (0, 3), .inr (0, 9), .inr (0, 9), .inr (0, 9), .inr (0, 45), .inr (0, 8), .inr (0, 35), .inr (0, 1400), .inr (0, 950), .inr (1, 9), .inr (1, 9), .inr (0, 70), .inr (0, 1400), .inr (0, 45), .inr (0, 9), .inr (0, 8), .inr (0, 5), .inr (0, 950), .inr (0, 100), .inr (0, 100), .inr (0, 9), .inr (0, 4608), .inr (0, 512), .inr (0, 4608), .inr (0, 24), .inr (0, 8), .inr (0, 360), .inr (0, 35), .inr (0, 1400), .inr (0, 24)]) ((r, 68, (n + 37)) :: (r, 67, (n + 36)) :: (r, 66, (n + 35)) :: (r, 61, (n + 34)) :: (r, 60, (n + 33)) :: (r, 59, (n + 32)) :: (r, 57, (n + 31)) :: (r, 56, (n + 30)) :: (r, 55, (n + 29)) :: (r, 54, (n + 28)) :: (r, 53, (n + 27)) :: (r, 52, (n + 26)) :: (r, 50, (n + 25)) :: (r, 49, (n + 24)) :: (r, 48, (n + 23)) :: (r, 47, (n + 22)) :: (r, 46, (n + 21)) :: (r, 44, (n + 20)) :: (r, 43, (n + 19)) :: (r, 42, (n + 18)) :: (r, 41, (n + 17)) :: (r, 40, (n + 16)) :: (r, 39, (n + 15)) :: (r, 38, (n + 14)) :: (r, 37, (n + 13)) :: (r, 36, (n + 12)) :: (r, 35, (n + 11)) :: (r, 34, (n + 10)) :: (r, 33, (n + 9)) :: (r, 15, (n + 8)) :: (r, 11, (n + 7)) :: (r, 10, (n + 6)) :: (r, 9, (n + 5)) :: (r, 8, (n + 4)) :: (r, 7, (n + 3)) :: (r, 6, (n + 2)) :: (r, 5, (n + 1)) :: T) ((r, 14, (-1)) :: (r, 4, (-1)) :: (r, 3, (-1)) :: S) (n + 37) := by
  have hr0 := g_k_spec hk0
  have hKn := hC0.1
  have hr9 := (List.getElem?_eq_some_iff.mp hr0.2.1).1
  have hr8 : 0 < r ∧ r ≤ n := ⟨hr0.1, by omega⟩
  refine ⟨by rw [List.length_append]; simp only [List.length_cons, List.length_nil]; omega, ?_, ?_⟩
  · have hB := hC0.2.1.up (show n ≤ n + 37 by omega)
    exact (((((((((((((((((((((((((((((((((((((hB.c (r := r) (k := 5) (x := (n + 1)) (by omega) (by omega)).c (r := r) (k := 6) (x := (n + 2)) (by omega) (by omega)).c (r := r) (k := 7) (x := (n + 3)) (by omega) (by omega)).c (r := r) (k := 8) (x := (n + 4)) (by omega) (by omega)).c (r := r) (k := 9) (x := (n + 5)) (by omega) (by omega)).c (r := r) (k := 10) (x := (n + 6)) (by omega) (by omega)).c (r := r) (k := 11) (x := (n + 7)) (by omega) (by omega)).c (r := r) (k := 15) (x := (n + 8)) (by omega) (by omega)).c (r := r) (k := 33) (x := (n + 9)) (by omega) (by omega)).c (r := r) (k := 34) (x := (n + 10)) (by omega) (by omega)).c (r := r) (k := 35) (x := (n + 11)) (by omega) (by omega)).c (r := r) (k := 36) (x := (n + 12)) (by omega) (by omega)).c (r := r) (k := 37) (x := (n + 13)) (by omega) (by omega)).c (r := r) (k := 38) (x := (n + 14)) (by omega) (by omega)).c (r := r) (k := 39) (x := (n + 15)) (by omega) (by omega)).c (r := r) (k := 40) (x := (n + 16)) (by omega) (by omega)).c (r := r) (k := 41) (x := (n + 17)) (by omega) (by omega)).c (r := r) (k := 42) (x := (n + 18)) (by omega) (by omega)).c (r := r) (k := 43) (x := (n + 19)) (by omega) (by omega)).c (r := r) (k := 44) (x := (n + 20)) (by omega) (by omega)).c (r := r) (k := 46) (x := (n + 21)) (by omega) (by omega)).c (r := r) (k := 47) (x := (n + 22)) (by omega) (by omega)).c (r := r) (k := 48) (x := (n + 23)) (by omega) (by omega)).c (r := r) (k := 49) (x := (n + 24)) (by omega) (by omega)).c (r := r) (k := 50) (x := (n + 25)) (by omega) (by omega)).c (r := r) (k := 52) (x := (n + 26)) (by omega) (by omega)).c (r := r) (k := 53) (x := (n + 27)) (by omega) (by omega)).c (r := r) (k := 54) (x := (n + 28)) (by omega) (by omega)).c (r := r) (k := 55) (x := (n + 29)) (by omega) (by omega)).c (r := r) (k := 56) (x := (n + 30)) (by omega) (by omega)).c (r := r) (k := 57) (x := (n + 31)) (by omega) (by omega)).c (r := r) (k := 59) (x := (n + 32)) (by omega) (by omega)).c (r := r) (k := 60) (x := (n + 33)) (by omega) (by omega)).c (r := r) (k := 61) (x := (n + 34)) (by omega) (by omega)).c (r := r) (k := 66) (x := (n + 35)) (by omega) (by omega)).c (r := r) (k := 67) (x := (n + 36)) (by omega) (by omega)).c (r := r) (k := 68) (x := (n + 37)) (by omega) (by omega))
  · have hB := hC0.2.2.up (show n ≤ n + 37 by omega)
    exact (((hB.c (r := r) (k := 3) (x := (-1)) (by omega) (by omega)).c (r := r) (k := 4) (x := (-1)) (by omega) (by omega)).c (r := r) (k := 14) (x := (-1)) (by omega) (by omega))
