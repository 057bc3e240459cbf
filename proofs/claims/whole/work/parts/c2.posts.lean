/-! The class is made. -/
def KA : List Kd := [.inl 10, .inr (0, 700), .inl 6, .inr (0, 9), .inr (0, 9), .inr (0, 9), .inr (0, 45), .inr (0, 8), .inl 4, .inr (0, 700), .inr (0, 40), .inl 4, .inr (0, 700), .inr (0, 40), .inl 2, .inr (0, 8), .inr (0, 8), .inr (0, 9), .inr (0, 9), .inl 6, .inr (0, 9), .inr (0, 9), .inr (0, 9), .inr (0, 45), .inr (0, 8), .inl 4, .inr (0, 700), .inr (0, 40), .inl 4, .inr (0, 700), .inr (0, 40), .inl 2, .inr (0, 8), .inr (0, 8), .inr (0, 9), .inr (0, 9), .inl 3, .inl 7, .inl 2, .inr (0, 8), .inr (0, 8), .inr (0, 9), .inr (0, 9), .inl 0, .inr (0, 1400), .inl 5, .inr (0, 8), .inr (0, 8), .inr (0, 8), .inl 2, .inr (0, 8), .inr (0, 8), .inr (0, 9), .inr (0, 9), .inl 0, .inr (0, 1400), .inl 5, .inr (0, 8), .inr (0, 8), .inr (0, 8), .inr (0, 3), .inl 8, .inl 2, .inr (0, 8), .inr (0, 8), .inr (0, 9), .inr (0, 9), .inr (0, 8), .inr (0, 45), .inr (0, 5), .inl 9, .inr (0, 81), .inr (0, 81), .inr (0, 9), .inr (0, 9), .inr (0, 9), .inr (0, 8), .inr (0, 8), .inr (0, 4608), .inl 1, .inr (0, 9), .inr (0, 8), .inr (0, 8)]
def TA : List (Int × Int × Int) := [(1, 19, 83), (1, 18, 82), (1, 17, 81), (1, 16, 80), (1, 15, 71), (71, 0, 3), (71, 10, 79), (71, 7, 78), (71, 6, 77), (71, 5, 76), (71, 4, 75), (71, 3, 74), (71, 2, 73), (71, 1, 72), (1, 14, 62), (62, 0, 3), (62, 4, 70), (62, 3, 69), (62, 2, 68), (62, 1, 63), (63, 4, 67), (63, 3, 66), (63, 2, 65), (63, 1, 64), (1, 13, 61), (1, 12, 57), (57, 2, 60), (57, 1, 59), (57, 0, 58), (1, 11, 55), (55, 0, 56), (1, 10, 50), (50, 4, 54), (50, 3, 53), (50, 2, 52), (50, 1, 51), (1, 8, 46), (46, 2, 49), (46, 1, 48), (46, 0, 47), (1, 7, 44), (44, 0, 45), (1, 6, 39), (39, 4, 43), (39, 3, 42), (39, 2, 41), (39, 1, 40), (1, 5, 37), (37, 2, 26), (37, 1, 20), (37, 0, 38), (38, 0, 2), (1, 4, 20), (20, 9, 32), (32, 4, 36), (32, 3, 35), (32, 2, 34), (32, 1, 33), (20, 8, 29), (29, 1, 31), (29, 0, 30), (20, 7, 26), (26, 1, 28), (26, 0, 27), (20, 6, 25), (20, 5, 24), (20, 4, 23), (20, 3, 22), (20, 2, 21), (1, 3, 3), (3, 9, 15), (15, 4, 19), (15, 3, 18), (15, 2, 17), (15, 1, 16), (3, 8, 12), (12, 1, 14), (12, 0, 13), (3, 7, 9), (9, 1, 11), (9, 0, 10), (3, 6, 8), (3, 5, 7), (3, 4, 6), (3, 3, 5), (3, 2, 4), (1, 0, 2)]
def SA : List (Int × Int × Int) := [(1, 2, (-1))]
set_option maxRecDepth 20000 in
theorem nw_posts {l : Launch} {γ : Gh} : gE l γ μX10_init 3 82 11837 (rC KA TA SA) xN [.inl 10] (tf []) (tf []) [vR 1] := by
  have hC0 : CS [.inl 10] [] [] 1 := ⟨rfl, BK.nil, BK.nil⟩
  have hk0 : g_k [.inl 10] 1 = some (.inl 10) := rfl
  refine gE.ofw cl_X10.2 ?_ rfl rfl (Nat.le_of_ble_eq_true rfl)
  show gT l γ μX10_init 3 82 11837 _ _ [.inl 10] (tf []) (tf []) 0 [some (vR 1)] []
  refine tz_aload0 (n := 1) (g_at ck_X10_init 0 rfl) rfl (by omega) ?_
  refine tz_oinit (n := 4) (by omega) oi_X10_3 oi_1 oi_2 (g_at ck_X10_init 1 rfl) rfl (by decide) (Nat.le_of_ble_eq_true rfl) ?_
  refine tz_aload0 (n := 5) (g_at ck_X10_init 2 rfl) rfl (by omega) ?_
  refine tz_sipush (n := 8) (g_at ck_X10_init 3 rfl) rfl rfl ?_
  refine tq_newaI (N := 700) (nx := 10) (n9 := 2) (cb' := 81) (sb' := 11137) hC0 (by omega) rfl ⟨okR (by omega), trivial⟩ ⟨okR (by omega), trivial⟩ (Nat.le_of_ble_eq_true rfl) (g_at ck_X10_init 4 rfl) rfl ⟨Nat.le_of_ble_eq_true rfl, Nat.le_of_ble_eq_true rfl⟩ (fun hC1 => ?_)
  have hk0 := g_k_app (K1 := [.inr (0, 700)]) hk0
  refine tq_putFA (nx := 13) (kz := 0) hC1 fk_X10_9 rfl (g_in (g_m2 (List.mem_of_getElem? (i := 92) rfl)) rfl) rfl hk0 (g_at ck_X10_init 5 rfl) rfl rfl (by omega) (by omega) (fun hC2 => ?_)
  refine tz_aload0 (n := 14) (g_at ck_X10_init 6 rfl) rfl (by omega) ?_
  refine tz_iconst (n := 15) (g_at ck_X10_init 7 rfl) rfl ?_
  refine tq_putI (nx := 18) (kz := 2) hC2 fk_X10_13 hk0 (g_at ck_X10_init 8 rfl) rfl rfl (by omega) (by omega) (fun hC3 => ?_)
  refine tz_aload0 (n := 19) (g_at ck_X10_init 9 rfl) rfl (by omega) ?_
  refine tq_new (nx := 22) (n9 := 3) (cb' := 80) (sb' := 11127) hC3 (by omega) nw_X10_17 ⟨okR (by omega), trivial⟩ ⟨okR (by omega), trivial⟩ (g_at ck_X10_init 10 rfl) rfl ⟨Nat.le_of_ble_eq_true rfl, Nat.le_of_ble_eq_true rfl⟩ (fun hC4 => ?_)
  have hk0 := g_k_app (K1 := [.inl 6]) hk0
  have hk1 : g_k _ 3 = some (.inl 6) := g_k_new (kd := .inl 6) hC3.1 (by omega)
  refine tz_dupR (n := 23) (g_at ck_X10_init 11 rfl) rfl ?_
  refine tq_ci (nx := 26) (μ' := μX6_init) (As := []) (r := 3) (mc' := 16) (ms' := 1605) (cb' := 64) (sb' := 9522) hC4 ml_X10_19 mo_X6_init mi_X6_init rfl rfl np_X6_init (by omega) (g_at ck_X10_init 12 rfl) rfl ⟨by decide, by decide⟩ (Nat.le_of_ble_eq_true rfl) (Nat.le_of_ble_eq_true rfl) (Nat.le_of_ble_eq_true rfl) ⟨okR (by omega), trivial⟩ ⟨okR (by omega), okR (by omega), trivial⟩ (nw_shire  hC4 hk1 ) ?_
  have hC5 := nw_shire_C  hC4 hk1 
  have hk0 := g_k_app (K1 := [.inr (0, 9), .inr (0, 9), .inr (0, 9), .inr (0, 45), .inr (0, 8), .inl 4, .inr (0, 700), .inr (0, 40), .inl 4, .inr (0, 700), .inr (0, 40), .inl 2, .inr (0, 8), .inr (0, 8), .inr (0, 9), .inr (0, 9)]) hk0
  have hk1 := g_k_app (K1 := [.inr (0, 9), .inr (0, 9), .inr (0, 9), .inr (0, 45), .inr (0, 8), .inl 4, .inr (0, 700), .inr (0, 40), .inl 4, .inr (0, 700), .inr (0, 40), .inl 2, .inr (0, 8), .inr (0, 8), .inr (0, 9), .inr (0, 9)]) hk1
  refine tq_putO (nx := 29) (kz := 3) hC5 fk_X10_20 hk0 (g_at ck_X10_init 13 rfl) rfl rfl (by omega) (by omega) (fun hC6 => ?_)
  refine tz_aload0 (n := 30) (g_at ck_X10_init 14 rfl) rfl (by omega) ?_
  refine tq_new (nx := 33) (n9 := 20) (cb' := 63) (sb' := 9512) hC6 (by omega) nw_X10_17 ⟨okR (by omega), trivial⟩ ⟨okR (by omega), trivial⟩ (g_at ck_X10_init 15 rfl) rfl ⟨Nat.le_of_ble_eq_true rfl, Nat.le_of_ble_eq_true rfl⟩ (fun hC7 => ?_)
  have hk0 := g_k_app (K1 := [.inl 6]) hk0
  have hk1 := g_k_app (K1 := [.inl 6]) hk1
  have hk2 : g_k _ 20 = some (.inl 6) := g_k_new (kd := .inl 6) hC6.1 (by omega)
  refine tz_dupR (n := 34) (g_at ck_X10_init 16 rfl) rfl ?_
  refine tq_ci (nx := 37) (μ' := μX6_init) (As := []) (r := 20) (mc' := 16) (ms' := 1605) (cb' := 47) (sb' := 7907) hC7 ml_X10_19 mo_X6_init mi_X6_init rfl rfl np_X6_init (by omega) (g_at ck_X10_init 17 rfl) rfl ⟨by decide, by decide⟩ (Nat.le_of_ble_eq_true rfl) (Nat.le_of_ble_eq_true rfl) (Nat.le_of_ble_eq_true rfl) ⟨okR (by omega), trivial⟩ ⟨okR (by omega), okR (by omega), trivial⟩ (nw_shire  hC7 hk2 ) ?_
  have hC8 := nw_shire_C  hC7 hk2 
  have hk0 := g_k_app (K1 := [.inr (0, 9), .inr (0, 9), .inr (0, 9), .inr (0, 45), .inr (0, 8), .inl 4, .inr (0, 700), .inr (0, 40), .inl 4, .inr (0, 700), .inr (0, 40), .inl 2, .inr (0, 8), .inr (0, 8), .inr (0, 9), .inr (0, 9)]) hk0
  have hk1 := g_k_app (K1 := [.inr (0, 9), .inr (0, 9), .inr (0, 9), .inr (0, 45), .inr (0, 8), .inl 4, .inr (0, 700), .inr (0, 40), .inl 4, .inr (0, 700), .inr (0, 40), .inl 2, .inr (0, 8), .inr (0, 8), .inr (0, 9), .inr (0, 9)]) hk1
  have hk2 := g_k_app (K1 := [.inr (0, 9), .inr (0, 9), .inr (0, 9), .inr (0, 45), .inr (0, 8), .inl 4, .inr (0, 700), .inr (0, 40), .inl 4, .inr (0, 700), .inr (0, 40), .inl 2, .inr (0, 8), .inr (0, 8), .inr (0, 9), .inr (0, 9)]) hk2
  refine tq_putO (nx := 40) (kz := 4) hC8 fk_X10_24 hk0 (g_at ck_X10_init 18 rfl) rfl rfl (by omega) (by omega) (fun hC9 => ?_)
  refine tz_aload0 (n := 41) (g_at ck_X10_init 19 rfl) rfl (by omega) ?_
  refine tq_new (nx := 44) (n9 := 37) (cb' := 46) (sb' := 7901) hC9 (by omega) nw_X10_27 ⟨okR (by omega), trivial⟩ ⟨okR (by omega), trivial⟩ (g_at ck_X10_init 20 rfl) rfl ⟨Nat.le_of_ble_eq_true rfl, Nat.le_of_ble_eq_true rfl⟩ (fun hC10 => ?_)
  have hk0 := g_k_app (K1 := [.inl 3]) hk0
  have hk1 := g_k_app (K1 := [.inl 3]) hk1
  have hk2 := g_k_app (K1 := [.inl 3]) hk2
  have hk3 : g_k _ 37 = some (.inl 3) := g_k_new (kd := .inl 3) hC9.1 (by omega)
  refine tz_dupR (n := 45) (g_at ck_X10_init 21 rfl) rfl ?_
  refine tz_aload0 (n := 46) (g_at ck_X10_init 22 rfl) rfl (by omega) ?_
  refine tz_getAv (n := 49) (a := 2) fk_X10_9 hk0 (by decide +kernel) (g_at ck_X10_init 23 rfl) rfl ?_
  refine tz_aload0 (n := 50) (g_at ck_X10_init 24 rfl) rfl (by omega) ?_
  refine tz_getOv (n := 53) (a := 20) fk_X10_24 hk0 (by decide +kernel) (g_at ck_X10_init 25 rfl) rfl ?_
  refine tq_ci (nx := 56) (μ' := μX3_init) (As := [vR 2, vR 20]) (r := 37) (mc' := 1) (ms' := 6) (cb' := 45) (sb' := 7895) hC10 ml_X10_29 mo_X3_init mi_X3_init rfl rfl np_X3_init (by omega) (g_at ck_X10_init 26 rfl) rfl ⟨by decide, by decide⟩ (Nat.le_of_ble_eq_true rfl) (Nat.le_of_ble_eq_true rfl) (Nat.le_of_ble_eq_true rfl) ⟨okR (by omega), trivial⟩ ⟨okR (by omega), okR (by omega), trivial⟩ (nw_reader (a1 := 2) (a2 := 20) (a3 := 26) hC10 hk3 (by omega) (by omega) (by decide +kernel) hk2 (by decide)) ?_
  have hC11 := nw_reader_C (a1 := 2) (a2 := 20) (a3 := 26) hC10 hk3 (by omega) (by omega) (by decide +kernel) hk2 (by decide)
  have hk0 := g_k_app (K1 := [.inl 7]) hk0
  have hk1 := g_k_app (K1 := [.inl 7]) hk1
  have hk2 := g_k_app (K1 := [.inl 7]) hk2
  have hk3 := g_k_app (K1 := [.inl 7]) hk3
  refine tq_putFO (nx := 59) (kz := 5) hC11 fk_X10_32 rfl (g_in (g_m2 (List.mem_of_getElem? (i := 97) rfl)) rfl) rfl hk0 (g_at ck_X10_init 27 rfl) rfl rfl (by omega) (by omega) (fun hC12 => ?_)
  refine tz_aload0 (n := 60) (g_at ck_X10_init 28 rfl) rfl (by omega) ?_
  refine tq_new (nx := 63) (n9 := 39) (cb' := 44) (sb' := 7890) hC12 (by omega) nw_X10_36 ⟨okR (by omega), trivial⟩ ⟨okR (by omega), trivial⟩ (g_at ck_X10_init 29 rfl) rfl ⟨Nat.le_of_ble_eq_true rfl, Nat.le_of_ble_eq_true rfl⟩ (fun hC13 => ?_)
  have hk0 := g_k_app (K1 := [.inl 2]) hk0
  have hk1 := g_k_app (K1 := [.inl 2]) hk1
  have hk2 := g_k_app (K1 := [.inl 2]) hk2
  have hk3 := g_k_app (K1 := [.inl 2]) hk3
  have hk4 : g_k _ 39 = some (.inl 2) := g_k_new (kd := .inl 2) hC12.1 (by omega)
  refine tz_dupR (n := 64) (g_at ck_X10_init 30 rfl) rfl ?_
  refine tq_ci (nx := 67) (μ' := μX2_init) (As := []) (r := 39) (mc' := 4) (ms' := 34) (cb' := 40) (sb' := 7856) hC13 ml_X10_38 mo_X2_init mi_X2_init rfl rfl np_X2_init (by omega) (g_at ck_X10_init 31 rfl) rfl ⟨by decide, by decide⟩ (Nat.le_of_ble_eq_true rfl) (Nat.le_of_ble_eq_true rfl) (Nat.le_of_ble_eq_true rfl) ⟨okR (by omega), trivial⟩ ⟨okR (by omega), okR (by omega), trivial⟩ (nw_moment  hC13 hk4 ) ?_
  have hC14 := nw_moment_C  hC13 hk4 
  have hk0 := g_k_app (K1 := [.inr (0, 8), .inr (0, 8), .inr (0, 9), .inr (0, 9)]) hk0
  have hk1 := g_k_app (K1 := [.inr (0, 8), .inr (0, 8), .inr (0, 9), .inr (0, 9)]) hk1
  have hk2 := g_k_app (K1 := [.inr (0, 8), .inr (0, 8), .inr (0, 9), .inr (0, 9)]) hk2
  have hk3 := g_k_app (K1 := [.inr (0, 8), .inr (0, 8), .inr (0, 9), .inr (0, 9)]) hk3
  have hk4 := g_k_app (K1 := [.inr (0, 8), .inr (0, 8), .inr (0, 9), .inr (0, 9)]) hk4
  refine tq_putFO (nx := 70) (kz := 6) hC14 fk_X10_39 rfl (g_in (g_m2 (List.mem_of_getElem? (i := 98) rfl)) rfl) rfl hk0 (g_at ck_X10_init 32 rfl) rfl rfl (by omega) (by omega) (fun hC15 => ?_)
  refine tz_aload0 (n := 71) (g_at ck_X10_init 33 rfl) rfl (by omega) ?_
  refine tq_new (nx := 74) (n9 := 44) (cb' := 39) (sb' := 7853) hC15 (by omega) nw_X10_43 ⟨okR (by omega), trivial⟩ ⟨okR (by omega), trivial⟩ (g_at ck_X10_init 34 rfl) rfl ⟨Nat.le_of_ble_eq_true rfl, Nat.le_of_ble_eq_true rfl⟩ (fun hC16 => ?_)
  have hk0 := g_k_app (K1 := [.inl 0]) hk0
  have hk1 := g_k_app (K1 := [.inl 0]) hk1
  have hk2 := g_k_app (K1 := [.inl 0]) hk2
  have hk3 := g_k_app (K1 := [.inl 0]) hk3
  have hk4 := g_k_app (K1 := [.inl 0]) hk4
  have hk5 : g_k _ 44 = some (.inl 0) := g_k_new (kd := .inl 0) hC15.1 (by omega)
  refine tz_dupR (n := 75) (g_at ck_X10_init 35 rfl) rfl ?_
  refine tq_ci (nx := 78) (μ' := μX0_init) (As := []) (r := 44) (mc' := 1) (ms' := 1400) (cb' := 38) (sb' := 6453) hC16 ml_X10_45 mo_X0_init mi_X0_init rfl rfl np_X0_init (by omega) (g_at ck_X10_init 36 rfl) rfl ⟨by decide, by decide⟩ (Nat.le_of_ble_eq_true rfl) (Nat.le_of_ble_eq_true rfl) (Nat.le_of_ble_eq_true rfl) ⟨okR (by omega), trivial⟩ ⟨okR (by omega), okR (by omega), trivial⟩ (nw_acts  hC16 hk5 ) ?_
  have hC17 := nw_acts_C  hC16 hk5 
  have hk0 := g_k_app (K1 := [.inr (0, 1400)]) hk0
  have hk1 := g_k_app (K1 := [.inr (0, 1400)]) hk1
  have hk2 := g_k_app (K1 := [.inr (0, 1400)]) hk2
  have hk3 := g_k_app (K1 := [.inr (0, 1400)]) hk3
  have hk4 := g_k_app (K1 := [.inr (0, 1400)]) hk4
  have hk5 := g_k_app (K1 := [.inr (0, 1400)]) hk5
  refine tq_putFO (nx := 81) (kz := 7) hC17 fk_X10_46 rfl (g_in (g_m2 (List.mem_of_getElem? (i := 99) rfl)) rfl) rfl hk0 (g_at ck_X10_init 37 rfl) rfl rfl (by omega) (by omega) (fun hC18 => ?_)
  refine tz_aload0 (n := 82) (g_at ck_X10_init 38 rfl) rfl (by omega) ?_
  refine tq_new (nx := 85) (n9 := 46) (cb' := 37) (sb' := 6449) hC18 (by omega) nw_X10_50 ⟨okR (by omega), trivial⟩ ⟨okR (by omega), trivial⟩ (g_at ck_X10_init 39 rfl) rfl ⟨Nat.le_of_ble_eq_true rfl, Nat.le_of_ble_eq_true rfl⟩ (fun hC19 => ?_)
  have hk0 := g_k_app (K1 := [.inl 5]) hk0
  have hk1 := g_k_app (K1 := [.inl 5]) hk1
  have hk2 := g_k_app (K1 := [.inl 5]) hk2
  have hk3 := g_k_app (K1 := [.inl 5]) hk3
  have hk4 := g_k_app (K1 := [.inl 5]) hk4
  have hk5 := g_k_app (K1 := [.inl 5]) hk5
  have hk6 : g_k _ 46 = some (.inl 5) := g_k_new (kd := .inl 5) hC18.1 (by omega)
  refine tz_dupR (n := 86) (g_at ck_X10_init 40 rfl) rfl ?_
  refine tq_ci (nx := 89) (μ' := μX5_init) (As := []) (r := 46) (mc' := 3) (ms' := 24) (cb' := 34) (sb' := 6425) hC19 ml_X10_52 mo_X5_init mi_X5_init rfl rfl np_X5_init (by omega) (g_at ck_X10_init 41 rfl) rfl ⟨by decide, by decide⟩ (Nat.le_of_ble_eq_true rfl) (Nat.le_of_ble_eq_true rfl) (Nat.le_of_ble_eq_true rfl) ⟨okR (by omega), trivial⟩ ⟨okR (by omega), okR (by omega), trivial⟩ (nw_seen  hC19 hk6 ) ?_
  have hC20 := nw_seen_C  hC19 hk6 
  have hk0 := g_k_app (K1 := [.inr (0, 8), .inr (0, 8), .inr (0, 8)]) hk0
  have hk1 := g_k_app (K1 := [.inr (0, 8), .inr (0, 8), .inr (0, 8)]) hk1
  have hk2 := g_k_app (K1 := [.inr (0, 8), .inr (0, 8), .inr (0, 8)]) hk2
  have hk3 := g_k_app (K1 := [.inr (0, 8), .inr (0, 8), .inr (0, 8)]) hk3
  have hk4 := g_k_app (K1 := [.inr (0, 8), .inr (0, 8), .inr (0, 8)]) hk4
  have hk5 := g_k_app (K1 := [.inr (0, 8), .inr (0, 8), .inr (0, 8)]) hk5
  have hk6 := g_k_app (K1 := [.inr (0, 8), .inr (0, 8), .inr (0, 8)]) hk6
  refine tq_putFO (nx := 92) (kz := 8) hC20 fk_X10_53 rfl (g_in (g_m2 (List.mem_of_getElem? (i := 100) rfl)) rfl) rfl hk0 (g_at ck_X10_init 42 rfl) rfl rfl (by omega) (by omega) (fun hC21 => ?_)
  refine tz_aload0 (n := 93) (g_at ck_X10_init 43 rfl) rfl (by omega) ?_
  refine tq_new (nx := 96) (n9 := 50) (cb' := 33) (sb' := 6420) hC21 (by omega) nw_X10_36 ⟨okR (by omega), trivial⟩ ⟨okR (by omega), trivial⟩ (g_at ck_X10_init 44 rfl) rfl ⟨Nat.le_of_ble_eq_true rfl, Nat.le_of_ble_eq_true rfl⟩ (fun hC22 => ?_)
  have hk0 := g_k_app (K1 := [.inl 2]) hk0
  have hk1 := g_k_app (K1 := [.inl 2]) hk1
  have hk2 := g_k_app (K1 := [.inl 2]) hk2
  have hk3 := g_k_app (K1 := [.inl 2]) hk3
  have hk4 := g_k_app (K1 := [.inl 2]) hk4
  have hk5 := g_k_app (K1 := [.inl 2]) hk5
  have hk6 := g_k_app (K1 := [.inl 2]) hk6
  have hk7 : g_k _ 50 = some (.inl 2) := g_k_new (kd := .inl 2) hC21.1 (by omega)
  refine tz_dupR (n := 97) (g_at ck_X10_init 45 rfl) rfl ?_
  refine tq_ci (nx := 100) (μ' := μX2_init) (As := []) (r := 50) (mc' := 4) (ms' := 34) (cb' := 29) (sb' := 6386) hC22 ml_X10_38 mo_X2_init mi_X2_init rfl rfl np_X2_init (by omega) (g_at ck_X10_init 46 rfl) rfl ⟨by decide, by decide⟩ (Nat.le_of_ble_eq_true rfl) (Nat.le_of_ble_eq_true rfl) (Nat.le_of_ble_eq_true rfl) ⟨okR (by omega), trivial⟩ ⟨okR (by omega), okR (by omega), trivial⟩ (nw_moment  hC22 hk7 ) ?_
  have hC23 := nw_moment_C  hC22 hk7 
  have hk0 := g_k_app (K1 := [.inr (0, 8), .inr (0, 8), .inr (0, 9), .inr (0, 9)]) hk0
  have hk1 := g_k_app (K1 := [.inr (0, 8), .inr (0, 8), .inr (0, 9), .inr (0, 9)]) hk1
  have hk2 := g_k_app (K1 := [.inr (0, 8), .inr (0, 8), .inr (0, 9), .inr (0, 9)]) hk2
  have hk3 := g_k_app (K1 := [.inr (0, 8), .inr (0, 8), .inr (0, 9), .inr (0, 9)]) hk3
  have hk4 := g_k_app (K1 := [.inr (0, 8), .inr (0, 8), .inr (0, 9), .inr (0, 9)]) hk4
  have hk5 := g_k_app (K1 := [.inr (0, 8), .inr (0, 8), .inr (0, 9), .inr (0, 9)]) hk5
  have hk6 := g_k_app (K1 := [.inr (0, 8), .inr (0, 8), .inr (0, 9), .inr (0, 9)]) hk6
  have hk7 := g_k_app (K1 := [.inr (0, 8), .inr (0, 8), .inr (0, 9), .inr (0, 9)]) hk7
  refine tq_putFO (nx := 103) (kz := 10) hC23 fk_X10_57 rfl (g_in (g_m2 (List.mem_of_getElem? (i := 102) rfl)) rfl) rfl hk0 (g_at ck_X10_init 47 rfl) rfl rfl (by omega) (by omega) (fun hC24 => ?_)
  refine tz_aload0 (n := 104) (g_at ck_X10_init 48 rfl) rfl (by omega) ?_
  refine tq_new (nx := 107) (n9 := 55) (cb' := 28) (sb' := 6383) hC24 (by omega) nw_X10_43 ⟨okR (by omega), trivial⟩ ⟨okR (by omega), trivial⟩ (g_at ck_X10_init 49 rfl) rfl ⟨Nat.le_of_ble_eq_true rfl, Nat.le_of_ble_eq_true rfl⟩ (fun hC25 => ?_)
  have hk0 := g_k_app (K1 := [.inl 0]) hk0
  have hk1 := g_k_app (K1 := [.inl 0]) hk1
  have hk2 := g_k_app (K1 := [.inl 0]) hk2
  have hk3 := g_k_app (K1 := [.inl 0]) hk3
  have hk4 := g_k_app (K1 := [.inl 0]) hk4
  have hk5 := g_k_app (K1 := [.inl 0]) hk5
  have hk6 := g_k_app (K1 := [.inl 0]) hk6
  have hk7 := g_k_app (K1 := [.inl 0]) hk7
  have hk8 : g_k _ 55 = some (.inl 0) := g_k_new (kd := .inl 0) hC24.1 (by omega)
  refine tz_dupR (n := 108) (g_at ck_X10_init 50 rfl) rfl ?_
  refine tq_ci (nx := 111) (μ' := μX0_init) (As := []) (r := 55) (mc' := 1) (ms' := 1400) (cb' := 27) (sb' := 4983) hC25 ml_X10_45 mo_X0_init mi_X0_init rfl rfl np_X0_init (by omega) (g_at ck_X10_init 51 rfl) rfl ⟨by decide, by decide⟩ (Nat.le_of_ble_eq_true rfl) (Nat.le_of_ble_eq_true rfl) (Nat.le_of_ble_eq_true rfl) ⟨okR (by omega), trivial⟩ ⟨okR (by omega), okR (by omega), trivial⟩ (nw_acts  hC25 hk8 ) ?_
  have hC26 := nw_acts_C  hC25 hk8 
  have hk0 := g_k_app (K1 := [.inr (0, 1400)]) hk0
  have hk1 := g_k_app (K1 := [.inr (0, 1400)]) hk1
  have hk2 := g_k_app (K1 := [.inr (0, 1400)]) hk2
  have hk3 := g_k_app (K1 := [.inr (0, 1400)]) hk3
  have hk4 := g_k_app (K1 := [.inr (0, 1400)]) hk4
  have hk5 := g_k_app (K1 := [.inr (0, 1400)]) hk5
  have hk6 := g_k_app (K1 := [.inr (0, 1400)]) hk6
  have hk7 := g_k_app (K1 := [.inr (0, 1400)]) hk7
  have hk8 := g_k_app (K1 := [.inr (0, 1400)]) hk8
  refine tq_putFO (nx := 114) (kz := 11) hC26 fk_X10_60 rfl (g_in (g_m2 (List.mem_of_getElem? (i := 103) rfl)) rfl) rfl hk0 (g_at ck_X10_init 52 rfl) rfl rfl (by omega) (by omega) (fun hC27 => ?_)
  refine tz_aload0 (n := 115) (g_at ck_X10_init 53 rfl) rfl (by omega) ?_
  refine tq_new (nx := 118) (n9 := 57) (cb' := 26) (sb' := 4979) hC27 (by omega) nw_X10_50 ⟨okR (by omega), trivial⟩ ⟨okR (by omega), trivial⟩ (g_at ck_X10_init 54 rfl) rfl ⟨Nat.le_of_ble_eq_true rfl, Nat.le_of_ble_eq_true rfl⟩ (fun hC28 => ?_)
  have hk0 := g_k_app (K1 := [.inl 5]) hk0
  have hk1 := g_k_app (K1 := [.inl 5]) hk1
  have hk2 := g_k_app (K1 := [.inl 5]) hk2
  have hk3 := g_k_app (K1 := [.inl 5]) hk3
  have hk4 := g_k_app (K1 := [.inl 5]) hk4
  have hk5 := g_k_app (K1 := [.inl 5]) hk5
  have hk6 := g_k_app (K1 := [.inl 5]) hk6
  have hk7 := g_k_app (K1 := [.inl 5]) hk7
  have hk8 := g_k_app (K1 := [.inl 5]) hk8
  have hk9 : g_k _ 57 = some (.inl 5) := g_k_new (kd := .inl 5) hC27.1 (by omega)
  refine tz_dupR (n := 119) (g_at ck_X10_init 55 rfl) rfl ?_
  refine tq_ci (nx := 122) (μ' := μX5_init) (As := []) (r := 57) (mc' := 3) (ms' := 24) (cb' := 23) (sb' := 4955) hC28 ml_X10_52 mo_X5_init mi_X5_init rfl rfl np_X5_init (by omega) (g_at ck_X10_init 56 rfl) rfl ⟨by decide, by decide⟩ (Nat.le_of_ble_eq_true rfl) (Nat.le_of_ble_eq_true rfl) (Nat.le_of_ble_eq_true rfl) ⟨okR (by omega), trivial⟩ ⟨okR (by omega), okR (by omega), trivial⟩ (nw_seen  hC28 hk9 ) ?_
  have hC29 := nw_seen_C  hC28 hk9 
  have hk0 := g_k_app (K1 := [.inr (0, 8), .inr (0, 8), .inr (0, 8)]) hk0
  have hk1 := g_k_app (K1 := [.inr (0, 8), .inr (0, 8), .inr (0, 8)]) hk1
  have hk2 := g_k_app (K1 := [.inr (0, 8), .inr (0, 8), .inr (0, 8)]) hk2
  have hk3 := g_k_app (K1 := [.inr (0, 8), .inr (0, 8), .inr (0, 8)]) hk3
  have hk4 := g_k_app (K1 := [.inr (0, 8), .inr (0, 8), .inr (0, 8)]) hk4
  have hk5 := g_k_app (K1 := [.inr (0, 8), .inr (0, 8), .inr (0, 8)]) hk5
  have hk6 := g_k_app (K1 := [.inr (0, 8), .inr (0, 8), .inr (0, 8)]) hk6
  have hk7 := g_k_app (K1 := [.inr (0, 8), .inr (0, 8), .inr (0, 8)]) hk7
  have hk8 := g_k_app (K1 := [.inr (0, 8), .inr (0, 8), .inr (0, 8)]) hk8
  have hk9 := g_k_app (K1 := [.inr (0, 8), .inr (0, 8), .inr (0, 8)]) hk9
  refine tq_putFO (nx := 125) (kz := 12) hC29 fk_X10_63 rfl (g_in (g_m2 (List.mem_of_getElem? (i := 104) rfl)) rfl) rfl hk0 (g_at ck_X10_init 57 rfl) rfl rfl (by omega) (by omega) (fun hC30 => ?_)
  refine tz_aload0 (n := 126) (g_at ck_X10_init 58 rfl) rfl (by omega) ?_
  refine tz_iconst (n := 127) (g_at ck_X10_init 59 rfl) rfl ?_
  refine tq_newaI (N := 3) (nx := 129) (n9 := 61) (cb' := 22) (sb' := 4952) hC30 (by omega) rfl ⟨okR (by omega), trivial⟩ ⟨okR (by omega), trivial⟩ (Nat.le_of_ble_eq_true rfl) (g_at ck_X10_init 60 rfl) rfl ⟨Nat.le_of_ble_eq_true rfl, Nat.le_of_ble_eq_true rfl⟩ (fun hC31 => ?_)
  have hk0 := g_k_app (K1 := [.inr (0, 3)]) hk0
  have hk1 := g_k_app (K1 := [.inr (0, 3)]) hk1
  have hk2 := g_k_app (K1 := [.inr (0, 3)]) hk2
  have hk3 := g_k_app (K1 := [.inr (0, 3)]) hk3
  have hk4 := g_k_app (K1 := [.inr (0, 3)]) hk4
  have hk5 := g_k_app (K1 := [.inr (0, 3)]) hk5
  have hk6 := g_k_app (K1 := [.inr (0, 3)]) hk6
  have hk7 := g_k_app (K1 := [.inr (0, 3)]) hk7
  have hk8 := g_k_app (K1 := [.inr (0, 3)]) hk8
  have hk9 := g_k_app (K1 := [.inr (0, 3)]) hk9
  refine tq_putFA (nx := 132) (kz := 13) hC31 fk_X10_66 rfl (g_in (g_m2 (List.mem_of_getElem? (i := 105) rfl)) rfl) rfl hk0 (g_at ck_X10_init 61 rfl) rfl rfl (by omega) (by omega) (fun hC32 => ?_)
  refine tz_aload0 (n := 133) (g_at ck_X10_init 62 rfl) rfl (by omega) ?_
  refine tq_new (nx := 136) (n9 := 62) (cb' := 21) (sb' := 4947) hC32 (by omega) nw_X10_69 ⟨okR (by omega), trivial⟩ ⟨okR (by omega), trivial⟩ (g_at ck_X10_init 63 rfl) rfl ⟨Nat.le_of_ble_eq_true rfl, Nat.le_of_ble_eq_true rfl⟩ (fun hC33 => ?_)
  have hk0 := g_k_app (K1 := [.inl 8]) hk0
  have hk1 := g_k_app (K1 := [.inl 8]) hk1
  have hk2 := g_k_app (K1 := [.inl 8]) hk2
  have hk3 := g_k_app (K1 := [.inl 8]) hk3
  have hk4 := g_k_app (K1 := [.inl 8]) hk4
  have hk5 := g_k_app (K1 := [.inl 8]) hk5
  have hk6 := g_k_app (K1 := [.inl 8]) hk6
  have hk7 := g_k_app (K1 := [.inl 8]) hk7
  have hk8 := g_k_app (K1 := [.inl 8]) hk8
  have hk9 := g_k_app (K1 := [.inl 8]) hk9
  have hk10 : g_k _ 62 = some (.inl 8) := g_k_new (kd := .inl 8) hC32.1 (by omega)
  refine tz_dupR (n := 137) (g_at ck_X10_init 64 rfl) rfl ?_
  refine tz_aload0 (n := 138) (g_at ck_X10_init 65 rfl) rfl (by omega) ?_
  refine tz_getOv (n := 141) (a := 3) fk_X10_20 hk0 (by decide +kernel) (g_at ck_X10_init 66 rfl) rfl ?_
  refine tq_ci (nx := 144) (μ' := μX8_init) (As := [vR 3]) (r := 62) (mc' := 8) (ms' := 97) (cb' := 13) (sb' := 4850) hC33 ml_X10_71 mo_X8_init mi_X8_init rfl rfl np_X8_init (by omega) (g_at ck_X10_init 67 rfl) rfl ⟨by decide, by decide⟩ (Nat.le_of_ble_eq_true rfl) (Nat.le_of_ble_eq_true rfl) (Nat.le_of_ble_eq_true rfl) ⟨okR (by omega), trivial⟩ ⟨okR (by omega), okR (by omega), trivial⟩ (nw_trip (a1 := 3) hC33 hk10 (by omega)) ?_
  have hC34 := nw_trip_C (a1 := 3) hC33 hk10 (by omega)
  have hk0 := g_k_app (K1 := [.inl 2, .inr (0, 8), .inr (0, 8), .inr (0, 9), .inr (0, 9), .inr (0, 8), .inr (0, 45), .inr (0, 5)]) hk0
  have hk1 := g_k_app (K1 := [.inl 2, .inr (0, 8), .inr (0, 8), .inr (0, 9), .inr (0, 9), .inr (0, 8), .inr (0, 45), .inr (0, 5)]) hk1
  have hk2 := g_k_app (K1 := [.inl 2, .inr (0, 8), .inr (0, 8), .inr (0, 9), .inr (0, 9), .inr (0, 8), .inr (0, 45), .inr (0, 5)]) hk2
  have hk3 := g_k_app (K1 := [.inl 2, .inr (0, 8), .inr (0, 8), .inr (0, 9), .inr (0, 9), .inr (0, 8), .inr (0, 45), .inr (0, 5)]) hk3
  have hk4 := g_k_app (K1 := [.inl 2, .inr (0, 8), .inr (0, 8), .inr (0, 9), .inr (0, 9), .inr (0, 8), .inr (0, 45), .inr (0, 5)]) hk4
  have hk5 := g_k_app (K1 := [.inl 2, .inr (0, 8), .inr (0, 8), .inr (0, 9), .inr (0, 9), .inr (0, 8), .inr (0, 45), .inr (0, 5)]) hk5
  have hk6 := g_k_app (K1 := [.inl 2, .inr (0, 8), .inr (0, 8), .inr (0, 9), .inr (0, 9), .inr (0, 8), .inr (0, 45), .inr (0, 5)]) hk6
  have hk7 := g_k_app (K1 := [.inl 2, .inr (0, 8), .inr (0, 8), .inr (0, 9), .inr (0, 9), .inr (0, 8), .inr (0, 45), .inr (0, 5)]) hk7
  have hk8 := g_k_app (K1 := [.inl 2, .inr (0, 8), .inr (0, 8), .inr (0, 9), .inr (0, 9), .inr (0, 8), .inr (0, 45), .inr (0, 5)]) hk8
  have hk9 := g_k_app (K1 := [.inl 2, .inr (0, 8), .inr (0, 8), .inr (0, 9), .inr (0, 9), .inr (0, 8), .inr (0, 45), .inr (0, 5)]) hk9
  have hk10 := g_k_app (K1 := [.inl 2, .inr (0, 8), .inr (0, 8), .inr (0, 9), .inr (0, 9), .inr (0, 8), .inr (0, 45), .inr (0, 5)]) hk10
  refine tq_putFO (nx := 147) (kz := 14) hC34 fk_X10_74 rfl (g_in (g_m2 (List.mem_of_getElem? (i := 106) rfl)) rfl) rfl hk0 (g_at ck_X10_init 68 rfl) rfl rfl (by omega) (by omega) (fun hC35 => ?_)
  refine tz_aload0 (n := 148) (g_at ck_X10_init 69 rfl) rfl (by omega) ?_
  refine tq_new (nx := 151) (n9 := 71) (cb' := 12) (sb' := 4839) hC35 (by omega) nw_X10_78 ⟨okR (by omega), trivial⟩ ⟨okR (by omega), trivial⟩ (g_at ck_X10_init 70 rfl) rfl ⟨Nat.le_of_ble_eq_true rfl, Nat.le_of_ble_eq_true rfl⟩ (fun hC36 => ?_)
  have hk0 := g_k_app (K1 := [.inl 9]) hk0
  have hk1 := g_k_app (K1 := [.inl 9]) hk1
  have hk2 := g_k_app (K1 := [.inl 9]) hk2
  have hk3 := g_k_app (K1 := [.inl 9]) hk3
  have hk4 := g_k_app (K1 := [.inl 9]) hk4
  have hk5 := g_k_app (K1 := [.inl 9]) hk5
  have hk6 := g_k_app (K1 := [.inl 9]) hk6
  have hk7 := g_k_app (K1 := [.inl 9]) hk7
  have hk8 := g_k_app (K1 := [.inl 9]) hk8
  have hk9 := g_k_app (K1 := [.inl 9]) hk9
  have hk10 := g_k_app (K1 := [.inl 9]) hk10
  have hk11 : g_k _ 71 = some (.inl 9) := g_k_new (kd := .inl 9) hC35.1 (by omega)
  refine tz_dupR (n := 152) (g_at ck_X10_init 71 rfl) rfl ?_
  refine tz_aload0 (n := 153) (g_at ck_X10_init 72 rfl) rfl (by omega) ?_
  refine tz_getOv (n := 156) (a := 3) fk_X10_20 hk0 (by decide +kernel) (g_at ck_X10_init 73 rfl) rfl ?_
  refine tq_ci (nx := 159) (μ' := μX9_init) (As := [vR 3]) (r := 71) (mc' := 8) (ms' := 4813) (cb' := 4) (sb' := 26) hC36 ml_X10_80 mo_X9_init mi_X9_init rfl rfl np_X9_init (by omega) (g_at ck_X10_init 74 rfl) rfl ⟨by decide, by decide⟩ (Nat.le_of_ble_eq_true rfl) (Nat.le_of_ble_eq_true rfl) (Nat.le_of_ble_eq_true rfl) ⟨okR (by omega), trivial⟩ ⟨okR (by omega), okR (by omega), trivial⟩ (nw_ways (a1 := 3) hC36 hk11 (by omega)) ?_
  have hC37 := nw_ways_C (a1 := 3) hC36 hk11 (by omega)
  have hk0 := g_k_app (K1 := [.inr (0, 81), .inr (0, 81), .inr (0, 9), .inr (0, 9), .inr (0, 9), .inr (0, 8), .inr (0, 8), .inr (0, 4608)]) hk0
  have hk1 := g_k_app (K1 := [.inr (0, 81), .inr (0, 81), .inr (0, 9), .inr (0, 9), .inr (0, 9), .inr (0, 8), .inr (0, 8), .inr (0, 4608)]) hk1
  have hk2 := g_k_app (K1 := [.inr (0, 81), .inr (0, 81), .inr (0, 9), .inr (0, 9), .inr (0, 9), .inr (0, 8), .inr (0, 8), .inr (0, 4608)]) hk2
  have hk3 := g_k_app (K1 := [.inr (0, 81), .inr (0, 81), .inr (0, 9), .inr (0, 9), .inr (0, 9), .inr (0, 8), .inr (0, 8), .inr (0, 4608)]) hk3
  have hk4 := g_k_app (K1 := [.inr (0, 81), .inr (0, 81), .inr (0, 9), .inr (0, 9), .inr (0, 9), .inr (0, 8), .inr (0, 8), .inr (0, 4608)]) hk4
  have hk5 := g_k_app (K1 := [.inr (0, 81), .inr (0, 81), .inr (0, 9), .inr (0, 9), .inr (0, 9), .inr (0, 8), .inr (0, 8), .inr (0, 4608)]) hk5
  have hk6 := g_k_app (K1 := [.inr (0, 81), .inr (0, 81), .inr (0, 9), .inr (0, 9), .inr (0, 9), .inr (0, 8), .inr (0, 8), .inr (0, 4608)]) hk6
  have hk7 := g_k_app (K1 := [.inr (0, 81), .inr (0, 81), .inr (0, 9), .inr (0, 9), .inr (0, 9), .inr (0, 8), .inr (0, 8), .inr (0, 4608)]) hk7
  have hk8 := g_k_app (K1 := [.inr (0, 81), .inr (0, 81), .inr (0, 9), .inr (0, 9), .inr (0, 9), .inr (0, 8), .inr (0, 8), .inr (0, 4608)]) hk8
  have hk9 := g_k_app (K1 := [.inr (0, 81), .inr (0, 81), .inr (0, 9), .inr (0, 9), .inr (0, 9), .inr (0, 8), .inr (0, 8), .inr (0, 4608)]) hk9
  have hk10 := g_k_app (K1 := [.inr (0, 81), .inr (0, 81), .inr (0, 9), .inr (0, 9), .inr (0, 9), .inr (0, 8), .inr (0, 8), .inr (0, 4608)]) hk10
  have hk11 := g_k_app (K1 := [.inr (0, 81), .inr (0, 81), .inr (0, 9), .inr (0, 9), .inr (0, 9), .inr (0, 8), .inr (0, 8), .inr (0, 4608)]) hk11
  refine tq_putFO (nx := 162) (kz := 15) hC37 fk_X10_81 rfl (g_in (g_m2 (List.mem_of_getElem? (i := 107) rfl)) rfl) rfl hk0 (g_at ck_X10_init 75 rfl) rfl rfl (by omega) (by omega) (fun hC38 => ?_)
  refine tz_aload0 (n := 163) (g_at ck_X10_init 76 rfl) rfl (by omega) ?_
  refine tq_new (nx := 166) (n9 := 80) (cb' := 3) (sb' := 25) hC38 (by omega) nw_X10_85 ⟨okR (by omega), trivial⟩ ⟨okR (by omega), trivial⟩ (g_at ck_X10_init 77 rfl) rfl ⟨Nat.le_of_ble_eq_true rfl, Nat.le_of_ble_eq_true rfl⟩ (fun hC39 => ?_)
  have hk0 := g_k_app (K1 := [.inl 1]) hk0
  have hk1 := g_k_app (K1 := [.inl 1]) hk1
  have hk2 := g_k_app (K1 := [.inl 1]) hk2
  have hk3 := g_k_app (K1 := [.inl 1]) hk3
  have hk4 := g_k_app (K1 := [.inl 1]) hk4
  have hk5 := g_k_app (K1 := [.inl 1]) hk5
  have hk6 := g_k_app (K1 := [.inl 1]) hk6
  have hk7 := g_k_app (K1 := [.inl 1]) hk7
  have hk8 := g_k_app (K1 := [.inl 1]) hk8
  have hk9 := g_k_app (K1 := [.inl 1]) hk9
  have hk10 := g_k_app (K1 := [.inl 1]) hk10
  have hk11 := g_k_app (K1 := [.inl 1]) hk11
  have hk12 : g_k _ 80 = some (.inl 1) := g_k_new (kd := .inl 1) hC38.1 (by omega)
  refine tz_dupR (n := 167) (g_at ck_X10_init 78 rfl) rfl ?_
  refine tq_ci (nx := 170) (μ' := μX1_init) (As := []) (r := 80) (mc' := 0) (ms' := 0) (cb' := 3) (sb' := 25) hC39 ml_X10_87 mo_X1_init mi_X1_init rfl rfl np_X1_init (by omega) (g_at ck_X10_init 79 rfl) rfl ⟨by decide, by decide⟩ (Nat.le_of_ble_eq_true rfl) (Nat.le_of_ble_eq_true rfl) (Nat.le_of_ble_eq_true rfl) ⟨okR (by omega), trivial⟩ ⟨okR (by omega), okR (by omega), trivial⟩ (nw_draws  hC39 hk12 ) ?_
  have hC40 := nw_draws_C  hC39 hk12 
  refine tq_putFO (nx := 173) (kz := 16) hC40 fk_X10_88 rfl (g_in (g_m2 (List.mem_of_getElem? (i := 108) rfl)) rfl) rfl hk0 (g_at ck_X10_init 80 rfl) rfl rfl (by omega) (by omega) (fun hC41 => ?_)
  refine tz_aload0 (n := 174) (g_at ck_X10_init 81 rfl) rfl (by omega) ?_
  refine tz_bipush (n := 176) (g_at ck_X10_init 82 rfl) rfl rfl ?_
  refine tq_newaI (N := 9) (nx := 178) (n9 := 81) (cb' := 2) (sb' := 16) hC41 (by omega) rfl ⟨okR (by omega), trivial⟩ ⟨okR (by omega), trivial⟩ (Nat.le_of_ble_eq_true rfl) (g_at ck_X10_init 83 rfl) rfl ⟨Nat.le_of_ble_eq_true rfl, Nat.le_of_ble_eq_true rfl⟩ (fun hC42 => ?_)
  have hk0 := g_k_app (K1 := [.inr (0, 9)]) hk0
  have hk1 := g_k_app (K1 := [.inr (0, 9)]) hk1
  have hk2 := g_k_app (K1 := [.inr (0, 9)]) hk2
  have hk3 := g_k_app (K1 := [.inr (0, 9)]) hk3
  have hk4 := g_k_app (K1 := [.inr (0, 9)]) hk4
  have hk5 := g_k_app (K1 := [.inr (0, 9)]) hk5
  have hk6 := g_k_app (K1 := [.inr (0, 9)]) hk6
  have hk7 := g_k_app (K1 := [.inr (0, 9)]) hk7
  have hk8 := g_k_app (K1 := [.inr (0, 9)]) hk8
  have hk9 := g_k_app (K1 := [.inr (0, 9)]) hk9
  have hk10 := g_k_app (K1 := [.inr (0, 9)]) hk10
  have hk11 := g_k_app (K1 := [.inr (0, 9)]) hk11
  have hk12 := g_k_app (K1 := [.inr (0, 9)]) hk12
  refine tq_putFA (nx := 181) (kz := 17) hC42 fk_X10_92 rfl (g_in (g_m2 (List.mem_of_getElem? (i := 109) rfl)) rfl) rfl hk0 (g_at ck_X10_init 84 rfl) rfl rfl (by omega) (by omega) (fun hC43 => ?_)
  refine tz_aload0 (n := 182) (g_at ck_X10_init 85 rfl) rfl (by omega) ?_
  refine tz_bipush (n := 184) (g_at ck_X10_init 86 rfl) rfl rfl ?_
  refine tq_newaI (N := 8) (nx := 186) (n9 := 82) (cb' := 1) (sb' := 8) hC43 (by omega) rfl ⟨okR (by omega), trivial⟩ ⟨okR (by omega), trivial⟩ (Nat.le_of_ble_eq_true rfl) (g_at ck_X10_init 87 rfl) rfl ⟨Nat.le_of_ble_eq_true rfl, Nat.le_of_ble_eq_true rfl⟩ (fun hC44 => ?_)
  have hk0 := g_k_app (K1 := [.inr (0, 8)]) hk0
  have hk1 := g_k_app (K1 := [.inr (0, 8)]) hk1
  have hk2 := g_k_app (K1 := [.inr (0, 8)]) hk2
  have hk3 := g_k_app (K1 := [.inr (0, 8)]) hk3
  have hk4 := g_k_app (K1 := [.inr (0, 8)]) hk4
  have hk5 := g_k_app (K1 := [.inr (0, 8)]) hk5
  have hk6 := g_k_app (K1 := [.inr (0, 8)]) hk6
  have hk7 := g_k_app (K1 := [.inr (0, 8)]) hk7
  have hk8 := g_k_app (K1 := [.inr (0, 8)]) hk8
  have hk9 := g_k_app (K1 := [.inr (0, 8)]) hk9
  have hk10 := g_k_app (K1 := [.inr (0, 8)]) hk10
  have hk11 := g_k_app (K1 := [.inr (0, 8)]) hk11
  have hk12 := g_k_app (K1 := [.inr (0, 8)]) hk12
  refine tq_putFA (nx := 189) (kz := 18) hC44 fk_X10_95 rfl (g_in (g_m2 (List.mem_of_getElem? (i := 110) rfl)) rfl) rfl hk0 (g_at ck_X10_init 88 rfl) rfl rfl (by omega) (by omega) (fun hC45 => ?_)
  refine tz_aload0 (n := 190) (g_at ck_X10_init 89 rfl) rfl (by omega) ?_
  refine tz_bipush (n := 192) (g_at ck_X10_init 90 rfl) rfl rfl ?_
  refine tq_newaI (N := 8) (nx := 194) (n9 := 83) (cb' := 0) (sb' := 0) hC45 (by omega) rfl ⟨okR (by omega), trivial⟩ ⟨okR (by omega), trivial⟩ (Nat.le_of_ble_eq_true rfl) (g_at ck_X10_init 91 rfl) rfl ⟨Nat.le_of_ble_eq_true rfl, Nat.le_of_ble_eq_true rfl⟩ (fun hC46 => ?_)
  have hk0 := g_k_app (K1 := [.inr (0, 8)]) hk0
  have hk1 := g_k_app (K1 := [.inr (0, 8)]) hk1
  have hk2 := g_k_app (K1 := [.inr (0, 8)]) hk2
  have hk3 := g_k_app (K1 := [.inr (0, 8)]) hk3
  have hk4 := g_k_app (K1 := [.inr (0, 8)]) hk4
  have hk5 := g_k_app (K1 := [.inr (0, 8)]) hk5
  have hk6 := g_k_app (K1 := [.inr (0, 8)]) hk6
  have hk7 := g_k_app (K1 := [.inr (0, 8)]) hk7
  have hk8 := g_k_app (K1 := [.inr (0, 8)]) hk8
  have hk9 := g_k_app (K1 := [.inr (0, 8)]) hk9
  have hk10 := g_k_app (K1 := [.inr (0, 8)]) hk10
  have hk11 := g_k_app (K1 := [.inr (0, 8)]) hk11
  have hk12 := g_k_app (K1 := [.inr (0, 8)]) hk12
  refine tq_putFA (nx := 197) (kz := 19) hC46 fk_X10_98 rfl (g_in (g_m2 (List.mem_of_getElem? (i := 111) rfl)) rfl) rfl hk0 (g_at ck_X10_init 92 rfl) rfl rfl (by omega) (by omega) (fun hC47 => ?_)
  exact tz_vret (g_at ck_X10_init 93 rfl) rfl ⟨rfl, rfl, rfl, rfl⟩
