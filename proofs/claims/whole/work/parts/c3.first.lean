/-! The first world. -/
def TZ : List (Int × Int × Int) := [(84, 68, 121), (84, 67, 120), (84, 66, 119), (84, 61, 118), (84, 60, 117), (84, 59, 116), (84, 57, 115), (84, 56, 114), (84, 55, 113), (84, 54, 112), (84, 53, 111), (84, 52, 110), (84, 50, 109), (84, 49, 108), (84, 48, 107), (84, 47, 106), (84, 46, 105), (84, 44, 104), (84, 43, 103), (84, 42, 102), (84, 41, 101), (84, 40, 100), (84, 39, 99), (84, 38, 98), (84, 37, 97), (84, 36, 96), (84, 35, 95), (84, 34, 94), (84, 33, 93), (84, 15, 92), (84, 11, 91), (84, 10, 90), (84, 9, 89), (84, 8, 88), (84, 7, 87), (84, 6, 86), (84, 5, 85), (1, 19, 83), (1, 18, 82), (1, 17, 81), (1, 16, 80), (1, 15, 71), (71, 0, 3), (71, 10, 79), (71, 7, 78), (71, 6, 77), (71, 5, 76), (71, 4, 75), (71, 3, 74), (71, 2, 73), (71, 1, 72), (1, 14, 62), (62, 0, 3), (62, 4, 70), (62, 3, 69), (62, 2, 68), (62, 1, 63), (63, 4, 67), (63, 3, 66), (63, 2, 65), (63, 1, 64), (1, 13, 61), (1, 12, 57), (57, 2, 60), (57, 1, 59), (57, 0, 58), (1, 11, 55), (55, 0, 56), (1, 10, 50), (50, 4, 54), (50, 3, 53), (50, 2, 52), (50, 1, 51), (1, 8, 46), (46, 2, 49), (46, 1, 48), (46, 0, 47), (1, 7, 44), (44, 0, 45), (1, 6, 39), (39, 4, 43), (39, 3, 42), (39, 2, 41), (39, 1, 40), (1, 5, 37), (37, 2, 26), (37, 1, 20), (37, 0, 38), (38, 0, 2), (1, 4, 20), (20, 9, 32), (32, 4, 36), (32, 3, 35), (32, 2, 34), (32, 1, 33), (20, 8, 29), (29, 1, 31), (29, 0, 30), (20, 7, 26), (26, 1, 28), (26, 0, 27), (20, 6, 25), (20, 5, 24), (20, 4, 23), (20, 3, 22), (20, 2, 21), (1, 3, 3), (3, 9, 15), (15, 4, 19), (15, 3, 18), (15, 2, 17), (15, 1, 16), (3, 8, 12), (12, 1, 14), (12, 0, 13), (3, 7, 9), (9, 1, 11), (9, 0, 10), (3, 6, 8), (3, 5, 7), (3, 4, 6), (3, 3, 5), (3, 2, 4), (1, 0, 2)]
def SZ : List (Int × Int × Int) := [(84, 14, -1), (84, 4, -1), (84, 3, -1), (1, 2, -1)]
theorem ly_TZ : LY (tf TZ) := by
  unfold LY
  decide +kernel
theorem mr_SZ : MR (tf SZ) := by
  have h0 : MR (fun _ _ => 0) := fun r k => ⟨by show -2147483648 ≤ (0 : Int); decide, by show (0 : Int) < 2147483648; decide⟩
  have h1 : -2147483648 ≤ (-1 : Int) ∧ (-1 : Int) < 2147483648 := by decide
  exact (((h0.wr (r := 1) (k := 2) h1).wr (r := 84) (k := 3) h1).wr (r := 84) (k := 4) h1).wr (r := 84) (k := 14) h1
theorem sz_0 (a j : Int) (h1 : a ≠ 1) (h4 : a ≠ 84) : tf SZ a j = 0 := by
  show wr (wr (wr (wr (fun _ _ => 0) 1 2 (-1)) 84 3 (-1)) 84 4 (-1)) 84 14 (-1) a j = 0
  rw [wr_ne h4, wr_ne h4, wr_ne h4, wr_ne h1]
theorem rw_Z : RwO (fun _ _ => 0) (fun _ => 0) := ⟨⟨⟨Int.le_refl 0, by show (0 : Int) ≤ 9999 + 0; decide⟩, fun p _ h => absurd (show p < (0 : Int) from h) (by omega), fun c _ h => absurd (show c < (0 : Int) from h) (by omega), fun j _ _ => ⟨Int.le_refl 0, by show (0 : Int) ≤ 8 * 0; decide⟩⟩, fun c _ h => absurd (show c < (0 : Int) from h) (by omega)⟩
theorem cw_Z : CW (tf TZ) (tf SZ) (fun _ _ => 0) [] [] (fun _ => 0) 0 (fun _ _ => 0) (fun _ _ => 0) 0 (fun _ => 0) 0 (fun _ _ => 0) (fun _ _ => 0) (fun _ => 0) 0 (-1) (fun _ => 0) := by
  refine ⟨⟨Or.inl ⟨by decide +kernel, by decide +kernel⟩, by unfold isR4; decide +kernel⟩, ?_, ⟨sz_0 _ _ (by decide) (by decide), fun p _ _ => ⟨sz_0 _ _ (by decide) (by decide), sz_0 _ _ (by decide) (by decide)⟩, fun c _ _ => ⟨sz_0 _ _ (by decide) (by decide), sz_0 _ _ (by decide) (by decide)⟩⟩, ⟨sz_0 _ _ (by decide) (by decide), by rw [sz_0 _ _ (by decide) (by decide)]; decide, fun k j _ h => absurd h (by omega)⟩, ⟨sz_0 _ _ (by decide) (by decide), fun i _ h => absurd (show i < (0 : Int) from h) (by omega)⟩, ⟨by decide +kernel, fun h => absurd rfl h⟩, fun j _ h => absurd h (by omega), ⟨by decide +kernel, by decide +kernel⟩, fun k _ _ => sz_0 _ _ (by decide) (by decide)⟩
  rw [show tf TZ 1 3 = 3 by decide +kernel]
  exact ⟨Or.inl rfl, sz_0 _ _ (by decide) (by decide), sz_0 _ _ (by decide) (by decide), fun c _ h => absurd (show c < (0 : Int) from h) (by omega), fun c r _ h => absurd (show c < (0 : Int) from h) (by omega), fun p _ h => absurd (show p < (0 : Int) from h) (by omega), ⟨sz_0 _ _ (by decide) (by decide), by decide, fun i h => absurd h (Nat.not_lt_zero _), fun h => absurd rfl h⟩, ⟨sz_0 _ _ (by decide) (by decide), by decide, fun i h => absurd h (Nat.not_lt_zero _), fun h => absurd rfl h⟩⟩
theorem mw_Z : MW (tf SZ) (fun _ _ => 0) [] [] (fun _ => 0) 0 (fun _ _ => 0) (fun _ _ => 0) 0 (fun _ => 0) 0 (fun _ _ => 0) (fun _ _ => 0) (fun _ => 0) 0 (-1) (fun _ => 0) :=
  ⟨⟨by decide +kernel, by decide +kernel, fun c _ h => absurd (show c < (0 : Int) from h) (by omega), fun c r _ h => absurd (show c < (0 : Int) from h) (by omega), fun p _ h => absurd (show p < (0 : Int) from h) (by omega), ⟨⟨fun h => absurd rfl h, fun c h => nomatch h⟩, Or.inl ⟨rfl, by decide +kernel⟩⟩, ⟨⟨fun h => absurd rfl h, fun c h => nomatch h⟩, Or.inl ⟨rfl, by decide +kernel⟩⟩⟩, fun k _ _ => sz_0 _ _ (by decide) (by decide), ⟨by decide +kernel, fun k j _ h => absurd h (by omega)⟩, ⟨by decide +kernel, fun i _ h => absurd (show i < (0 : Int) from h) (by omega)⟩, ⟨by decide +kernel, fun h => absurd rfl h⟩, ⟨by decide +kernel, fun j _ h => absurd h (by omega)⟩, ⟨by decide +kernel, by decide +kernel⟩, fun k _ _ => sz_0 _ _ (by decide) (by decide), fun i _ _ => Or.inl (sz_0 _ _ (by decide) (by decide))⟩
theorem pw_Z : PW 0 (fun _ _ => 0) [] [] (fun _ => 0) 0 (fun _ _ => 0) (fun _ _ => 0) 0 (fun _ => 0) 0 (fun _ _ => 0) (fun _ _ => 0) (fun _ => 0) 0 (-1) (fun _ => 0) :=
  ⟨⟨⟨Int.le_refl 0, (by decide : (0 : Int) ≤ 9)⟩, ⟨Int.le_refl 0, (by decide : (0 : Int) ≤ 8)⟩, fun c _ h => absurd (show c < (0 : Int) from h) (by omega), fun c r _ h => absurd (show c < (0 : Int) from h) (by omega), fun p _ h => absurd (show p < (0 : Int) from h) (by omega)⟩, ⟨rw_Z, by decide, fun k _ h => absurd h (by omega), ⟨Int.le_refl 0, (by decide : (0 : Int) ≤ 8)⟩, fun i _ h => absurd (show i < (0 : Int) from h) (by omega)⟩, ⟨Or.inl rfl, fun h => absurd rfl h⟩, fun j => ⟨Int.le_refl 0, (by decide : (0 : Int) < 256)⟩, ⟨by decide, by decide⟩, fun k _ _ => ⟨Int.le_refl 0, Int.le_refl 0⟩⟩
theorem iw_Z : IW 0 (tf TZ) (tf SZ) := IW.mk ly_TZ mr_SZ cw_Z mw_Z pw_Z
theorem tz_KT {l : Launch} {γ : Gh} {μ : MD} {d cb sb : Nat} {R : RR} {X : XX} {K K' : List Kd} {ρ ρ' m m' : Mm} {pc : Nat} {ls : List (Option VV)} {st : List VV} (e1 : K = K') (e2 : ρ = ρ') (e3 : m = m') (k : gT l γ μ d cb sb R X K' ρ' m' pc ls st) : gT l γ μ d cb sb R X K ρ m pc ls st := by
  subst e1; subst e2; subst e3; exact k
theorem tz_wide {l : Launch} {γ : Gh} {μ : MD} {d cb sb cb' sb' : Nat} {R : RR} {X : XX} {K : List Kd} {ρ m : Mm} {pc : Nat} {ls : List (Option VV)} {st : List VV} (h1 : cb' ≤ cb) (h2 : sb' ≤ sb) (k : gT l γ μ d cb' sb' R X K ρ m pc ls st) : gT l γ μ d cb sb R X K ρ m pc ls st := by
  intro p e s mth args below meth c A K0 ad0 mc ms H locs cells slots ad lsr C E P D S hc hs hl
  exact k p e s mth args below meth c A K0 ad0 mc ms H locs cells slots ad lsr C E P D S (by omega) (by omega) hl
set_option maxRecDepth 20000 in
theorem law_begin {l : Launch} {γ : Gh} {R : RR} {X : XX} (hR1 : ∀ ρ m, R (some (vI 1)) KK ρ m) (hln : γ.2.2.2.2.1 ≤ 3072) : gT l γ μL_law 60 2170 43156 R X [] (tf []) (tf []) 0 [some (vR (-1)), none, none, none, none, none, none] [] := by
  have hC0 : CS [] [] [] 0 := ⟨rfl, BK.nil, BK.nil⟩
  refine tq_new (nx := 3) (n9 := 1) (cb' := 2169) (sb' := 43136) hC0 (by omega) nw_L_8 ⟨okR (by omega), trivial⟩ trivial (g_at ck_L_law0 0 rfl) rfl ⟨Nat.le_of_ble_eq_true rfl, Nat.le_of_ble_eq_true rfl⟩ (fun hC1 => ?_)
  refine tz_dupR (n := 4) (g_at ck_L_law0 1 rfl) rfl ?_
  refine tq_ci (nx := 7) (μ' := μX10_init) (As := []) (r := 1) (mc' := 82) (ms' := 11837) (cb' := 2087) (sb' := 31299) hC1 ml_L_122 mo_X10_init mi_X10_init rfl rfl np_X10_init (by omega) (g_at ck_L_law0 2 rfl) rfl ⟨by decide, by decide⟩ (Nat.le_of_ble_eq_true rfl) (Nat.le_of_ble_eq_true rfl) (Nat.le_of_ble_eq_true rfl) ⟨okR (by omega), trivial⟩ ⟨okR (by omega), trivial⟩ nw_posts ?_
  refine tz_astore1 (n := 8) (g_at ck_L_law0 3 rfl) rfl (by decide) g_hpR (by decide) ?_
  have hC2 : CS KA TA SA 83 := ⟨rfl, by unfold BK; decide +kernel, by unfold BK; decide +kernel⟩
  refine tq_new (nx := 11) (n9 := 84) (cb' := 2086) (sb' := 31230) hC2 (by omega) nw_L_123 ⟨okR (by omega), okR (by omega), trivial⟩ trivial (g_at ck_L_law0 4 rfl) rfl ⟨Nat.le_of_ble_eq_true rfl, Nat.le_of_ble_eq_true rfl⟩ (fun hC3 => ?_)
  have hk3 : g_k _ 84 = some (.inl 11) := g_k_new (kd := .inl 11) hC2.1 (by omega)
  refine tz_dupR (n := 12) (g_at ck_L_law0 5 rfl) rfl ?_
  refine tq_ci (nx := 15) (μ' := μX11_init) (As := []) (r := 84) (mc' := 37) (ms' := 18941) (cb' := 2049) (sb' := 12289) hC3 ml_L_125 mo_X11_init mi_X11_init rfl rfl np_X11_init (by omega) (g_at ck_L_law0 6 rfl) rfl ⟨by decide, by decide⟩ (Nat.le_of_ble_eq_true rfl) (Nat.le_of_ble_eq_true rfl) (Nat.le_of_ble_eq_true rfl) ⟨okR (by omega), okR (by omega), trivial⟩ ⟨okR (by omega), trivial⟩ (nw_model hC3 hk3) ?_
  have hC4 := nw_model_C hC3 hk3
  refine tz_astore2 (n := 16) (g_at ck_L_law0 7 rfl) rfl (by decide) g_hpR (by decide) ?_
  refine tz_iconst (n := 17) (g_at ck_L_law0 8 rfl) rfl ?_
  refine tq_newaJ (N := 1) (nx := 19) (n9 := 122) (cb' := 2048) (sb' := 12288) hC4 (by omega) rfl ⟨okR (by omega), okR (by omega), okR (by omega), trivial⟩ trivial (Nat.le_of_ble_eq_true rfl) (g_at ck_L_law0 9 rfl) rfl ⟨Nat.le_of_ble_eq_true rfl, Nat.le_of_ble_eq_true rfl⟩ (fun hC5 => ?_)
  refine tz_astore3 (n := 20) (g_at ck_L_law0 10 rfl) rfl (by decide) g_hpR (by decide) ?_
  refine tz_iconst (n := 21) (g_at ck_L_law0 11 rfl) rfl ?_
  refine tz_istore4 (n := 23) (g_at ck_L_law0 12 rfl) rfl (by decide) g_hpR ?_
  refine tz_KT (K' := KK) (ρ' := tf TZ) (m' := tf SZ) rfl rfl rfl ?_
  have hk := law_loop (l := l) (γ := γ) (R := R) (X := X) hR1 hln (γ.2.2.2.2.1 / 6) 0 (tf TZ) (tf SZ) (by omega) iw_Z
  exact tz_wide (by omega) (by omega) hk
