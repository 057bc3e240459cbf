/-! years. -/
def dr1 (x : Int) : Int := w32 (x * 1103515245 + 12345)
def drV (x k : Int) : Int := bAnd (bUsh (dr1 x) 16) 32767 % k
theorem bAnd_15 (x : Int) : 0 ≤ bAnd x 32767 ∧ bAnd x 32767 ≤ 32767 := by
  have e : (Int32.ofInt x &&& Int32.ofInt 32767).toBitVec.toNat ≤ 32767 := by
    rw [Int32.toBitVec_and, BitVec.toNat_and]
    exact Nat.le_trans Nat.and_le_right (by decide)
  unfold bAnd
  rw [i32t (by omega)]
  omega
theorem drV_rg {x k : Int} (hk : 0 < k) : 0 ≤ drV x k ∧ drV x k < k := ⟨Int.emod_nonneg _ (by omega), Int.emod_lt_of_pos _ hk⟩
def drA (Λ : Mm) (x : Int) (σ : Mm) : Int × Mm :=
  if drV x 5 = 0 ∧ 0 < Λ 0 0 then
    if 0 < Λ 3 (drV (dr1 x) (Λ 0 0)) then (dr1 (dr1 (dr1 x)), wr σ 0 (17 + drV (dr1 x) (Λ 0 0)) (drV (dr1 (dr1 x)) (Λ 3 (drV (dr1 x) (Λ 0 0)))))
    else (dr1 (dr1 x), σ)
  else if drV x 5 = 1 ∧ 0 < Λ 0 1 then (dr1 (dr1 (dr1 x)), wr σ 0 (1 + drV (dr1 x) (Λ 0 1)) (drV (dr1 (dr1 x)) (Λ 0 0)))
  else (dr1 x, σ)
theorem drA_WS {Λ σ : Mm} {b x : Int} (hW : WL Λ) (h : WS Λ b σ) : WS Λ b (drA Λ x σ).2 := by
  unfold drA
  split
  · rename_i h1
    have hc := drV_rg (x := dr1 x) h1.2
    split
    · rename_i h2
      exact WS_arm hW h hc (drV_rg h2)
    · exact h
  · split
    · rename_i h1
      have hp := drV_rg (x := dr1 x) h1.2
      have hh := hW.2.2.2.2 _ hp.1 hp.2
      exact WS_whr hW h hp (drV_rg (by omega))
    · exact h
theorem drA_1 {Λ σ : Mm} {x : Int} (h1 : drV x 5 = 0) (h2 : ¬ Λ 0 0 ≤ 0) (h3 : ¬ Λ 3 (drV (dr1 x) (Λ 0 0)) ≤ 0) : drA Λ x σ = (dr1 (dr1 (dr1 x)), wr σ 0 (17 + drV (dr1 x) (Λ 0 0)) (drV (dr1 (dr1 x)) (Λ 3 (drV (dr1 x) (Λ 0 0))))) := by
  unfold drA
  rw [if_pos ⟨h1, by omega⟩, if_pos (by omega)]
theorem drA_2 {Λ σ : Mm} {x : Int} (h1 : drV x 5 = 0) (h2 : ¬ Λ 0 0 ≤ 0) (h3 : Λ 3 (drV (dr1 x) (Λ 0 0)) ≤ 0) : drA Λ x σ = (dr1 (dr1 x), σ) := by
  unfold drA
  rw [if_pos ⟨h1, by omega⟩, if_neg (by omega)]
theorem drA_3 {Λ σ : Mm} {x : Int} (h1 : drV x 5 = 1) (h2 : ¬ Λ 0 1 ≤ 0) : drA Λ x σ = (dr1 (dr1 (dr1 x)), wr σ 0 (1 + drV (dr1 x) (Λ 0 1)) (drV (dr1 (dr1 x)) (Λ 0 0))) := by
  unfold drA
  rw [if_neg (by omega), if_pos ⟨h1, by omega⟩]
theorem drA_4 {Λ σ : Mm} {x : Int} (h0 : ¬ (drV x 5 = 0 ∧ 0 < Λ 0 0)) (h1 : ¬ (drV x 5 = 1 ∧ 0 < Λ 0 1)) : drA Λ x σ = (dr1 x, σ) := by
  unfold drA
  rw [if_neg h0, if_neg h1]
def yrN (Λ : Mm) (hl tl : List Int) (x : Int) (σ : Mm) (n : Nat) : Int × Mm := fd (fun _ q => ((drA Λ q.1 q.2).1, dayP Λ hl tl 1 (drA Λ q.1 q.2).2)) (x, σ) n
theorem yrN_WS {Λ σ : Mm} {b x : Int} {hl tl : List Int} (hW : WL Λ) (h : WS Λ b σ) (hb : 0 ≤ b) : ∀ n : Nat, WS Λ (b + 9 * n) (yrN Λ hl tl x σ n).2
  | 0 => by
    show WS Λ (b + 9 * 0) σ
    rw [Int.mul_zero, Int.add_zero]
    exact h
  | n + 1 => (dayP_WS hW (drA_WS hW (yrN_WS hW h hb n)) (by omega)).up (by omega)
theorem TripC.n80 {m m9 σ : Mm} (h : TripC m σ) (k : ∀ a, a ≠ 80 → m9 a = m a) : TripC m9 σ := h.sam fun a h1 h2 => k a (by omega)
theorem trL_n80 {ld : Int} (h : ld = 3 ∨ ld = 20) : (80 : Int) ∉ trL ld := fun h9 => by
  have := trL_no h h9
  omega
theorem trL_64 {ld : Int} : (64 : Int) ∈ trL ld := by
  unfold trL
  simp
def purS (σ : Mm) (n : Nat) : Int := fd (fun p v => v + σ 0 (9 + (p : Int))) 0 n
theorem sp_draw {l : Launch} {γ : Gh} {ρ m : Mm} {k v : Int} (hR : MR m) (hk : 0 < k ∧ k < 2147483648) (hx : m 80 0 = v) : gE l γ μX1_next 0 0 0 (rI KK fun x ρ9 m9 => ρ = ρ9 ∧ MR m9 ∧ drV v k = x ∧ wr m 80 0 (dr1 v) = m9) xN KK ρ m [vR 80, vI k] := by
  refine gE.ofw cl_X1.2 ?_ rfl rfl (Nat.le_of_ble_eq_true rfl)
  show gT l γ μX1_next 0 0 0 _ _ KK ρ m 0 [some (vR 80), some (vI k)] []
  refine tz_iload1 (n := 1) (g_at ck_X1_next 0 rfl) rfl ?_
  refine tz_if_gt (n := 4) (tgt := 6) (g_at ck_X1_next 1 rfl) rfl rfl ⟨(by omega), (by omega)⟩ (fun h1 => ?_) (fun h1 => absurd h1 (by omega))
  refine tz_aload0 (n := 7) (g_at ck_X1_next 4 rfl) rfl (g_ne kd_80) ?_
  refine tz_aload0 (n := 8) (g_at ck_X1_next 5 rfl) rfl (g_ne kd_80) ?_
  refine tz_getIw (n := 11) (kz := 0) fk_X1_7 kd_80 (g_at ck_X1_next 6 rfl) rfl rfl ?_
  rw [hx]
  refine tz_ldcI (n := 13) kn_X1_13 (g_at ck_X1_next 7 rfl) rfl ?_
  refine tz_imul (n := 14) (g_at ck_X1_next 8 rfl) rfl ?_
  refine tz_sipush (n := 17) (g_at ck_X1_next 9 rfl) rfl rfl ?_
  refine tz_iadd (n := 18) (g_at ck_X1_next 10 rfl) rfl ?_
  rw [show Int32.toInt 1103515245 = 1103515245 from rfl]
  refine tz_wrap ?_
  refine tz_putIr (n := 21) (kz := 0) fk_X1_7 kd_80 (g_at ck_X1_next 11 rfl) rfl hR (w32_rg _) rfl (fun hR1 => ?_)
  refine tz_aload0 (n := 22) (g_at ck_X1_next 12 rfl) rfl (g_ne kd_80) ?_
  refine tz_getIw (n := 25) (kz := 0) fk_X1_7 kd_80 (g_at ck_X1_next 13 rfl) rfl rfl ?_
  rw [wr_same]
  refine tz_bipush (n := 27) (g_at ck_X1_next 14 rfl) rfl rfl ?_
  refine tz_iushr (n := 28) (g_at ck_X1_next 15 rfl) rfl ?_
  refine tz_sipush (n := 31) (g_at ck_X1_next 16 rfl) rfl rfl ?_
  refine tz_iand (n := 32) (g_at ck_X1_next 17 rfl) rfl ?_
  refine tz_iload1 (n := 33) (g_at ck_X1_next 18 rfl) rfl ?_
  refine tz_irem (n := 34) (g_at ck_X1_next 19 rfl) rfl (by omega) ?_
  rw [bRem_nn (by have := bAnd_15 (bUsh (dr1 v) 16); unfold dr1 at this; omega) (by omega)]
  exact tz_iret (g_at ck_X1_next 20 rfl) rfl (rI_mk ⟨rfl, hR1, rfl, rfl⟩)
theorem sp_drawAhead {l : Launch} {γ : Gh} {ρ m : Mm} {ld b : Int} {Λ σ : Mm} {hl tl : List Int} (hL : LY ρ) (hLt : ρ 62 0 = ld) (hS : isS ρ ld) (hR : MR m) (hW : WL Λ) (hG : LandC m ld Λ hl tl) (hT : TripC m σ) (hσ : WS Λ b σ) (hb : 0 ≤ b ∧ b ≤ 100000) {x : Int} (hLn : ρ 1 3 = ld) (hx : m 80 0 = x) : gE l γ μX10_drawAhead 1 0 0 (rV KK fun ρ9 m9 => ρ = ρ9 ∧ MR m9 ∧ TripC m9 (drA Λ x σ).2 ∧ m9 80 0 = (drA Λ x σ).1 ∧ Fr (80 :: trL ld) m m9) xN KK ρ m [vR 1] := by
  refine gE.ofw cl_X10.2 ?_ rfl rfl (Nat.le_of_ble_eq_true rfl)
  show gT l γ μX10_drawAhead 1 0 0 _ _ KK ρ m 0 [some (vR 1), none, none] []
  have hn := hW.1
  have hn8 := hW.2.1
  have hld := hG.ld9
  have hv5 := drV_rg (x := x) (k := 5) (by decide)
  refine tz_aload0 (n := 1) (g_at ck_X10_drawAhead 0 rfl) rfl (g_ne kd_1) ?_
  refine tz_getOv (n := 4) (a := 80) fk_X10_88 kd_1 (ly_1_16 hL) (g_at ck_X10_drawAhead 1 rfl) rfl ?_
  refine tz_iconst (n := 5) (g_at ck_X10_drawAhead 2 rfl) rfl ?_
  refine tz_cvI1 (n := 8) (μ' := μX1_next) (cb' := 0) (sb' := 0) ml_X10_373 mo_X1_next mv_X1_next np_X1_next kd_80 (g_at ck_X10_drawAhead 3 rfl) (sp_draw hR (by omega) hx) rfl rfl rfl ⟨by decide, by decide⟩ (Nat.le_of_ble_eq_true rfl) (by decide) (by decide) (fun x5 ρ9 m5 hq => ?_)
  obtain ⟨rfl, hR1, rfl, rfl⟩ := hq
  refine tz_istore1 (n := 9) (g_at ck_X10_drawAhead 4 rfl) rfl (by decide) g_hpR ?_
  refine tz_iload1 (n := 10) (g_at ck_X10_drawAhead 5 rfl) rfl ?_
  refine tz_if_ne (n := 13) (tgt := 81) (g_at ck_X10_drawAhead 6 rfl) rfl rfl (by omega) (fun h10 => ?_) (fun h10 => ?_)
  · skip
    refine tz_iload1 (n := 82) (g_at ck_X10_drawAhead 39 rfl) rfl ?_
    refine tz_iconst (n := 83) (g_at ck_X10_drawAhead 40 rfl) rfl ?_
    refine tz_icmp_ne (n := 86) (tgt := 137) (g_at ck_X10_drawAhead 41 rfl) rfl rfl ⟨by omega, by omega, by decide, by decide⟩ (fun h83 => ?_) (fun h83 => ?_)
    · skip
      exact tz_vret (g_at ck_X10_drawAhead 65 rfl) rfl (rV_mk ⟨rfl, hR1, by rw [drA_4 (by omega) (by omega)]; exact hT.n80 (fun a ha => wr_ne ha), by rw [drA_4 (by omega) (by omega), wr_same], (Fr.rf).wrc⟩)
    · skip
      refine tz_aload0 (n := 87) (g_at ck_X10_drawAhead 42 rfl) rfl (g_ne kd_1) ?_
      refine tz_getOv (n := 90) (a := ld) fk_X10_20 kd_1 hLn (g_at ck_X10_drawAhead 43 rfl) rfl ?_
      refine tz_getIw (n := 93) (kz := 1) fk_X10_142 hS.k0 (g_at ck_X10_drawAhead 44 rfl) rfl rfl ?_
      rw [wr_ne (show ld ≠ 80 by omega), hG.n1]
      refine tz_if_le (n := 96) (tgt := 137) (g_at ck_X10_drawAhead 45 rfl) rfl rfl (by omega) (fun h93 => ?_) (fun h93 => ?_)
      · skip
        exact tz_vret (g_at ck_X10_drawAhead 65 rfl) rfl (rV_mk ⟨rfl, hR1, by rw [drA_4 (by omega) (by omega)]; exact hT.n80 (fun a ha => wr_ne ha), by rw [drA_4 (by omega) (by omega), wr_same], (Fr.rf).wrc⟩)
      · skip
        refine tz_aload0 (n := 97) (g_at ck_X10_drawAhead 46 rfl) rfl (g_ne kd_1) ?_
        refine tz_getOv (n := 100) (a := 80) fk_X10_88 kd_1 (ly_1_16 hL) (g_at ck_X10_drawAhead 47 rfl) rfl ?_
        refine tz_aload0 (n := 101) (g_at ck_X10_drawAhead 48 rfl) rfl (g_ne kd_1) ?_
        refine tz_getOv (n := 104) (a := ld) fk_X10_20 kd_1 hLn (g_at ck_X10_drawAhead 49 rfl) rfl ?_
        refine tz_getIw (n := 107) (kz := 1) fk_X10_142 hS.k0 (g_at ck_X10_drawAhead 50 rfl) rfl rfl ?_
        rw [wr_ne (show ld ≠ 80 by omega), hG.n1]
        refine tz_cvI1 (n := 110) (μ' := μX1_next) (cb' := 0) (sb' := 0) ml_X10_373 mo_X1_next mv_X1_next np_X1_next kd_80 (g_at ck_X10_drawAhead 51 rfl) (sp_draw hR1 (by omega) wr_same) rfl rfl rfl ⟨by decide, by decide⟩ (Nat.le_of_ble_eq_true rfl) (by decide) (by decide) (fun x107 ρ9 m107 hq => ?_)
        obtain ⟨rfl, hR2, rfl, rfl⟩ := hq
        have hvp := drV_rg (x := dr1 x) (k := Λ 0 1) (by omega)
        have hh := hW.2.2.2.2 _ hvp.1 hvp.2
        refine tz_istore2 (n := 111) (g_at ck_X10_drawAhead 52 rfl) rfl (by decide) g_hpI ?_
        refine tz_aload0 (n := 112) (g_at ck_X10_drawAhead 53 rfl) rfl (g_ne kd_1) ?_
        refine tz_getOv (n := 115) (a := 62) fk_X10_74 kd_1 (ly_1_14 hL) (g_at ck_X10_drawAhead 54 rfl) rfl ?_
        refine tz_getOv (n := 118) (a := 63) fk_X10_258 kd_62 (ly_62_1 hL) (g_at ck_X10_drawAhead 55 rfl) rfl ?_
        refine tz_getAv (n := 121) (a := 64) fk_X10_224 (isM_63 hL).k0 (isM_63 hL).r0_1 (g_at ck_X10_drawAhead 56 rfl) rfl ?_
        refine tz_iload2 (n := 122) (g_at ck_X10_drawAhead 57 rfl) rfl ?_
        refine tz_aload0 (n := 123) (g_at ck_X10_drawAhead 58 rfl) rfl (g_ne kd_1) ?_
        refine tz_getOv (n := 126) (a := 80) fk_X10_88 kd_1 (ly_1_16 hL) (g_at ck_X10_drawAhead 59 rfl) rfl ?_
        refine tz_aload0 (n := 127) (g_at ck_X10_drawAhead 60 rfl) rfl (g_ne kd_1) ?_
        refine tz_getOv (n := 130) (a := ld) fk_X10_20 kd_1 hLn (g_at ck_X10_drawAhead 61 rfl) rfl ?_
        refine tz_getIw (n := 133) (kz := 0) fk_X10_139 hS.k0 (g_at ck_X10_drawAhead 62 rfl) rfl rfl ?_
        rw [wr_ne (show ld ≠ 80 by omega), wr_ne (show ld ≠ 80 by omega), hG.n0]
        refine tz_cvI1 (n := 136) (μ' := μX1_next) (cb' := 0) (sb' := 0) ml_X10_373 mo_X1_next mv_X1_next np_X1_next kd_80 (g_at ck_X10_drawAhead 63 rfl) (sp_draw hR2 (by omega) wr_same) rfl rfl rfl ⟨by decide, by decide⟩ (Nat.le_of_ble_eq_true rfl) (by decide) (by decide) (fun x133 ρ9 m133 hq => ?_)
        obtain ⟨rfl, hR3, rfl, rfl⟩ := hq
        have hvw := drV_rg (x := dr1 (dr1 x)) (k := Λ 0 0) (by omega)
        refine tz_iastr (n := 137) (isM_63 hL).k1 (by omega) (g_at ck_X10_drawAhead 64 rfl) rfl hR3 (by omega) (fun hR4 => ?_)
        exact tz_vret (g_at ck_X10_drawAhead 65 rfl) rfl (rV_mk ⟨rfl, hR4, by rw [drA_3 h83 h93]; exact (hT.n80 (fun a ha => by rw [wr_ne ha, wr_ne ha, wr_ne ha])).setW (by omega), by rw [drA_3 h83 h93, wr_ne (by decide), wr_same], (((((Fr.rf).wrc).wrc).wrc).wr (List.mem_cons_of_mem _ trL_64))⟩)
  · skip
    refine tz_aload0 (n := 14) (g_at ck_X10_drawAhead 7 rfl) rfl (g_ne kd_1) ?_
    refine tz_getOv (n := 17) (a := ld) fk_X10_20 kd_1 hLn (g_at ck_X10_drawAhead 8 rfl) rfl ?_
    refine tz_getIw (n := 20) (kz := 0) fk_X10_139 hS.k0 (g_at ck_X10_drawAhead 9 rfl) rfl rfl ?_
    rw [wr_ne (show ld ≠ 80 by omega), hG.n0]
    refine tz_if_le (n := 23) (tgt := 81) (g_at ck_X10_drawAhead 10 rfl) rfl rfl (by omega) (fun h20 => ?_) (fun h20 => ?_)
    · skip
      refine tz_iload1 (n := 82) (g_at ck_X10_drawAhead 39 rfl) rfl ?_
      refine tz_iconst (n := 83) (g_at ck_X10_drawAhead 40 rfl) rfl ?_
      refine tz_icmp_ne (n := 86) (tgt := 137) (g_at ck_X10_drawAhead 41 rfl) rfl rfl ⟨by omega, by omega, by decide, by decide⟩ (fun h83 => ?_) (fun h83 => absurd h83 (by omega))
      exact tz_vret (g_at ck_X10_drawAhead 65 rfl) rfl (rV_mk ⟨rfl, hR1, by rw [drA_4 (by omega) (by omega)]; exact hT.n80 (fun a ha => wr_ne ha), by rw [drA_4 (by omega) (by omega), wr_same], (Fr.rf).wrc⟩)
    · skip
      refine tz_aload0 (n := 24) (g_at ck_X10_drawAhead 11 rfl) rfl (g_ne kd_1) ?_
      refine tz_getOv (n := 27) (a := 80) fk_X10_88 kd_1 (ly_1_16 hL) (g_at ck_X10_drawAhead 12 rfl) rfl ?_
      refine tz_aload0 (n := 28) (g_at ck_X10_drawAhead 13 rfl) rfl (g_ne kd_1) ?_
      refine tz_getOv (n := 31) (a := ld) fk_X10_20 kd_1 hLn (g_at ck_X10_drawAhead 14 rfl) rfl ?_
      refine tz_getIw (n := 34) (kz := 0) fk_X10_139 hS.k0 (g_at ck_X10_drawAhead 15 rfl) rfl rfl ?_
      rw [wr_ne (show ld ≠ 80 by omega), hG.n0]
      refine tz_cvI1 (n := 37) (μ' := μX1_next) (cb' := 0) (sb' := 0) ml_X10_373 mo_X1_next mv_X1_next np_X1_next kd_80 (g_at ck_X10_drawAhead 16 rfl) (sp_draw hR1 (by omega) wr_same) rfl rfl rfl ⟨by decide, by decide⟩ (Nat.le_of_ble_eq_true rfl) (by decide) (by decide) (fun x34 ρ9 m34 hq => ?_)
      obtain ⟨rfl, hR5, rfl, rfl⟩ := hq
      have hvc := drV_rg (x := dr1 x) (k := Λ 0 0) (by omega)
      have hc3 := hW.2.2.1 _ hvc.1 hvc.2
      refine tz_istore2 (n := 38) (g_at ck_X10_drawAhead 17 rfl) rfl (by decide) g_hpI ?_
      refine tz_aload0 (n := 39) (g_at ck_X10_drawAhead 18 rfl) rfl (g_ne kd_1) ?_
      refine tz_getOv (n := 42) (a := ld) fk_X10_20 kd_1 hLn (g_at ck_X10_drawAhead 19 rfl) rfl ?_
      refine tz_getAv (n := 45) (a := (ld + 3)) fk_X10_194 hS.k0 hS.r0_4 (g_at ck_X10_drawAhead 20 rfl) rfl ?_
      refine tz_iload2 (n := 46) (g_at ck_X10_drawAhead 21 rfl) rfl ?_
      refine tz_iald (n := 47) hS.k3 (by omega) (g_at ck_X10_drawAhead 22 rfl) rfl ?_
      rw [wr_ne (show ld + 3 ≠ 80 by omega), wr_ne (show ld + 3 ≠ 80 by omega), hG.roads _ hvc]
      refine tz_if_le (n := 50) (tgt := 78) (g_at ck_X10_drawAhead 23 rfl) rfl rfl (by omega) (fun h47 => ?_) (fun h47 => ?_)
      · skip
        refine tz_goto (tgt := 137) (g_at ck_X10_drawAhead 38 rfl) rfl ?_
        exact tz_vret (g_at ck_X10_drawAhead 65 rfl) rfl (rV_mk ⟨rfl, hR5, by rw [drA_2 h10 h20 h47]; exact hT.n80 (fun a ha => by rw [wr_ne ha, wr_ne ha]), by rw [drA_2 h10 h20 h47, wr_same], ((Fr.rf).wrc).wrc⟩)
      · skip
        refine tz_aload0 (n := 51) (g_at ck_X10_drawAhead 24 rfl) rfl (g_ne kd_1) ?_
        refine tz_getOv (n := 54) (a := 62) fk_X10_74 kd_1 (ly_1_14 hL) (g_at ck_X10_drawAhead 25 rfl) rfl ?_
        refine tz_getOv (n := 57) (a := 63) fk_X10_258 kd_62 (ly_62_1 hL) (g_at ck_X10_drawAhead 26 rfl) rfl ?_
        refine tz_getAv (n := 60) (a := 66) fk_X10_197 (isM_63 hL).k0 (isM_63 hL).r0_3 (g_at ck_X10_drawAhead 27 rfl) rfl ?_
        refine tz_iload2 (n := 61) (g_at ck_X10_drawAhead 28 rfl) rfl ?_
        refine tz_aload0 (n := 62) (g_at ck_X10_drawAhead 29 rfl) rfl (g_ne kd_1) ?_
        refine tz_getOv (n := 65) (a := 80) fk_X10_88 kd_1 (ly_1_16 hL) (g_at ck_X10_drawAhead 30 rfl) rfl ?_
        refine tz_aload0 (n := 66) (g_at ck_X10_drawAhead 31 rfl) rfl (g_ne kd_1) ?_
        refine tz_getOv (n := 69) (a := ld) fk_X10_20 kd_1 hLn (g_at ck_X10_drawAhead 32 rfl) rfl ?_
        refine tz_getAv (n := 72) (a := (ld + 3)) fk_X10_194 hS.k0 hS.r0_4 (g_at ck_X10_drawAhead 33 rfl) rfl ?_
        refine tz_iload2 (n := 73) (g_at ck_X10_drawAhead 34 rfl) rfl ?_
        refine tz_iald (n := 74) hS.k3 (by omega) (g_at ck_X10_drawAhead 35 rfl) rfl ?_
        rw [wr_ne (show ld + 3 ≠ 80 by omega), wr_ne (show ld + 3 ≠ 80 by omega), hG.roads _ hvc]
        refine tz_cvI1 (n := 77) (μ' := μX1_next) (cb' := 0) (sb' := 0) ml_X10_373 mo_X1_next mv_X1_next np_X1_next kd_80 (g_at ck_X10_drawAhead 36 rfl) (sp_draw hR5 (by omega) wr_same) rfl rfl rfl ⟨by decide, by decide⟩ (Nat.le_of_ble_eq_true rfl) (by decide) (by decide) (fun x74 ρ9 m74 hq => ?_)
        obtain ⟨rfl, hR6, rfl, rfl⟩ := hq
        have hvr := drV_rg (x := dr1 (dr1 x)) (k := (Λ 3 (drV (dr1 x) (Λ 0 0)))) (by omega)
        refine tz_iastr (n := 78) (isM_63 hL).k3 (by omega) (g_at ck_X10_drawAhead 37 rfl) rfl hR6 (by omega) (fun hR7 => ?_)
        refine tz_goto (tgt := 137) (g_at ck_X10_drawAhead 38 rfl) rfl ?_
        exact tz_vret (g_at ck_X10_drawAhead 65 rfl) rfl (rV_mk ⟨rfl, hR7, by rw [drA_1 h10 h20 h47]; exact (hT.n80 (fun a ha => by rw [wr_ne ha, wr_ne ha, wr_ne ha])).setA (by omega), by rw [drA_1 h10 h20 h47, wr_ne (by decide), wr_same], (((((Fr.rf).wrc).wrc).wrc).wr (List.mem_cons_of_mem _ (trL_66 66 List.mem_cons_self)))⟩)
theorem sumP_pur {m σ : Mm} (hT : TripC m σ) : ∀ n : Nat, n ≤ 8 → sumP (m (63 + 2)) n = purS σ n
  | 0, _ => rfl
  | n + 1, hn => by
    show sumP (m (63 + 2)) n + m (63 + 2) (n : Int) = purS σ n + σ 0 (9 + (n : Int))
    rw [sumP_pur hT n (by omega), show m (63 + 2) (n : Int) = σ 0 (9 + (n : Int)) from hT.pur n (by omega)]
theorem sp_years {l : Launch} {γ : Gh} {ρ m : Mm} {sd n w : Int} (hsd : -2147483648 ≤ sd ∧ sd < 2147483648) (hn : -2147483648 ≤ n ∧ n < 2147483648) (hw : -2147483648 ≤ w ∧ w < 2147483648) {ld : Int} {Λ : Mm} {hl tl : List Int} (hL : LY ρ) (hLn : ρ 1 3 = ld) (hS : isS ρ ld) (hR : MR m) (hW : WL Λ) (hG : LandC m ld Λ hl tl) {s : Int → Int} (hN : MomC m 39 s) (hσ : WS Λ 0 (sig0 s)) : gE l γ μX10_years 7 2 12 (rI KK fun x ρ9 m9 => qR ρ ρ9 ∧ MR m9 ∧ qM ld m m9 ∧ sq (cdW w 2) (cdD n 0 100) = 0 ∧ (if w = 1 then bcJ (homB Λ (yrN Λ hl tl sd (sig0 s) n.toNat).2) else if w = 0 then sumS (yrN Λ hl tl sd (sig0 s) n.toNat).2 (Λ 0 1).toNat else purS (yrN Λ hl tl sd (sig0 s) n.toNat).2 (Λ 0 1).toNat) = x) (xC ρ m (sq (cdW w 2) (cdD n 0 100))) KK ρ m [vR 1, vI sd, vI n, vI w] := by
  refine gE.ofw cl_X10.2 ?_ rfl rfl (Nat.le_of_ble_eq_true rfl)
  show gT l γ μX10_years 7 2 12 _ _ KK ρ m 0 [some (vR 1), some (vI sd), some (vI n), some (vI w), none] []
  have hn1 := hW.1
  have hn8 := hW.2.1
  have hld := hG.ld9
  refine tz_iload3 (n := 1) (g_at ck_X10_years 0 rfl) rfl ?_
  refine tz_iconst (n := 2) (g_at ck_X10_years 1 rfl) rfl ?_
  refine tz_csxV2 (n := 5) (μ' := μX10_needWhat) (cb' := 1) (sb' := 6) ml_X10_135 mo_X10_needWhat ms_X10_needWhat np_X10_needWhat (g_at ck_X10_years 2 rfl) (sp_needW ⟨hw.1, hw.2⟩ ⟨(by decide), (by decide)⟩ hR) rfl rfl ⟨by decide, by decide⟩ (Nat.le_of_ble_eq_true rfl) (by decide) (by decide) (g_in (g_m4 (List.mem_of_getElem? (i := 228) rfl)) rfl) (fun E9 ρ9 m9 h9 => g_gX_out rfl h9.1 h9.2.1 (sq_1 h9.2.2)) (fun ρ9 m2 hq => ?_)
  obtain ⟨rfl, hR1, rfl, hz2⟩ := hq
  have hw2 := cdW_0 hz2
  refine tz_iload2 (n := 6) (g_at ck_X10_years 3 rfl) rfl ?_
  refine tz_iconst (n := 7) (g_at ck_X10_years 4 rfl) rfl ?_
  refine tz_bipush (n := 9) (g_at ck_X10_years 5 rfl) rfl rfl ?_
  refine tz_csxV3 (n := 12) (μ' := μX10_needDays) (cb' := 0) (sb' := 0) ml_X10_270 mo_X10_needDays ms_X10_needDays np_X10_needDays (g_at ck_X10_years 6 rfl) (sp_needD ⟨hn.1, hn.2⟩ ⟨(by decide), (by decide)⟩ ⟨(by decide), (by decide)⟩ hR1) rfl rfl ⟨by decide, by decide⟩ (Nat.le_of_ble_eq_true rfl) (by decide) (by decide) (g_in (g_m5 (List.mem_of_getElem? (i := 145) rfl)) rfl) (fun E9 ρ9 m9 h9 => g_gX_out rfl h9.1 h9.2.1 (sq_2 hz2 h9.2.2)) (fun ρ9 m9 hq => ?_)
  obtain ⟨rfl, hR2, rfl, hz9⟩ := hq
  have hn2 := cdD_0 hz9
  refine tz_aload0 (n := 13) (g_at ck_X10_years 7 rfl) rfl (g_ne kd_1) ?_
  refine tz_cvR0 (n := 16) (μ' := μX10_setOut) (cb' := 0) (sb' := 0) ml_X10_251 mo_X10_setOut mv_X10_setOut np_X10_setOut kd_1 (g_at ck_X10_years 8 rfl) (sp_setOut hL hLn hS hR2 hW hG hN) rfl rfl rfl ⟨by decide, by decide⟩ (Nat.le_of_ble_eq_true rfl) (by decide) (by decide) (fun x13 ρ9 m13 hq => ?_)
  obtain ⟨rfl, rfl, hR3, hT13, hF13⟩ := hq
  have hQ13 := qM_trL (hF13.sub (trL_be (ld := ld)))
  have hG13 := hG.fr (hF13.sub trL_be)
  have hL := LY_wr (r := 62) (k := 0) (x := ld) hL (by decide)
  have hLt : wr ρ 62 0 ld 62 0 = ld := wr_same
  have hLn : wr ρ 62 0 ld 1 3 = ld := (by rw [wr_ne (by decide)]; exact hLn)
  have hS : isS (wr ρ 62 0 ld) ld := isS_of hL hld
  have hqr13 := qR_62 (ρ := ρ) (x := ld)
  refine tz_popR (n := 17) (g_at ck_X10_years 9 rfl) rfl ?_
  refine tz_aload0 (n := 18) (g_at ck_X10_years 10 rfl) rfl (g_ne kd_1) ?_
  refine tz_getOv (n := 21) (a := 80) fk_X10_88 kd_1 (ly_1_16 hL) (g_at ck_X10_years 11 rfl) rfl ?_
  refine tz_iload1 (n := 22) (g_at ck_X10_years 12 rfl) rfl ?_
  refine tz_putIr (n := 25) (kz := 0) fk_X10_364 kd_80 (g_at ck_X10_years 13 rfl) rfl hR3 hsd rfl (fun hR4 => ?_)
  refine tz_iconst (n := 26) (g_at ck_X10_years 14 rfl) rfl ?_
  refine tz_istore4 (n := 28) (g_at ck_X10_years 15 rfl) rfl (by decide) g_hpI ?_
  refine g_for (fun i : Nat => ∀ m1 : Mm, (MR m1 ∧ TripC m1 (yrN Λ hl tl sd (sig0 s) i).2 ∧ m1 80 0 = (yrN Λ hl tl sd (sig0 s) i).1 ∧ Fr (80 :: trL ld) m m1) → gT l γ μX10_years 7 0 0 _ _ KK (wr ρ 62 0 ld) m1 28 [some (vR 1), some (vI sd), some (vI n), some (vI w), some (vI (i : Int))] []) n.toNat ?_ (fun i hi ihi => ?_) 0 (Nat.zero_le _) _ ⟨hR4, hT13.n80 (fun a ha => wr_ne ha), wr_same, (hF13.sub trL_be).cons.wrc⟩
  · intro m1 hinv
    obtain ⟨hRi, hTi, hxi, hFi⟩ := hinv
    have hGi := hG.q (qM_trc (by decide) hFi)
    have hσi := yrN_WS (hl := hl) (tl := tl) (x := sd) hW hσ (Int.le_refl 0) n.toNat
    refine tz_iload4 (n := 30) (g_at ck_X10_years 16 rfl) rfl ?_
    refine tz_iload2 (n := 31) (g_at ck_X10_years 17 rfl) rfl ?_
    refine tz_icmp_ge (n := 34) (tgt := 52) (g_at ck_X10_years 18 rfl) rfl rfl ⟨(by omega), (by omega), (by omega), (by omega)⟩ (fun h31 => ?_) (fun h31 => absurd h31 (by omega))
    refine tz_iload3 (n := 53) (g_at ck_X10_years 27 rfl) rfl ?_
    refine tz_iconst (n := 54) (g_at ck_X10_years 28 rfl) rfl ?_
    refine tz_icmp_ne (n := 57) (tgt := 75) (g_at ck_X10_years 29 rfl) rfl rfl ⟨hw.1, hw.2, (by decide), (by decide)⟩ (fun h54 => ?_) (fun h54 => ?_)
    · skip
      refine tz_iload3 (n := 76) (g_at ck_X10_years 38 rfl) rfl ?_
      refine tz_if_ne (n := 79) (tgt := 89) (g_at ck_X10_years 39 rfl) rfl rfl ⟨hw.1, hw.2⟩ (fun h76 => ?_) (fun h76 => ?_)
      · skip
        refine tz_aload0 (n := 90) (g_at ck_X10_years 44 rfl) rfl (g_ne kd_1) ?_
        refine tz_getOv (n := 93) (a := ld) fk_X10_20 kd_1 hLn (g_at ck_X10_years 45 rfl) rfl ?_
        refine tz_aload0 (n := 94) (g_at ck_X10_years 46 rfl) rfl (g_ne kd_1) ?_
        refine tz_getOv (n := 97) (a := 62) fk_X10_74 kd_1 (ly_1_14 hL) (g_at ck_X10_years 47 rfl) rfl ?_
        refine tz_getOv (n := 100) (a := 63) fk_X10_258 kd_62 (ly_62_1 hL) (g_at ck_X10_years 48 rfl) rfl ?_
        refine tz_cvI1 (n := 103) (μ' := μX6_purses) (cb' := 0) (sb' := 0) ml_X10_169 mo_X6_purses mv_X6_purses np_X6_purses hS.k0 (g_at ck_X10_years 49 rfl) (sp_purses hS (isM_63 hL) hRi (by rw [hGi.n1]; omega)) rfl rfl rfl ⟨by decide, by decide⟩ (Nat.le_of_ble_eq_true rfl) (by decide) (by decide) (fun x100 ρ9 m100 hq => ?_)
        obtain ⟨rfl, hR5, rfl, rfl⟩ := hq
        rw [hGi.n1, sumP_pur hTi _ (by omega)]
        exact tz_iret (g_at ck_X10_years 50 rfl) rfl (rI_mk ⟨qR_62, hR5, qM_trc (by decide) hFi, sq_0 hz2 hz9, by simp (disch := omega) only [if_pos, if_neg]⟩)
      · skip
        refine tz_aload0 (n := 80) (g_at ck_X10_years 40 rfl) rfl (g_ne kd_1) ?_
        refine tz_getOv (n := 83) (a := 62) fk_X10_74 kd_1 (ly_1_14 hL) (g_at ck_X10_years 41 rfl) rfl ?_
        refine tz_cvI0 (n := 86) (μ' := μX8_allSteps) (cb' := 0) (sb' := 0) ml_X10_370 mo_X8_allSteps mv_X8_allSteps np_X8_allSteps kd_62 (g_at ck_X10_years 42 rfl) (sp_allSteps hL hLt hS hRi hW hGi hTi hσi (by omega)) rfl rfl rfl ⟨by decide, by decide⟩ (Nat.le_of_ble_eq_true rfl) (by decide) (by decide) (fun x83 ρ9 m83 hq => ?_)
        obtain ⟨rfl, hR6, rfl, rfl⟩ := hq
        refine tz_goto (tgt := 103) (g_at ck_X10_years 43 rfl) rfl ?_
        exact tz_iret (g_at ck_X10_years 50 rfl) rfl (rI_mk ⟨qR_62, hR6, qM_trc (by decide) hFi, sq_0 hz2 hz9, by simp (disch := omega) only [if_pos, if_neg]⟩)
    · skip
      refine tz_aload0 (n := 58) (g_at ck_X10_years 30 rfl) rfl (g_ne kd_1) ?_
      refine tz_getOv (n := 61) (a := ld) fk_X10_20 kd_1 hLn (g_at ck_X10_years 31 rfl) rfl ?_
      refine tz_aload0 (n := 62) (g_at ck_X10_years 32 rfl) rfl (g_ne kd_1) ?_
      refine tz_getOv (n := 65) (a := 62) fk_X10_74 kd_1 (ly_1_14 hL) (g_at ck_X10_years 33 rfl) rfl ?_
      refine tz_getOv (n := 68) (a := 63) fk_X10_258 kd_62 (ly_62_1 hL) (g_at ck_X10_years 34 rfl) rfl ?_
      refine tz_cvI1 (n := 71) (μ' := μX6_atHome) (cb' := 0) (sb' := 0) ml_X10_155 mo_X6_atHome mv_X6_atHome np_X6_atHome hS.k0 (g_at ck_X10_years 35 rfl) (sp_atHome hS (isM_63 hL) hRi (by rw [hGi.n1]; omega)) rfl rfl rfl ⟨by decide, by decide⟩ (Nat.le_of_ble_eq_true rfl) (by decide) (by decide) (fun x68 ρ9 m68 hq => ?_)
      obtain ⟨rfl, hR7, rfl, rfl⟩ := hq
      rw [homB_C hW hGi hTi]
      refine tz_csI1 (n := 74) (μ' := μJ6_bitCount_0f7a4) (cb' := 0) (sb' := 0) ml_X10_179 mo_J6_bitCount_0f7a4 ms_J6_bitCount_0f7a4 np_J6_bitCount_0f7a4 (g_at ck_X10_years 36 rfl) (sp_bitCount hR7) rfl rfl ⟨by decide, by decide⟩ (Nat.le_of_ble_eq_true rfl) (by decide) (by decide) (fun x71 ρ9 m71 hq => ?_)
      obtain ⟨rfl, hR8, rfl, rfl⟩ := hq
      exact tz_iret (g_at ck_X10_years 37 rfl) rfl (rI_mk ⟨qR_62, hR8, qM_trc (by decide) hFi, sq_0 hz2 hz9, by simp (disch := omega) only [if_pos, if_neg]⟩)
  · intro m1 hinv
    obtain ⟨hRi, hTi, hxi, hFi⟩ := hinv
    have hGi := hG.q (qM_trc (by decide) hFi)
    have hσi := yrN_WS (hl := hl) (tl := tl) (x := sd) hW hσ (Int.le_refl 0) i
    refine tz_iload4 (n := 30) (g_at ck_X10_years 16 rfl) rfl ?_
    refine tz_iload2 (n := 31) (g_at ck_X10_years 17 rfl) rfl ?_
    refine tz_icmp_ge (n := 34) (tgt := 52) (g_at ck_X10_years 18 rfl) rfl rfl ⟨(by omega), (by omega), (by omega), (by omega)⟩ (fun h31 => absurd h31 (by omega)) (fun h31 => ?_)
    refine tz_aload0 (n := 35) (g_at ck_X10_years 19 rfl) rfl (g_ne kd_1) ?_
    refine tz_cvV0 (n := 38) (μ' := μX10_drawAhead) (cb' := 0) (sb' := 0) ml_X10_367 mo_X10_drawAhead mv_X10_drawAhead np_X10_drawAhead kd_1 (g_at ck_X10_years 20 rfl) (sp_drawAhead hL hLt hS hRi hW hGi hTi hσi (by omega) hLn hxi) rfl rfl rfl ⟨by decide, by decide⟩ (Nat.le_of_ble_eq_true rfl) (by decide) (by decide) (fun ρ9 m35 hq => ?_)
    obtain ⟨rfl, hR9, hT35, hx35, hF35⟩ := hq
    have hF35t := hFi.tr hF35
    have hG35 := hG.q (qM_trc (by decide) hF35t)
    have hσ35 := drA_WS (x := (yrN Λ hl tl sd (sig0 s) i).1) hW hσi
    refine tz_aload0 (n := 39) (g_at ck_X10_years 21 rfl) rfl (g_ne kd_1) ?_
    refine tz_getOv (n := 42) (a := 62) fk_X10_74 kd_1 (ly_1_14 hL) (g_at ck_X10_years 22 rfl) rfl ?_
    refine tz_iconst (n := 43) (g_at ck_X10_years 23 rfl) rfl ?_
    refine tz_cvV1 (n := 46) (μ' := μX8_goDay) (cb' := 0) (sb' := 0) ml_X10_277 mo_X8_goDay mv_X8_goDay np_X8_goDay kd_62 (g_at ck_X10_years 24 rfl) (sp_goDay hL hLt hS hR9 hW hG35 hT35 hσ35 (by omega) (by omega)) rfl rfl rfl ⟨by decide, by decide⟩ (Nat.le_of_ble_eq_true rfl) (by decide) (by decide) (fun ρ9 m43 hq => ?_)
    obtain ⟨rfl, hR10, hT43, hF43⟩ := hq
    refine tz_iinc4 (n := 49) (g_at ck_X10_years 25 rfl) rfl (by decide) g_hpI ?_
    refine tz_goto (tgt := 28) (g_at ck_X10_years 26 rfl) rfl ?_
    exact ihi _ ⟨hR10, hT43, (by rw [hF43 80 (trL_n80 hld)]; exact hx35), hF35t.tr hF43.cons⟩
