/-! Acts, the tape, counts. -/
def rfM (m : Mm) (k : Int) : Mm := wr m 61 k (m 61 k + 1)
def actcp (m : Mm) (o q : Int) : Mm := wr (wr (cpy m (o + 1) 0 (q + 1) 0 1400) q 1 (m o 1)) q 2 (m o 2)
def sencp (m : Mm) (o q : Int) : Mm := wr (cpy (cpy (cpy m (o + 1) 0 (q + 1) 0 8) (o + 2) 0 (q + 2) 0 8) (o + 3) 0 (q + 3) 0 8) q 3 (m o 3)
def fe1 (m : Mm) (v k : Int) : Mm := wr (wr m 2 (m 1 1) (bAnd (bUsh v k) 255)) 1 1 (m 1 1 + 1)
theorem fe1_f {m : Mm} {v k : Int} : fe1 m v k 1 1 = m 1 1 + 1 := wr_same
def feI (m : Mm) (v : Int) (n : Nat) : Mm := fd (fun i w => fe1 w v (24 - 8 * (i : Int))) m n
theorem feI_f {m : Mm} {v : Int} : ∀ n : Nat, feI m v n 1 1 = m 1 1 + n
  | 0 => by show m 1 1 = m 1 1 + ((0 : Nat) : Int); omega
  | n + 1 => by
    show fe1 (feI m v n) v (24 - 8 * (n : Int)) 1 1 = _
    rw [fe1_f, feI_f n]
    omega
theorem feI_R {m : Mm} {v : Int} (hR : MR m) (hf : 0 ≤ m 1 1 ∧ m 1 1 ≤ 696) : ∀ n : Nat, n ≤ 4 → MR (feI m v n)
  | 0, _ => hR
  | n + 1, hn => by
    have h9 := feI_f (m := m) (v := v) n
    show MR (fe1 (feI m v n) v (24 - 8 * (n : Int)))
    exact ((feI_R hR hf n (by omega)).wr (bAnd_rg _ _)).wr (by omega)
def shtN (s : Int → Int) (n : Nat) : Int := fd (fun c v => v + bcJ (s (26 + (c : Int)))) 0 n
def rdsN (Λ : Mm) (n : Nat) : Int := fd (fun c v => v + Λ 3 (c : Int)) 0 n
theorem rds_C {m Λ : Mm} {ld : Int} {hl tl : List Int} (hG : LandC m ld Λ hl tl) : ∀ n : Nat, (n : Int) ≤ Λ 0 0 → sumP (m (ld + 3)) n = rdsN Λ n
  | 0, _ => rfl
  | n + 1, hn => by
    show sumP (m (ld + 3)) n + m (ld + 3) (n : Int) = rdsN Λ n + Λ 3 (n : Int)
    rw [rds_C hG n (by omega), hG.roads (n : Int) (by omega)]
theorem pur_now {m : Mm} {s : Int → Int} (hN : MomC m 39 s) : ∀ n : Nat, n ≤ 8 → sumP (m (39 + 2)) n = purS (sig0 s) n
  | 0, _ => rfl
  | n + 1, hn => by
    show sumP (m (39 + 2)) n + m (39 + 2) (n : Int) = purS (sig0 s) n + s (9 + (n : Int))
    rw [pur_now hN n (by omega), show m (39 + 2) (n : Int) = s (9 + (n : Int)) from nowP hN n (by omega)]
def stdB (Λ σ : Mm) (c : Int) : Int := bmI (fun p => σ 0 (1 + (p : Int)) = c) (Λ 0 1).toNat
theorem std_now {m Λ : Mm} {s : Int → Int} {c : Int} (hW : WL Λ) (hN : MomC m 39 s) : bitsW (m (39 + 1)) c (Λ 0 1).toNat = stdB Λ (sig0 s) c := by
  have hn8 := hW.2.1
  unfold bitsW stdB bmI
  exact fd_congr fun i v hi => by rw [show m (39 + 1) (i : Int) = sig0 s 0 (1 + (i : Int)) from nowW hN i (by omega)]
theorem sp_refuse {l : Launch} {γ : Gh} {ρ m : Mm} {k : Int} (hL : LY ρ) (hR : MR m) (hk : 0 ≤ k ∧ k < 3) (hb : m 61 k < 2000000000) : gE l γ μX10_refuse 0 0 0 (rI KK fun x ρ9 m9 => ρ = ρ9 ∧ MR m9 ∧ -1 = x ∧ rfM m k = m9) xN KK ρ m [vR 1, vI k] := by
  refine gE.ofw cl_X10.2 ?_ rfl rfl (Nat.le_of_ble_eq_true rfl)
  show gT l γ μX10_refuse 0 0 0 _ _ KK ρ m 0 [some (vR 1), some (vI k)] []
  refine tz_aload0 (n := 1) (g_at ck_X10_refuse 0 rfl) rfl (g_ne kd_1) ?_
  refine tz_getAv (n := 4) (a := 61) fk_X10_66 kd_1 (ly_1_13 hL) (g_at ck_X10_refuse 1 rfl) rfl ?_
  refine tz_iload1 (n := 5) (g_at ck_X10_refuse 2 rfl) rfl ?_
  refine tz_dup2 (n := 6) (g_at ck_X10_refuse 3 rfl) rfl ?_
  refine tz_iald (n := 7) kd_61 (by omega) (g_at ck_X10_refuse 4 rfl) rfl ?_
  refine tz_iconst (n := 8) (g_at ck_X10_refuse 5 rfl) rfl ?_
  refine tz_iadd (n := 9) (g_at ck_X10_refuse 6 rfl) rfl ?_
  refine tz_iastr (n := 10) kd_61 (by omega) (g_at ck_X10_refuse 7 rfl) rfl hR (by have := hR 61 k; omega) (fun hR1 => ?_)
  refine tz_iconst (n := 11) (g_at ck_X10_refuse 8 rfl) rfl ?_
  exact tz_iret (g_at ck_X10_refuse 9 rfl) rfl (rI_mk ⟨rfl, hR1, rfl, rfl⟩)
theorem sp_feedFour {l : Launch} {γ : Gh} {ρ m : Mm} {v : Int} (hL : LY ρ) (hR : MR m) (hf : 0 ≤ m 1 1 ∧ m 1 1 ≤ 696) : gE l γ μX10_feedFour 0 0 0 (rV KK fun ρ9 m9 => ρ = ρ9 ∧ MR m9 ∧ feI m v 4 = m9) xN KK ρ m [vR 1, vI v] := by
  refine gE.ofw cl_X10.2 ?_ rfl rfl (Nat.le_of_ble_eq_true rfl)
  show gT l γ μX10_feedFour 0 0 0 _ _ KK ρ m 0 [some (vR 1), some (vI v), none] []
  refine tz_bipush (n := 2) (g_at ck_X10_feedFour 0 rfl) rfl rfl ?_
  refine tz_istore2 (n := 3) (g_at ck_X10_feedFour 1 rfl) rfl (by decide) g_hpI ?_
  suffices hlp : ∀ i : Nat, i ≤ 4 → gT l γ μX10_feedFour 0 0 0 _ _ KK ρ (feI m v i) 3 [some (vR 1), some (vI v), some (vI (24 - 8 * (i : Int)))] [] by
    have h0 := hlp 0 (Nat.zero_le _)
    exact h0
  refine g_for (fun i : Nat => gT l γ μX10_feedFour 0 0 0 _ _ KK ρ (feI m v i) 3 [some (vR 1), some (vI v), some (vI (24 - 8 * (i : Int)))] []) 4 ?_ (fun i hi ihi => ?_)
  · skip
    refine tz_iload2 (n := 4) (g_at ck_X10_feedFour 2 rfl) rfl ?_
    refine tz_if_lt (n := 7) (tgt := 49) (g_at ck_X10_feedFour 3 rfl) rfl rfl (by omega) (fun h4 => ?_) (fun h4 => absurd h4 (by omega))
    exact tz_vret (g_at ck_X10_feedFour 26 rfl) rfl (rV_mk ⟨rfl, (feI_R hR hf 4 (by decide)), rfl⟩)
  · skip
    have hfi := feI_f (m := m) (v := v) i
    refine tz_iload2 (n := 4) (g_at ck_X10_feedFour 2 rfl) rfl ?_
    refine tz_if_lt (n := 7) (tgt := 49) (g_at ck_X10_feedFour 3 rfl) rfl rfl (by omega) (fun h4 => absurd h4 (by omega)) (fun h4 => ?_)
    refine tz_aload0 (n := 8) (g_at ck_X10_feedFour 4 rfl) rfl (g_ne kd_1) ?_
    refine tz_getIw (n := 11) (kz := 1) fk_X10_101 kd_1 (g_at ck_X10_feedFour 5 rfl) rfl rfl ?_
    refine tz_sipush (n := 14) (g_at ck_X10_feedFour 6 rfl) rfl rfl ?_
    refine tz_icmp_ge (n := 17) (tgt := 49) (g_at ck_X10_feedFour 7 rfl) rfl rfl ⟨by omega, by omega, by decide, by decide⟩ (fun h14 => absurd h14 (by omega)) (fun h14 => ?_)
    refine tz_aload0 (n := 18) (g_at ck_X10_feedFour 8 rfl) rfl (g_ne kd_1) ?_
    refine tz_getAv (n := 21) (a := 2) fk_X10_9 kd_1 (ly_1_0 hL) (g_at ck_X10_feedFour 9 rfl) rfl ?_
    refine tz_aload0 (n := 22) (g_at ck_X10_feedFour 10 rfl) rfl (g_ne kd_1) ?_
    refine tz_getIw (n := 25) (kz := 1) fk_X10_101 kd_1 (g_at ck_X10_feedFour 11 rfl) rfl rfl ?_
    refine tz_iload1 (n := 26) (g_at ck_X10_feedFour 12 rfl) rfl ?_
    refine tz_iload2 (n := 27) (g_at ck_X10_feedFour 13 rfl) rfl ?_
    refine tz_iushr (n := 28) (g_at ck_X10_feedFour 14 rfl) rfl ?_
    refine tz_sipush (n := 31) (g_at ck_X10_feedFour 15 rfl) rfl rfl ?_
    refine tz_iand (n := 32) (g_at ck_X10_feedFour 16 rfl) rfl ?_
    refine tz_iastr (n := 33) kd_2 (by omega) (g_at ck_X10_feedFour 17 rfl) rfl (feI_R hR hf i (by omega)) ⟨(bAnd_rg _ _).1, (bAnd_rg _ _).2⟩ (fun hR1 => ?_)
    refine tz_aload0 (n := 34) (g_at ck_X10_feedFour 18 rfl) rfl (g_ne kd_1) ?_
    refine tz_dupR (n := 35) (g_at ck_X10_feedFour 19 rfl) rfl ?_
    refine tz_getIw (n := 38) (kz := 1) fk_X10_101 kd_1 (g_at ck_X10_feedFour 20 rfl) rfl rfl ?_
    rw [wr_ne (show (1 : Int) ≠ 2 by decide)]
    refine tz_iconst (n := 39) (g_at ck_X10_feedFour 21 rfl) rfl ?_
    refine tz_iadd (n := 40) (g_at ck_X10_feedFour 22 rfl) rfl ?_
    refine tz_putIr (n := 43) (kz := 1) fk_X10_101 kd_1 (g_at ck_X10_feedFour 23 rfl) rfl hR1 (by omega) rfl (fun hR2 => ?_)
    refine tz_iinc2 (n := 46) (g_at ck_X10_feedFour 24 rfl) rfl (by decide) g_hpI ?_
    refine tz_goto (tgt := 3) (g_at ck_X10_feedFour 25 rfl) rfl ?_
    refine gT_eq ihi rfl ?_
    rw [show 24 - 8 * ((i + 1 : Nat) : Int) = 24 - 8 * (i : Int) + -8 by omega]
theorem sp_feed {l : Launch} {γ : Gh} {ρ m : Mm} {a b c d e : Int} (hL : LY ρ) (hR : MR m) (hf : 0 ≤ m 1 1 ∧ m 1 1 ≤ 700) : gE l γ μX10_feed 1 0 0 (rI KK fun x ρ9 m9 => ρ = ρ9 ∧ MR m9 ∧ (680 < m 1 1 → x = -1 ∧ m = m9) ∧ (m 1 1 ≤ 680 → m 1 1 + 20 = x ∧ (feI (feI (feI (feI (feI m a 4) b 4) c 4) d 4) e 4) = m9)) xN KK ρ m [vR 1, vI a, vI b, vI c, vI d, vI e] := by
  refine gE.ofw cl_X10.2 ?_ rfl rfl (Nat.le_of_ble_eq_true rfl)
  show gT l γ μX10_feed 1 0 0 _ _ KK ρ m 0 [some (vR 1), some (vI a), some (vI b), some (vI c), some (vI d), some (vI e)] []
  refine tz_aload0 (n := 1) (g_at ck_X10_feed 0 rfl) rfl (g_ne kd_1) ?_
  refine tz_getIw (n := 4) (kz := 1) fk_X10_101 kd_1 (g_at ck_X10_feed 1 rfl) rfl rfl ?_
  refine tz_bipush (n := 6) (g_at ck_X10_feed 2 rfl) rfl rfl ?_
  refine tz_iadd (n := 7) (g_at ck_X10_feed 3 rfl) rfl ?_
  refine tz_sipush (n := 10) (g_at ck_X10_feed 4 rfl) rfl rfl ?_
  refine tz_icmp_le (n := 13) (tgt := 15) (g_at ck_X10_feed 5 rfl) rfl rfl ⟨by omega, by omega, by decide, by decide⟩ (fun h10 => ?_) (fun h10 => ?_)
  · skip
    refine tz_aload0 (n := 16) (g_at ck_X10_feed 8 rfl) rfl (g_ne kd_1) ?_
    refine tz_iload1 (n := 17) (g_at ck_X10_feed 9 rfl) rfl ?_
    refine tz_cvV1 (n := 20) (μ' := μX10_feedFour) (cb' := 0) (sb' := 0) ml_X10_104 mo_X10_feedFour mv_X10_feedFour np_X10_feedFour kd_1 (g_at ck_X10_feed 10 rfl) (sp_feedFour hL hR (by skip; omega)) rfl rfl rfl ⟨by decide, by decide⟩ (Nat.le_of_ble_eq_true rfl) (by decide) (by decide) (fun ρ9 m17 hq => ?_)
    obtain ⟨rfl, hR1, rfl⟩ := hq
    refine tz_aload0 (n := 21) (g_at ck_X10_feed 11 rfl) rfl (g_ne kd_1) ?_
    refine tz_iload2 (n := 22) (g_at ck_X10_feed 12 rfl) rfl ?_
    refine tz_cvV1 (n := 25) (μ' := μX10_feedFour) (cb' := 0) (sb' := 0) ml_X10_104 mo_X10_feedFour mv_X10_feedFour np_X10_feedFour kd_1 (g_at ck_X10_feed 13 rfl) (sp_feedFour hL hR1 (by rw [feI_f]; omega)) rfl rfl rfl ⟨by decide, by decide⟩ (Nat.le_of_ble_eq_true rfl) (by decide) (by decide) (fun ρ9 m22 hq => ?_)
    obtain ⟨rfl, hR2, rfl⟩ := hq
    refine tz_aload0 (n := 26) (g_at ck_X10_feed 14 rfl) rfl (g_ne kd_1) ?_
    refine tz_iload3 (n := 27) (g_at ck_X10_feed 15 rfl) rfl ?_
    refine tz_cvV1 (n := 30) (μ' := μX10_feedFour) (cb' := 0) (sb' := 0) ml_X10_104 mo_X10_feedFour mv_X10_feedFour np_X10_feedFour kd_1 (g_at ck_X10_feed 16 rfl) (sp_feedFour hL hR2 (by rw [feI_f, feI_f]; omega)) rfl rfl rfl ⟨by decide, by decide⟩ (Nat.le_of_ble_eq_true rfl) (by decide) (by decide) (fun ρ9 m27 hq => ?_)
    obtain ⟨rfl, hR3, rfl⟩ := hq
    refine tz_aload0 (n := 31) (g_at ck_X10_feed 17 rfl) rfl (g_ne kd_1) ?_
    refine tz_iload4 (n := 33) (g_at ck_X10_feed 18 rfl) rfl ?_
    refine tz_cvV1 (n := 36) (μ' := μX10_feedFour) (cb' := 0) (sb' := 0) ml_X10_104 mo_X10_feedFour mv_X10_feedFour np_X10_feedFour kd_1 (g_at ck_X10_feed 19 rfl) (sp_feedFour hL hR3 (by rw [feI_f, feI_f, feI_f]; omega)) rfl rfl rfl ⟨by decide, by decide⟩ (Nat.le_of_ble_eq_true rfl) (by decide) (by decide) (fun ρ9 m33 hq => ?_)
    obtain ⟨rfl, hR4, rfl⟩ := hq
    refine tz_aload0 (n := 37) (g_at ck_X10_feed 20 rfl) rfl (g_ne kd_1) ?_
    refine tz_iload5 (n := 39) (g_at ck_X10_feed 21 rfl) rfl ?_
    refine tz_cvV1 (n := 42) (μ' := μX10_feedFour) (cb' := 0) (sb' := 0) ml_X10_104 mo_X10_feedFour mv_X10_feedFour np_X10_feedFour kd_1 (g_at ck_X10_feed 22 rfl) (sp_feedFour hL hR4 (by rw [feI_f, feI_f, feI_f, feI_f]; omega)) rfl rfl rfl ⟨by decide, by decide⟩ (Nat.le_of_ble_eq_true rfl) (by decide) (by decide) (fun ρ9 m39 hq => ?_)
    obtain ⟨rfl, hR5, rfl⟩ := hq
    refine tz_aload0 (n := 43) (g_at ck_X10_feed 23 rfl) rfl (g_ne kd_1) ?_
    refine tz_getIw (n := 46) (kz := 1) fk_X10_101 kd_1 (g_at ck_X10_feed 24 rfl) rfl rfl ?_
    rw [feI_f, feI_f, feI_f, feI_f, feI_f]
    exact tz_iret (g_at ck_X10_feed 25 rfl) rfl (rI_mk ⟨rfl, hR5, fun h9 => absurd h9 (by omega), fun _ => ⟨by omega, rfl⟩⟩)
  · skip
    refine tz_iconst (n := 14) (g_at ck_X10_feed 6 rfl) rfl ?_
    exact tz_iret (g_at ck_X10_feed 7 rfl) rfl (rI_mk ⟨rfl, hR, fun _ => ⟨rfl, rfl⟩, fun h9 => absurd h9 (by omega)⟩)
theorem sp_fault {l : Launch} {γ : Gh} {ρ m : Mm} (hR : MR m) : gE l γ μX10_fault 0 0 0 (rI KK fun x ρ9 m9 => ρ = ρ9 ∧ MR m9 ∧ m 1 2 = x ∧ m = m9) xN KK ρ m [vR 1] := by
  refine gE.ofw cl_X10.2 ?_ rfl rfl (Nat.le_of_ble_eq_true rfl)
  show gT l γ μX10_fault 0 0 0 _ _ KK ρ m 0 [some (vR 1)] []
  refine tz_aload0 (n := 1) (g_at ck_X10_fault 0 rfl) rfl (g_ne kd_1) ?_
  refine tz_getIw (n := 4) (kz := 2) fk_X10_13 kd_1 (g_at ck_X10_fault 1 rfl) rfl rfl ?_
  exact tz_iret (g_at ck_X10_fault 2 rfl) rfl (rI_mk ⟨rfl, hR, rfl, rfl⟩)
theorem sp_shutRoads {l : Launch} {γ : Gh} {ρ m : Mm} {ld : Int} {Λ : Mm} {hl tl : List Int} (hL : LY ρ) (hLn : ρ 1 3 = ld) (hS : isS ρ ld) (hR : MR m) (hW : WL Λ) (hG : LandC m ld Λ hl tl) {s : Int → Int} (hN : MomC m 39 s) (hσ : WS Λ 0 (sig0 s)) : gE l γ μX10_shutRoads 1 0 0 (rI KK fun x ρ9 m9 => ρ = ρ9 ∧ MR m9 ∧ shtN s (Λ 0 0).toNat = x ∧ m = m9) xN KK ρ m [vR 1] := by
  refine gE.ofw cl_X10.2 ?_ rfl rfl (Nat.le_of_ble_eq_true rfl)
  show gT l γ μX10_shutRoads 1 0 0 _ _ KK ρ m 0 [some (vR 1), none, none] []
  have hn1 := hW.1
  have hn8 := hW.2.1
  have hld := hG.ld9
  refine tz_iconst (n := 1) (g_at ck_X10_shutRoads 0 rfl) rfl ?_
  refine tz_istore1 (n := 2) (g_at ck_X10_shutRoads 1 rfl) rfl (by decide) g_hpR ?_
  refine tz_iconst (n := 3) (g_at ck_X10_shutRoads 2 rfl) rfl ?_
  refine tz_istore2 (n := 4) (g_at ck_X10_shutRoads 3 rfl) rfl (by decide) g_hpI ?_
  refine g_for (fun i : Nat => gT l γ μX10_shutRoads 1 0 0 _ _ KK ρ m 4 [some (vR 1), some (vI (shtN s i)), some (vI (i : Int))] []) (Λ 0 0).toNat ?_ (fun i hi ihi => ?_) 0 (Nat.zero_le _)
  · skip
    refine tz_iload2 (n := 5) (g_at ck_X10_shutRoads 4 rfl) rfl ?_
    refine tz_aload0 (n := 6) (g_at ck_X10_shutRoads 5 rfl) rfl (g_ne kd_1) ?_
    refine tz_getOv (n := 9) (a := ld) fk_X10_20 kd_1 hLn (g_at ck_X10_shutRoads 6 rfl) rfl ?_
    refine tz_getIw (n := 12) (kz := 0) fk_X10_139 hS.k0 (g_at ck_X10_shutRoads 7 rfl) rfl rfl ?_
    rw [hG.n0]
    refine tz_icmp_ge (n := 15) (tgt := 36) (g_at ck_X10_shutRoads 8 rfl) rfl rfl ⟨by omega, by omega, by omega, by omega⟩ (fun h12 => ?_) (fun h12 => absurd h12 (by omega))
    refine tz_iload1 (n := 37) (g_at ck_X10_shutRoads 20 rfl) rfl ?_
    exact tz_iret (g_at ck_X10_shutRoads 21 rfl) rfl (rI_mk ⟨rfl, hR, rfl, rfl⟩)
  · skip
    refine tz_iload2 (n := 5) (g_at ck_X10_shutRoads 4 rfl) rfl ?_
    refine tz_aload0 (n := 6) (g_at ck_X10_shutRoads 5 rfl) rfl (g_ne kd_1) ?_
    refine tz_getOv (n := 9) (a := ld) fk_X10_20 kd_1 hLn (g_at ck_X10_shutRoads 6 rfl) rfl ?_
    refine tz_getIw (n := 12) (kz := 0) fk_X10_139 hS.k0 (g_at ck_X10_shutRoads 7 rfl) rfl rfl ?_
    rw [hG.n0]
    refine tz_icmp_ge (n := 15) (tgt := 36) (g_at ck_X10_shutRoads 8 rfl) rfl rfl ⟨by omega, by omega, by omega, by omega⟩ (fun h12 => absurd h12 (by omega)) (fun h12 => ?_)
    refine tz_iload1 (n := 16) (g_at ck_X10_shutRoads 9 rfl) rfl ?_
    refine tz_aload0 (n := 17) (g_at ck_X10_shutRoads 10 rfl) rfl (g_ne kd_1) ?_
    refine tz_getOv (n := 20) (a := 39) fk_X10_39 kd_1 (ly_1_6 hL) (g_at ck_X10_shutRoads 11 rfl) rfl ?_
    refine tz_getAv (n := 23) (a := 43) fk_X10_176 (isM_39 hL).k0 (isM_39 hL).r0_4 (g_at ck_X10_shutRoads 12 rfl) rfl ?_
    refine tz_iload2 (n := 24) (g_at ck_X10_shutRoads 13 rfl) rfl ?_
    refine tz_iald (n := 25) (isM_39 hL).k4 (by omega) (g_at ck_X10_shutRoads 14 rfl) rfl ?_
    rw [nowS hN (i : Int) (by omega)]
    refine tz_csI1 (n := 28) (μ' := μJ6_bitCount_0f7a4) (cb' := 0) (sb' := 0) ml_X10_179 mo_J6_bitCount_0f7a4 ms_J6_bitCount_0f7a4 np_J6_bitCount_0f7a4 (g_at ck_X10_shutRoads 15 rfl) (sp_bitCount hR) rfl rfl ⟨by decide, by decide⟩ (Nat.le_of_ble_eq_true rfl) (by decide) (by decide) (fun x25 ρ9 m25 hq => ?_)
    obtain ⟨rfl, hR1, rfl, rfl⟩ := hq
    refine tz_iadd (n := 29) (g_at ck_X10_shutRoads 16 rfl) rfl ?_
    refine tz_istore1 (n := 30) (g_at ck_X10_shutRoads 17 rfl) rfl (by decide) g_hpR ?_
    refine tz_iinc2 (n := 33) (g_at ck_X10_shutRoads 18 rfl) rfl (by decide) g_hpI ?_
    refine tz_goto (tgt := 4) (g_at ck_X10_shutRoads 19 rfl) rfl ?_
    exact ihi
theorem sp_count {l : Launch} {γ : Gh} {ρ m : Mm} {w : Int} (hw : -2147483648 ≤ w ∧ w < 2147483648) {ld : Int} {Λ : Mm} {hl tl : List Int} (hL : LY ρ) (hLn : ρ 1 3 = ld) (hS : isS ρ ld) (hR : MR m) (hW : WL Λ) (hG : LandC m ld Λ hl tl) {s : Int → Int} (hN : MomC m 39 s) (hσ : WS Λ 0 (sig0 s)) : gE l γ μX10_count 7 1 6 (rI KK fun x ρ9 m9 => qR ρ ρ9 ∧ MR m9 ∧ qM ld m m9 ∧ cdW w 14 = 0 ∧ (if w = 0 then Λ 0 0 else if w = 1 then Λ 0 1 else if w = 2 then s 0 else if w = 3 then rdsN Λ (Λ 0 0).toNat else if w = 4 then shtN s (Λ 0 0).toNat else if w = 5 then homB Λ (sig0 s) else if w = 6 then pcN Λ s (Λ 0 0).toNat else if w = 7 then (wtN Λ s (2 ^ (Λ 0 0).toNat)).1 else if w = 8 then purS (sig0 s) (Λ 0 1).toNat else if w = 9 then m 44 2 else if w = 10 then m 46 3 else if w = 11 then m 1 1 else m 61 (w - 12)) = x) (xC ρ m (cdW w 14)) KK ρ m [vR 1, vI w] := by
  refine gE.ofw cl_X10.2 ?_ rfl rfl (Nat.le_of_ble_eq_true rfl)
  show gT l γ μX10_count 7 1 6 _ _ KK ρ m 0 [some (vR 1), some (vI w)] []
  have hn1 := hW.1
  have hn8 := hW.2.1
  have hld := hG.ld9
  refine tz_iload1 (n := 1) (g_at ck_X10_count 0 rfl) rfl ?_
  refine tz_bipush (n := 3) (g_at ck_X10_count 1 rfl) rfl rfl ?_
  refine tz_csxV2 (n := 6) (μ' := μX10_needWhat) (cb' := 0) (sb' := 0) ml_X10_135 mo_X10_needWhat ms_X10_needWhat np_X10_needWhat (g_at ck_X10_count 2 rfl) (sp_needW ⟨hw.1, hw.2⟩ ⟨(by decide), (by decide)⟩ hR) rfl rfl ⟨by decide, by decide⟩ (Nat.le_of_ble_eq_true rfl) (by decide) (by decide) (g_in (g_m4 (List.mem_of_getElem? (i := 228) rfl)) rfl) (fun E9 ρ9 m9 h9 => g_gX_out rfl h9.1 h9.2.1 h9.2.2) (fun ρ9 m3 hq => ?_)
  obtain ⟨rfl, hR1, rfl, hz3⟩ := hq
  have hw2 := cdW_0 hz3
  refine tz_iload1 (n := 7) (g_at ck_X10_count 3 rfl) rfl ?_
  by_cases hk7_0 : w = 0
  · skip
    refine tz_tableIn (tgt := 68) (g_at ck_X10_count 4 rfl) ⟨hw.1, hw.2⟩ (by omega) (by omega) (by rw [hk7_0]; rfl) rfl ?_
    refine tz_aload0 (n := 69) (g_at ck_X10_count 5 rfl) rfl (g_ne kd_1) ?_
    refine tz_getOv (n := 72) (a := ld) fk_X10_20 kd_1 hLn (g_at ck_X10_count 6 rfl) rfl ?_
    refine tz_getIw (n := 75) (kz := 0) fk_X10_139 hS.k0 (g_at ck_X10_count 7 rfl) rfl rfl ?_
    rw [hG.n0]
    exact tz_iret (g_at ck_X10_count 8 rfl) rfl (rI_mk ⟨qR.rf, hR1, qM.rf, hz3, by simp (disch := omega) only [if_pos, if_neg]⟩)
  by_cases hk7_1 : w = 1
  · skip
    refine tz_tableIn (tgt := 76) (g_at ck_X10_count 4 rfl) ⟨hw.1, hw.2⟩ (by omega) (by omega) (by rw [hk7_1]; rfl) rfl ?_
    refine tz_aload0 (n := 77) (g_at ck_X10_count 9 rfl) rfl (g_ne kd_1) ?_
    refine tz_getOv (n := 80) (a := ld) fk_X10_20 kd_1 hLn (g_at ck_X10_count 10 rfl) rfl ?_
    refine tz_getIw (n := 83) (kz := 1) fk_X10_142 hS.k0 (g_at ck_X10_count 11 rfl) rfl rfl ?_
    rw [hG.n1]
    exact tz_iret (g_at ck_X10_count 12 rfl) rfl (rI_mk ⟨qR.rf, hR1, qM.rf, hz3, by simp (disch := omega) only [if_pos, if_neg]⟩)
  by_cases hk7_2 : w = 2
  · skip
    refine tz_tableIn (tgt := 84) (g_at ck_X10_count 4 rfl) ⟨hw.1, hw.2⟩ (by omega) (by omega) (by rw [hk7_2]; rfl) rfl ?_
    refine tz_aload0 (n := 85) (g_at ck_X10_count 13 rfl) rfl (g_ne kd_1) ?_
    refine tz_getOv (n := 88) (a := 39) fk_X10_39 kd_1 (ly_1_6 hL) (g_at ck_X10_count 14 rfl) rfl ?_
    refine tz_getIw (n := 91) (kz := 0) fk_X10_145 (isM_39 hL).k0 (g_at ck_X10_count 15 rfl) rfl rfl ?_
    rw [nowD hN]
    exact tz_iret (g_at ck_X10_count 16 rfl) rfl (rI_mk ⟨qR.rf, hR1, qM.rf, hz3, by simp (disch := omega) only [if_pos, if_neg]⟩)
  by_cases hk7_3 : w = 3
  · skip
    refine tz_tableIn (tgt := 92) (g_at ck_X10_count 4 rfl) ⟨hw.1, hw.2⟩ (by omega) (by omega) (by rw [hk7_3]; rfl) rfl ?_
    refine tz_aload0 (n := 93) (g_at ck_X10_count 17 rfl) rfl (g_ne kd_1) ?_
    refine tz_getOv (n := 96) (a := ld) fk_X10_20 kd_1 hLn (g_at ck_X10_count 18 rfl) rfl ?_
    refine tz_cvI0 (n := 99) (μ' := μX6_allRoads) (cb' := 0) (sb' := 0) ml_X10_148 mo_X6_allRoads mv_X6_allRoads np_X6_allRoads hS.k0 (g_at ck_X10_count 19 rfl) (sp_allRoads hS hR1 (by rw [hG.n0]; omega)) rfl rfl rfl ⟨by decide, by decide⟩ (Nat.le_of_ble_eq_true rfl) (by decide) (by decide) (fun x96 ρ9 m96 hq => ?_)
    obtain ⟨rfl, hR2, rfl, rfl⟩ := hq
    rw [hG.n0, rds_C hG _ (by omega)]
    exact tz_iret (g_at ck_X10_count 20 rfl) rfl (rI_mk ⟨qR.rf, hR2, qM.rf, hz3, by simp (disch := omega) only [if_pos, if_neg]⟩)
  by_cases hk7_4 : w = 4
  · skip
    refine tz_tableIn (tgt := 100) (g_at ck_X10_count 4 rfl) ⟨hw.1, hw.2⟩ (by omega) (by omega) (by rw [hk7_4]; rfl) rfl ?_
    refine tz_aload0 (n := 101) (g_at ck_X10_count 21 rfl) rfl (g_ne kd_1) ?_
    refine tz_cvI0 (n := 104) (μ' := μX10_shutRoads) (cb' := 0) (sb' := 0) ml_X10_152 mo_X10_shutRoads mv_X10_shutRoads np_X10_shutRoads kd_1 (g_at ck_X10_count 22 rfl) (sp_shutRoads hL hLn hS hR1 hW hG hN hσ) rfl rfl rfl ⟨by decide, by decide⟩ (Nat.le_of_ble_eq_true rfl) (by decide) (by decide) (fun x101 ρ9 m101 hq => ?_)
    obtain ⟨rfl, hR3, rfl, rfl⟩ := hq
    exact tz_iret (g_at ck_X10_count 23 rfl) rfl (rI_mk ⟨qR.rf, hR3, qM.rf, hz3, by simp (disch := omega) only [if_pos, if_neg]⟩)
  by_cases hk7_5 : w = 5
  · skip
    refine tz_tableIn (tgt := 105) (g_at ck_X10_count 4 rfl) ⟨hw.1, hw.2⟩ (by omega) (by omega) (by rw [hk7_5]; rfl) rfl ?_
    refine tz_aload0 (n := 106) (g_at ck_X10_count 24 rfl) rfl (g_ne kd_1) ?_
    refine tz_getOv (n := 109) (a := ld) fk_X10_20 kd_1 hLn (g_at ck_X10_count 25 rfl) rfl ?_
    refine tz_aload0 (n := 110) (g_at ck_X10_count 26 rfl) rfl (g_ne kd_1) ?_
    refine tz_getOv (n := 113) (a := 39) fk_X10_39 kd_1 (ly_1_6 hL) (g_at ck_X10_count 27 rfl) rfl ?_
    refine tz_cvI1 (n := 116) (μ' := μX6_atHome) (cb' := 0) (sb' := 0) ml_X10_155 mo_X6_atHome mv_X6_atHome np_X6_atHome hS.k0 (g_at ck_X10_count 28 rfl) (sp_atHome hS (isM_39 hL) hR1 (by rw [hG.n1]; omega)) rfl rfl rfl ⟨by decide, by decide⟩ (Nat.le_of_ble_eq_true rfl) (by decide) (by decide) (fun x113 ρ9 m113 hq => ?_)
    obtain ⟨rfl, hR4, rfl, rfl⟩ := hq
    rw [homB_now hW hG hN]
    exact tz_iret (g_at ck_X10_count 29 rfl) rfl (rI_mk ⟨qR.rf, hR4, qM.rf, hz3, by simp (disch := omega) only [if_pos, if_neg]⟩)
  by_cases hk7_6 : w = 6
  · skip
    refine tz_tableIn (tgt := 117) (g_at ck_X10_count 4 rfl) ⟨hw.1, hw.2⟩ (by omega) (by omega) (by rw [hk7_6]; rfl) rfl ?_
    refine tz_aload0 (n := 118) (g_at ck_X10_count 30 rfl) rfl (g_ne kd_1) ?_
    refine tz_cvR0 (n := 121) (μ' := μX10_surveyed) (cb' := 0) (sb' := 0) ml_X10_159 mo_X10_surveyed mv_X10_surveyed np_X10_surveyed kd_1 (g_at ck_X10_count 31 rfl) (sp_surveyed hL hLn hS hR1 hW hG hN) rfl rfl rfl ⟨by decide, by decide⟩ (Nat.le_of_ble_eq_true rfl) (by decide) (by decide) (fun x118 ρ9 m118 hq => ?_)
    obtain ⟨rfl, rfl, hR5, hV118, hF118⟩ := hq
    have hQ118 := qM_wy (ld := ld) hF118
    have hG118 := hG.q hQ118
    have hqr118 := qR_71 (ρ := ρ) (x := ld)
    have hL := hL.q hqr118
    have hLw : wr ρ 71 0 ld 71 0 = ld := wr_same
    have hLn := hqr118.ln hLn
    have hS := isS_q hL qR.rf hld
    have hN118 := hN.q hld hQ118
    refine tz_cvI0 (n := 124) (μ' := μX9_parts) (cb' := 0) (sb' := 0) ml_X10_163 mo_X9_parts mv_X9_parts np_X9_parts kd_71 (g_at ck_X10_count 32 rfl) (sp_parts hL hLw hS hR5 hW hG118 hV118) rfl rfl rfl ⟨by decide, by decide⟩ (Nat.le_of_ble_eq_true rfl) (by decide) (by decide) (fun x121 ρ9 m121 hq => ?_)
    obtain ⟨rfl, hR6, rfl, rfl⟩ := hq
    exact tz_iret (g_at ck_X10_count 33 rfl) rfl (rI_mk ⟨hqr118, hR6, hQ118, hz3, by simp (disch := omega) only [if_pos, if_neg]⟩)
  by_cases hk7_7 : w = 7
  · skip
    refine tz_tableIn (tgt := 125) (g_at ck_X10_count 4 rfl) ⟨hw.1, hw.2⟩ (by omega) (by omega) (by rw [hk7_7]; rfl) rfl ?_
    refine tz_aload0 (n := 126) (g_at ck_X10_count 34 rfl) rfl (g_ne kd_1) ?_
    refine tz_cvR0 (n := 129) (μ' := μX10_surveyed) (cb' := 0) (sb' := 0) ml_X10_159 mo_X10_surveyed mv_X10_surveyed np_X10_surveyed kd_1 (g_at ck_X10_count 35 rfl) (sp_surveyed hL hLn hS hR1 hW hG hN) rfl rfl rfl ⟨by decide, by decide⟩ (Nat.le_of_ble_eq_true rfl) (by decide) (by decide) (fun x126 ρ9 m126 hq => ?_)
    obtain ⟨rfl, rfl, hR7, hV126, hF126⟩ := hq
    have hQ126 := qM_wy (ld := ld) hF126
    have hG126 := hG.q hQ126
    have hqr126 := qR_71 (ρ := ρ) (x := ld)
    have hL := hL.q hqr126
    have hLw : wr ρ 71 0 ld 71 0 = ld := wr_same
    have hLn := hqr126.ln hLn
    have hS := isS_q hL qR.rf hld
    have hN126 := hN.q hld hQ126
    refine tz_cvI0 (n := 132) (μ' := μX9_watch) (cb' := 0) (sb' := 0) ml_X10_166 mo_X9_watch mv_X9_watch np_X9_watch kd_71 (g_at ck_X10_count 36 rfl) (sp_watch hL hLw hS hR7 hW hG126 hV126) rfl rfl rfl ⟨by decide, by decide⟩ (Nat.le_of_ble_eq_true rfl) (by decide) (by decide) (fun x129 ρ9 m129 hq => ?_)
    obtain ⟨rfl, hR8, rfl, rfl⟩ := hq
    exact tz_iret (g_at ck_X10_count 37 rfl) rfl (rI_mk ⟨hqr126, hR8, hQ126, hz3, by simp (disch := omega) only [if_pos, if_neg]⟩)
  by_cases hk7_8 : w = 8
  · skip
    refine tz_tableIn (tgt := 133) (g_at ck_X10_count 4 rfl) ⟨hw.1, hw.2⟩ (by omega) (by omega) (by rw [hk7_8]; rfl) rfl ?_
    refine tz_aload0 (n := 134) (g_at ck_X10_count 38 rfl) rfl (g_ne kd_1) ?_
    refine tz_getOv (n := 137) (a := ld) fk_X10_20 kd_1 hLn (g_at ck_X10_count 39 rfl) rfl ?_
    refine tz_aload0 (n := 138) (g_at ck_X10_count 40 rfl) rfl (g_ne kd_1) ?_
    refine tz_getOv (n := 141) (a := 39) fk_X10_39 kd_1 (ly_1_6 hL) (g_at ck_X10_count 41 rfl) rfl ?_
    refine tz_cvI1 (n := 144) (μ' := μX6_purses) (cb' := 0) (sb' := 0) ml_X10_169 mo_X6_purses mv_X6_purses np_X6_purses hS.k0 (g_at ck_X10_count 42 rfl) (sp_purses hS (isM_39 hL) hR1 (by rw [hG.n1]; omega)) rfl rfl rfl ⟨by decide, by decide⟩ (Nat.le_of_ble_eq_true rfl) (by decide) (by decide) (fun x141 ρ9 m141 hq => ?_)
    obtain ⟨rfl, hR9, rfl, rfl⟩ := hq
    rw [hG.n1, pur_now hN _ (by omega)]
    exact tz_iret (g_at ck_X10_count 43 rfl) rfl (rI_mk ⟨qR.rf, hR9, qM.rf, hz3, by simp (disch := omega) only [if_pos, if_neg]⟩)
  by_cases hk7_9 : w = 9
  · skip
    refine tz_tableIn (tgt := 145) (g_at ck_X10_count 4 rfl) ⟨hw.1, hw.2⟩ (by omega) (by omega) (by rw [hk7_9]; rfl) rfl ?_
    refine tz_aload0 (n := 146) (g_at ck_X10_count 44 rfl) rfl (g_ne kd_1) ?_
    refine tz_getOv (n := 149) (a := 44) fk_X10_46 kd_1 (ly_1_7 hL) (g_at ck_X10_count 45 rfl) rfl ?_
    refine tz_getIw (n := 152) (kz := 2) fk_X10_172 (isA_44 hL).k0 (g_at ck_X10_count 46 rfl) rfl rfl ?_
    exact tz_iret (g_at ck_X10_count 47 rfl) rfl (rI_mk ⟨qR.rf, hR1, qM.rf, hz3, by simp (disch := omega) only [if_pos, if_neg]⟩)
  by_cases hk7_10 : w = 10
  · skip
    refine tz_tableIn (tgt := 153) (g_at ck_X10_count 4 rfl) ⟨hw.1, hw.2⟩ (by omega) (by omega) (by rw [hk7_10]; rfl) rfl ?_
    refine tz_aload0 (n := 154) (g_at ck_X10_count 48 rfl) rfl (g_ne kd_1) ?_
    refine tz_getOv (n := 157) (a := 46) fk_X10_53 kd_1 (ly_1_8 hL) (g_at ck_X10_count 49 rfl) rfl ?_
    refine tz_getIw (n := 160) (kz := 3) fk_X10_175 (isE_46 hL).k0 (g_at ck_X10_count 50 rfl) rfl rfl ?_
    exact tz_iret (g_at ck_X10_count 51 rfl) rfl (rI_mk ⟨qR.rf, hR1, qM.rf, hz3, by simp (disch := omega) only [if_pos, if_neg]⟩)
  by_cases hk7_11 : w = 11
  · skip
    refine tz_tableIn (tgt := 161) (g_at ck_X10_count 4 rfl) ⟨hw.1, hw.2⟩ (by omega) (by omega) (by rw [hk7_11]; rfl) rfl ?_
    refine tz_aload0 (n := 162) (g_at ck_X10_count 52 rfl) rfl (g_ne kd_1) ?_
    refine tz_getIw (n := 165) (kz := 1) fk_X10_101 kd_1 (g_at ck_X10_count 53 rfl) rfl rfl ?_
    exact tz_iret (g_at ck_X10_count 54 rfl) rfl (rI_mk ⟨qR.rf, hR1, qM.rf, hz3, by simp (disch := omega) only [if_pos, if_neg]⟩)
  refine tz_tableOut (tgt := 166) (g_at ck_X10_count 4 rfl) ⟨hw.1, hw.2⟩ (by omega) rfl ?_
  refine tz_aload0 (n := 167) (g_at ck_X10_count 55 rfl) rfl (g_ne kd_1) ?_
  refine tz_getAv (n := 170) (a := 61) fk_X10_66 kd_1 (ly_1_13 hL) (g_at ck_X10_count 56 rfl) rfl ?_
  refine tz_iload1 (n := 171) (g_at ck_X10_count 57 rfl) rfl ?_
  refine tz_bipush (n := 173) (g_at ck_X10_count 58 rfl) rfl rfl ?_
  refine tz_isub (n := 174) (g_at ck_X10_count 59 rfl) rfl ?_
  refine tz_iald (n := 175) kd_61 (by omega) (g_at ck_X10_count 60 rfl) rfl ?_
  exact tz_iret (g_at ck_X10_count 61 rfl) rfl (rI_mk ⟨qR.rf, hR1, qM.rf, hz3, by simp (disch := omega) only [if_pos, if_neg]⟩)
theorem sp_crossing {l : Launch} {γ : Gh} {ρ m : Mm} {c w : Int} (hc : -2147483648 ≤ c ∧ c < 2147483648) (hw : -2147483648 ≤ w ∧ w < 2147483648) {ld : Int} {Λ : Mm} {hl tl : List Int} (hL : LY ρ) (hLn : ρ 1 3 = ld) (hS : isS ρ ld) (hR : MR m) (hW : WL Λ) (hG : LandC m ld Λ hl tl) {s : Int → Int} (hN : MomC m 39 s) (hσ : WS Λ 0 (sig0 s)) : gE l γ μX10_crossing 7 2 12 (rI KK fun x ρ9 m9 => qR ρ ρ9 ∧ MR m9 ∧ qM ld m m9 ∧ sq (cdC Λ c) (cdW w 6) = 0 ∧ (if w = 0 then Λ 1 c else if w = 1 then Λ 2 c else if w = 2 then Λ 3 c else if w = 3 then s (17 + c) else if w = 4 then stdB Λ (sig0 s) c else if w = 5 then ptP Λ s c (Λ 0 0).toNat else rcP Λ s c) = x) (xC ρ m (sq (cdC Λ c) (cdW w 6))) KK ρ m [vR 1, vI c, vI w] := by
  refine gE.ofw cl_X10.2 ?_ rfl rfl (Nat.le_of_ble_eq_true rfl)
  show gT l γ μX10_crossing 7 2 12 _ _ KK ρ m 0 [some (vR 1), some (vI c), some (vI w)] []
  have hn1 := hW.1
  have hn8 := hW.2.1
  have hld := hG.ld9
  refine tz_aload0 (n := 1) (g_at ck_X10_crossing 0 rfl) rfl (g_ne kd_1) ?_
  refine tz_iload1 (n := 2) (g_at ck_X10_crossing 1 rfl) rfl ?_
  refine tz_cvxV1 (n := 5) (μ' := μX10_needCrossing) (cb' := 1) (sb' := 6) ml_X10_185 mo_X10_needCrossing mv_X10_needCrossing np_X10_needCrossing kd_1 (g_at ck_X10_crossing 2 rfl) (sp_needC ⟨hc.1, hc.2⟩ hL hLn hS hR hW hG) rfl rfl rfl ⟨by decide, by decide⟩ (Nat.le_of_ble_eq_true rfl) (by decide) (by decide) (g_in (g_m5 (List.mem_of_getElem? (i := 41) rfl)) rfl) (fun E9 ρ9 m9 h9 => g_gX_out rfl h9.1 h9.2.1 (sq_1 h9.2.2)) (fun ρ9 m2 hq => ?_)
  obtain ⟨rfl, hR1, rfl, hz2⟩ := hq
  have hc2 := cdC_0 hz2
  refine tz_iload2 (n := 6) (g_at ck_X10_crossing 3 rfl) rfl ?_
  refine tz_bipush (n := 8) (g_at ck_X10_crossing 4 rfl) rfl rfl ?_
  refine tz_csxV2 (n := 11) (μ' := μX10_needWhat) (cb' := 0) (sb' := 0) ml_X10_135 mo_X10_needWhat ms_X10_needWhat np_X10_needWhat (g_at ck_X10_crossing 5 rfl) (sp_needW ⟨hw.1, hw.2⟩ ⟨(by decide), (by decide)⟩ hR1) rfl rfl ⟨by decide, by decide⟩ (Nat.le_of_ble_eq_true rfl) (by decide) (by decide) (g_in (g_m4 (List.mem_of_getElem? (i := 228) rfl)) rfl) (fun E9 ρ9 m9 h9 => g_gX_out rfl h9.1 h9.2.1 (sq_2 hz2 h9.2.2)) (fun ρ9 m8 hq => ?_)
  obtain ⟨rfl, hR2, rfl, hz8⟩ := hq
  have hw2 := cdW_0 hz8
  refine tz_iload2 (n := 12) (g_at ck_X10_crossing 6 rfl) rfl ?_
  by_cases hk12_0 : w = 0
  · skip
    refine tz_tableIn (tgt := 52) (g_at ck_X10_crossing 7 rfl) ⟨hw.1, hw.2⟩ (by omega) (by omega) (by rw [hk12_0]; rfl) rfl ?_
    refine tz_aload0 (n := 53) (g_at ck_X10_crossing 8 rfl) rfl (g_ne kd_1) ?_
    refine tz_getOv (n := 56) (a := ld) fk_X10_20 kd_1 hLn (g_at ck_X10_crossing 9 rfl) rfl ?_
    refine tz_getAv (n := 59) (a := (ld + 1)) fk_X10_188 hS.k0 hS.r0_2 (g_at ck_X10_crossing 10 rfl) rfl ?_
    refine tz_iload1 (n := 60) (g_at ck_X10_crossing 11 rfl) rfl ?_
    refine tz_iald (n := 61) hS.k1 (by omega) (g_at ck_X10_crossing 12 rfl) rfl ?_
    rw [hG.toll c hc2]
    exact tz_iret (g_at ck_X10_crossing 13 rfl) rfl (rI_mk ⟨qR.rf, hR2, qM.rf, sq_0 hz2 hz8, by simp (disch := omega) only [if_pos, if_neg]⟩)
  by_cases hk12_1 : w = 1
  · skip
    refine tz_tableIn (tgt := 62) (g_at ck_X10_crossing 7 rfl) ⟨hw.1, hw.2⟩ (by omega) (by omega) (by rw [hk12_1]; rfl) rfl ?_
    refine tz_aload0 (n := 63) (g_at ck_X10_crossing 14 rfl) rfl (g_ne kd_1) ?_
    refine tz_getOv (n := 66) (a := ld) fk_X10_20 kd_1 hLn (g_at ck_X10_crossing 15 rfl) rfl ?_
    refine tz_getAv (n := 69) (a := (ld + 2)) fk_X10_191 hS.k0 hS.r0_3 (g_at ck_X10_crossing 16 rfl) rfl ?_
    refine tz_iload1 (n := 70) (g_at ck_X10_crossing 17 rfl) rfl ?_
    refine tz_iald (n := 71) hS.k2 (by omega) (g_at ck_X10_crossing 18 rfl) rfl ?_
    rw [hG.bed c hc2]
    exact tz_iret (g_at ck_X10_crossing 19 rfl) rfl (rI_mk ⟨qR.rf, hR2, qM.rf, sq_0 hz2 hz8, by simp (disch := omega) only [if_pos, if_neg]⟩)
  by_cases hk12_2 : w = 2
  · skip
    refine tz_tableIn (tgt := 72) (g_at ck_X10_crossing 7 rfl) ⟨hw.1, hw.2⟩ (by omega) (by omega) (by rw [hk12_2]; rfl) rfl ?_
    refine tz_aload0 (n := 73) (g_at ck_X10_crossing 20 rfl) rfl (g_ne kd_1) ?_
    refine tz_getOv (n := 76) (a := ld) fk_X10_20 kd_1 hLn (g_at ck_X10_crossing 21 rfl) rfl ?_
    refine tz_getAv (n := 79) (a := (ld + 3)) fk_X10_194 hS.k0 hS.r0_4 (g_at ck_X10_crossing 22 rfl) rfl ?_
    refine tz_iload1 (n := 80) (g_at ck_X10_crossing 23 rfl) rfl ?_
    refine tz_iald (n := 81) hS.k3 (by omega) (g_at ck_X10_crossing 24 rfl) rfl ?_
    rw [hG.roads c hc2]
    exact tz_iret (g_at ck_X10_crossing 25 rfl) rfl (rI_mk ⟨qR.rf, hR2, qM.rf, sq_0 hz2 hz8, by simp (disch := omega) only [if_pos, if_neg]⟩)
  by_cases hk12_3 : w = 3
  · skip
    refine tz_tableIn (tgt := 82) (g_at ck_X10_crossing 7 rfl) ⟨hw.1, hw.2⟩ (by omega) (by omega) (by rw [hk12_3]; rfl) rfl ?_
    refine tz_aload0 (n := 83) (g_at ck_X10_crossing 26 rfl) rfl (g_ne kd_1) ?_
    refine tz_getOv (n := 86) (a := 39) fk_X10_39 kd_1 (ly_1_6 hL) (g_at ck_X10_crossing 27 rfl) rfl ?_
    refine tz_getAv (n := 89) (a := 42) fk_X10_197 (isM_39 hL).k0 (isM_39 hL).r0_3 (g_at ck_X10_crossing 28 rfl) rfl ?_
    refine tz_iload1 (n := 90) (g_at ck_X10_crossing 29 rfl) rfl ?_
    refine tz_iald (n := 91) (isM_39 hL).k3 (by omega) (g_at ck_X10_crossing 30 rfl) rfl ?_
    rw [nowA hN c (by omega)]
    exact tz_iret (g_at ck_X10_crossing 31 rfl) rfl (rI_mk ⟨qR.rf, hR2, qM.rf, sq_0 hz2 hz8, by simp (disch := omega) only [if_pos, if_neg]⟩)
  by_cases hk12_4 : w = 4
  · skip
    refine tz_tableIn (tgt := 92) (g_at ck_X10_crossing 7 rfl) ⟨hw.1, hw.2⟩ (by omega) (by omega) (by rw [hk12_4]; rfl) rfl ?_
    refine tz_aload0 (n := 93) (g_at ck_X10_crossing 32 rfl) rfl (g_ne kd_1) ?_
    refine tz_getOv (n := 96) (a := ld) fk_X10_20 kd_1 hLn (g_at ck_X10_crossing 33 rfl) rfl ?_
    refine tz_aload0 (n := 97) (g_at ck_X10_crossing 34 rfl) rfl (g_ne kd_1) ?_
    refine tz_getOv (n := 100) (a := 39) fk_X10_39 kd_1 (ly_1_6 hL) (g_at ck_X10_crossing 35 rfl) rfl ?_
    refine tz_iload1 (n := 101) (g_at ck_X10_crossing 36 rfl) rfl ?_
    refine tz_cvI2 (n := 104) (μ' := μX6_peopleAt) (cb' := 0) (sb' := 0) ml_X10_200 mo_X6_peopleAt mv_X6_peopleAt np_X6_peopleAt hS.k0 (g_at ck_X10_crossing 37 rfl) (sp_peopleAt hS (isM_39 hL) hR2 (by rw [hG.n1]; omega) (by omega)) rfl rfl rfl ⟨by decide, by decide⟩ (Nat.le_of_ble_eq_true rfl) (by decide) (by decide) (fun x101 ρ9 m101 hq => ?_)
    obtain ⟨rfl, hR3, rfl, rfl⟩ := hq
    rw [hG.n1, std_now hW hN]
    exact tz_iret (g_at ck_X10_crossing 38 rfl) rfl (rI_mk ⟨qR.rf, hR3, qM.rf, sq_0 hz2 hz8, by simp (disch := omega) only [if_pos, if_neg]⟩)
  by_cases hk12_5 : w = 5
  · skip
    refine tz_tableIn (tgt := 105) (g_at ck_X10_crossing 7 rfl) ⟨hw.1, hw.2⟩ (by omega) (by omega) (by rw [hk12_5]; rfl) rfl ?_
    refine tz_aload0 (n := 106) (g_at ck_X10_crossing 39 rfl) rfl (g_ne kd_1) ?_
    refine tz_cvR0 (n := 109) (μ' := μX10_surveyed) (cb' := 0) (sb' := 0) ml_X10_159 mo_X10_surveyed mv_X10_surveyed np_X10_surveyed kd_1 (g_at ck_X10_crossing 40 rfl) (sp_surveyed hL hLn hS hR2 hW hG hN) rfl rfl rfl ⟨by decide, by decide⟩ (Nat.le_of_ble_eq_true rfl) (by decide) (by decide) (fun x106 ρ9 m106 hq => ?_)
    obtain ⟨rfl, rfl, hR4, hV106, hF106⟩ := hq
    have hQ106 := qM_wy (ld := ld) hF106
    have hG106 := hG.q hQ106
    have hqr106 := qR_71 (ρ := ρ) (x := ld)
    have hL := hL.q hqr106
    have hLw : wr ρ 71 0 ld 71 0 = ld := wr_same
    have hLn := hqr106.ln hLn
    have hS := isS_q hL qR.rf hld
    have hN106 := hN.q hld hQ106
    refine tz_iload1 (n := 110) (g_at ck_X10_crossing 41 rfl) rfl ?_
    refine tz_cvI1 (n := 113) (μ' := μX9_partOf) (cb' := 0) (sb' := 0) ml_X10_204 mo_X9_partOf mv_X9_partOf np_X9_partOf kd_71 (g_at ck_X10_crossing 42 rfl) (sp_partOf hL hLw hS hR4 hW hG106 hV106 (by omega)) rfl rfl rfl ⟨by decide, by decide⟩ (Nat.le_of_ble_eq_true rfl) (by decide) (by decide) (fun x110 ρ9 m110 hq => ?_)
    obtain ⟨rfl, hR5, rfl, rfl⟩ := hq
    exact tz_iret (g_at ck_X10_crossing 43 rfl) rfl (rI_mk ⟨hqr106, hR5, hQ106, sq_0 hz2 hz8, by simp (disch := omega) only [if_pos, if_neg]⟩)
  refine tz_tableOut (tgt := 114) (g_at ck_X10_crossing 7 rfl) ⟨hw.1, hw.2⟩ (by omega) rfl ?_
  refine tz_aload0 (n := 115) (g_at ck_X10_crossing 44 rfl) rfl (g_ne kd_1) ?_
  refine tz_cvR0 (n := 118) (μ' := μX10_surveyed) (cb' := 0) (sb' := 0) ml_X10_159 mo_X10_surveyed mv_X10_surveyed np_X10_surveyed kd_1 (g_at ck_X10_crossing 45 rfl) (sp_surveyed hL hLn hS hR2 hW hG hN) rfl rfl rfl ⟨by decide, by decide⟩ (Nat.le_of_ble_eq_true rfl) (by decide) (by decide) (fun x115 ρ9 m115 hq => ?_)
  obtain ⟨rfl, rfl, hR6, hV115, hF115⟩ := hq
  have hQ115 := qM_wy (ld := ld) hF115
  have hG115 := hG.q hQ115
  have hqr115 := qR_71 (ρ := ρ) (x := ld)
  have hL := hL.q hqr115
  have hLw : wr ρ 71 0 ld 71 0 = ld := wr_same
  have hLn := hqr115.ln hLn
  have hS := isS_q hL qR.rf hld
  have hN115 := hN.q hld hQ115
  refine tz_getAv (n := 121) (a := 75) fk_X10_207 kd_71 (ly_71_4 hL) (g_at ck_X10_crossing 46 rfl) rfl ?_
  refine tz_iload1 (n := 122) (g_at ck_X10_crossing 47 rfl) rfl ?_
  refine tz_iald (n := 123) kd_75 (by omega) (g_at ck_X10_crossing 48 rfl) rfl ?_
  rw [hV115.r c hc2]
  exact tz_iret (g_at ck_X10_crossing 49 rfl) rfl (rI_mk ⟨hqr115, hR6, hQ115, sq_0 hz2 hz8, by simp (disch := omega) only [if_pos, if_neg]⟩)
theorem sp_road {l : Launch} {γ : Gh} {ρ m : Mm} {c r w : Int} (hc : -2147483648 ≤ c ∧ c < 2147483648) (hr : -2147483648 ≤ r ∧ r < 2147483648) (hw : -2147483648 ≤ w ∧ w < 2147483648) {ld : Int} {Λ : Mm} {hl tl : List Int} (hL : LY ρ) (hLn : ρ 1 3 = ld) (hS : isS ρ ld) (hR : MR m) (hW : WL Λ) (hG : LandC m ld Λ hl tl) {s : Int → Int} (hN : MomC m 39 s) (hσ : WS Λ 0 (sig0 s)) : gE l γ μX10_road 8 3 18 (rI KK fun x ρ9 m9 => qR ρ ρ9 ∧ MR m9 ∧ qM ld m m9 ∧ sq (cdR Λ c r) (cdW w 1) = 0 ∧ (if w = 0 then Λ 4 (c * 5 + r) else shutB (s (26 + c)) r) = x) (xC ρ m (sq (cdR Λ c r) (cdW w 1))) KK ρ m [vR 1, vI c, vI r, vI w] := by
  refine gE.ofw cl_X10.2 ?_ rfl rfl (Nat.le_of_ble_eq_true rfl)
  show gT l γ μX10_road 8 3 18 _ _ KK ρ m 0 [some (vR 1), some (vI c), some (vI r), some (vI w)] []
  have hn1 := hW.1
  have hn8 := hW.2.1
  have hld := hG.ld9
  refine tz_aload0 (n := 1) (g_at ck_X10_road 0 rfl) rfl (g_ne kd_1) ?_
  refine tz_iload1 (n := 2) (g_at ck_X10_road 1 rfl) rfl ?_
  refine tz_iload2 (n := 3) (g_at ck_X10_road 2 rfl) rfl ?_
  refine tz_cvxV2 (n := 6) (μ' := μX10_needRoad) (cb' := 1) (sb' := 6) ml_X10_210 mo_X10_needRoad mv_X10_needRoad np_X10_needRoad kd_1 (g_at ck_X10_road 3 rfl) (sp_needR ⟨hc.1, hc.2⟩ ⟨hr.1, hr.2⟩ hL hLn hS hR hW hG) rfl rfl rfl ⟨by decide, by decide⟩ (Nat.le_of_ble_eq_true rfl) (by decide) (by decide) (g_in (g_m5 (List.mem_of_getElem? (i := 54) rfl)) rfl) (fun E9 ρ9 m9 h9 => g_gX_out rfl h9.1 h9.2.1 (sq_1 h9.2.2)) (fun ρ9 m3 hq => ?_)
  obtain ⟨rfl, hR1, rfl, hz3⟩ := hq
  have hc2 := cdR_0 hz3
  have hc3 := hW.2.2.1 c hc2.1 hc2.2.1
  refine tz_iload3 (n := 7) (g_at ck_X10_road 4 rfl) rfl ?_
  refine tz_iconst (n := 8) (g_at ck_X10_road 5 rfl) rfl ?_
  refine tz_csxV2 (n := 11) (μ' := μX10_needWhat) (cb' := 0) (sb' := 0) ml_X10_135 mo_X10_needWhat ms_X10_needWhat np_X10_needWhat (g_at ck_X10_road 6 rfl) (sp_needW ⟨hw.1, hw.2⟩ ⟨(by decide), (by decide)⟩ hR1) rfl rfl ⟨by decide, by decide⟩ (Nat.le_of_ble_eq_true rfl) (by decide) (by decide) (g_in (g_m4 (List.mem_of_getElem? (i := 228) rfl)) rfl) (fun E9 ρ9 m9 h9 => g_gX_out rfl h9.1 h9.2.1 (sq_2 hz3 h9.2.2)) (fun ρ9 m8 hq => ?_)
  obtain ⟨rfl, hR2, rfl, hz8⟩ := hq
  have hw2 := cdW_0 hz8
  refine tz_iload3 (n := 12) (g_at ck_X10_road 7 rfl) rfl ?_
  refine tz_if_ne (n := 15) (tgt := 25) (g_at ck_X10_road 8 rfl) rfl rfl ⟨hw.1, hw.2⟩ (fun h12 => ?_) (fun h12 => ?_)
  · skip
    refine tz_aload0 (n := 26) (g_at ck_X10_road 15 rfl) rfl (g_ne kd_1) ?_
    refine tz_getOv (n := 29) (a := 39) fk_X10_39 kd_1 (ly_1_6 hL) (g_at ck_X10_road 16 rfl) rfl ?_
    refine tz_iload1 (n := 30) (g_at ck_X10_road 17 rfl) rfl ?_
    refine tz_iload2 (n := 31) (g_at ck_X10_road 18 rfl) rfl ?_
    refine tz_cvI2 (n := 34) (μ' := μX2_isShut) (cb' := 0) (sb' := 0) ml_X10_217 mo_X2_isShut mv_X2_isShut np_X2_isShut (isM_39 hL).k0 (g_at ck_X10_road 19 rfl) (sp_isShut (isM_39 hL) hR2 (by omega)) rfl rfl rfl ⟨by decide, by decide⟩ (Nat.le_of_ble_eq_true rfl) (by decide) (by decide) (fun x31 ρ9 m31 hq => ?_)
    obtain ⟨rfl, hR3, rfl, rfl⟩ := hq
    rw [show m (39 + 4) c = s (26 + c) from nowS hN c (by omega)]
    have h01 := shutB_01 (s (26 + c)) r
    refine tz_if_eq (n := 37) (tgt := 41) (g_at ck_X10_road 20 rfl) rfl rfl (by omega) (fun h34 => ?_) (fun h34 => ?_)
    · skip
      refine tz_iconst (n := 42) (g_at ck_X10_road 23 rfl) rfl ?_
      exact tz_iret (g_at ck_X10_road 24 rfl) rfl (rI_mk ⟨qR.rf, hR3, qM.rf, sq_0 hz3 hz8, by rw [if_neg h12]; omega⟩)
    · skip
      refine tz_iconst (n := 38) (g_at ck_X10_road 21 rfl) rfl ?_
      refine tz_goto (tgt := 42) (g_at ck_X10_road 22 rfl) rfl ?_
      exact tz_iret (g_at ck_X10_road 24 rfl) rfl (rI_mk ⟨qR.rf, hR3, qM.rf, sq_0 hz3 hz8, by rw [if_neg h12]; omega⟩)
  · skip
    refine tz_aload0 (n := 16) (g_at ck_X10_road 9 rfl) rfl (g_ne kd_1) ?_
    refine tz_getOv (n := 19) (a := ld) fk_X10_20 kd_1 hLn (g_at ck_X10_road 10 rfl) rfl ?_
    refine tz_iload1 (n := 20) (g_at ck_X10_road 11 rfl) rfl ?_
    refine tz_iload2 (n := 21) (g_at ck_X10_road 12 rfl) rfl ?_
    refine tz_cvI2 (n := 24) (μ' := μX6_leads) (cb' := 0) (sb' := 0) ml_X10_213 mo_X6_leads mv_X6_leads np_X6_leads hS.k0 (g_at ck_X10_road 13 rfl) (sp_leads hS hR2 (by omega)) rfl rfl rfl ⟨by decide, by decide⟩ (Nat.le_of_ble_eq_true rfl) (by decide) (by decide) (fun x21 ρ9 m21 hq => ?_)
    obtain ⟨rfl, hR4, rfl, rfl⟩ := hq
    rw [hG.ends c r (by omega) (by omega)]
    exact tz_iret (g_at ck_X10_road 14 rfl) rfl (rI_mk ⟨qR.rf, hR4, qM.rf, sq_0 hz3 hz8, if_pos h12⟩)
theorem sp_person {l : Launch} {γ : Gh} {ρ m : Mm} {p w : Int} (hp : -2147483648 ≤ p ∧ p < 2147483648) (hw : -2147483648 ≤ w ∧ w < 2147483648) {ld : Int} {Λ : Mm} {hl tl : List Int} (hL : LY ρ) (hLn : ρ 1 3 = ld) (hS : isS ρ ld) (hR : MR m) (hW : WL Λ) (hG : LandC m ld Λ hl tl) {s : Int → Int} (hN : MomC m 39 s) (hσ : WS Λ 0 (sig0 s)) : gE l γ μX10_person 7 2 12 (rI KK fun x ρ9 m9 => qR ρ ρ9 ∧ MR m9 ∧ qM ld m m9 ∧ sq (cdP Λ p) (cdW w 4) = 0 ∧ (w ≠ 3 → (if w = 0 then s (1 + p) else if w = 1 then Λ 5 p else if w = 2 then s (9 + p) else bcJ (stdB Λ (sig0 s) (s (1 + p))) - 1) = x) ∧ (w = 3 → ∃ T : Int → Int, LodgeOK Λ s T ∧ bdP Λ s T p = x)) (xC ρ m (sq (cdP Λ p) (cdW w 4))) KK ρ m [vR 1, vI p, vI w] := by
  refine gE.ofw cl_X10.2 ?_ rfl rfl (Nat.le_of_ble_eq_true rfl)
  show gT l γ μX10_person 7 2 12 _ _ KK ρ m 0 [some (vR 1), some (vI p), some (vI w)] []
  have hn1 := hW.1
  have hn8 := hW.2.1
  have hld := hG.ld9
  refine tz_aload0 (n := 1) (g_at ck_X10_person 0 rfl) rfl (g_ne kd_1) ?_
  refine tz_iload1 (n := 2) (g_at ck_X10_person 1 rfl) rfl ?_
  refine tz_cvxV1 (n := 5) (μ' := μX10_needPerson) (cb' := 1) (sb' := 6) ml_X10_221 mo_X10_needPerson mv_X10_needPerson np_X10_needPerson kd_1 (g_at ck_X10_person 2 rfl) (sp_needP ⟨hp.1, hp.2⟩ hL hLn hS hR hW hG) rfl rfl rfl ⟨by decide, by decide⟩ (Nat.le_of_ble_eq_true rfl) (by decide) (by decide) (g_in (g_m5 (List.mem_of_getElem? (i := 68) rfl)) rfl) (fun E9 ρ9 m9 h9 => g_gX_out rfl h9.1 h9.2.1 (sq_1 h9.2.2)) (fun ρ9 m2 hq => ?_)
  obtain ⟨rfl, hR1, rfl, hz2⟩ := hq
  have hp2 := cdP_0 hz2
  refine tz_iload2 (n := 6) (g_at ck_X10_person 3 rfl) rfl ?_
  refine tz_iconst (n := 7) (g_at ck_X10_person 4 rfl) rfl ?_
  refine tz_csxV2 (n := 10) (μ' := μX10_needWhat) (cb' := 0) (sb' := 0) ml_X10_135 mo_X10_needWhat ms_X10_needWhat np_X10_needWhat (g_at ck_X10_person 5 rfl) (sp_needW ⟨hw.1, hw.2⟩ ⟨(by decide), (by decide)⟩ hR1) rfl rfl ⟨by decide, by decide⟩ (Nat.le_of_ble_eq_true rfl) (by decide) (by decide) (g_in (g_m4 (List.mem_of_getElem? (i := 228) rfl)) rfl) (fun E9 ρ9 m9 h9 => g_gX_out rfl h9.1 h9.2.1 (sq_2 hz2 h9.2.2)) (fun ρ9 m7 hq => ?_)
  obtain ⟨rfl, hR2, rfl, hz7⟩ := hq
  have hw2 := cdW_0 hz7
  refine tz_iload2 (n := 11) (g_at ck_X10_person 6 rfl) rfl ?_
  by_cases hk11_0 : w = 0
  · skip
    refine tz_tableIn (tgt := 40) (g_at ck_X10_person 7 rfl) ⟨hw.1, hw.2⟩ (by omega) (by omega) (by rw [hk11_0]; rfl) rfl ?_
    refine tz_aload0 (n := 41) (g_at ck_X10_person 8 rfl) rfl (g_ne kd_1) ?_
    refine tz_getOv (n := 44) (a := 39) fk_X10_39 kd_1 (ly_1_6 hL) (g_at ck_X10_person 9 rfl) rfl ?_
    refine tz_getAv (n := 47) (a := 40) fk_X10_224 (isM_39 hL).k0 (isM_39 hL).r0_1 (g_at ck_X10_person 10 rfl) rfl ?_
    refine tz_iload1 (n := 48) (g_at ck_X10_person 11 rfl) rfl ?_
    refine tz_iald (n := 49) (isM_39 hL).k1 (by omega) (g_at ck_X10_person 12 rfl) rfl ?_
    rw [nowW hN p (by omega)]
    exact tz_iret (g_at ck_X10_person 13 rfl) rfl (rI_mk ⟨qR.rf, hR2, qM.rf, sq_0 hz2 hz7, fun _ => by simp (disch := omega) only [if_pos, if_neg], fun h9 => absurd h9 (by omega)⟩)
  by_cases hk11_1 : w = 1
  · skip
    refine tz_tableIn (tgt := 50) (g_at ck_X10_person 7 rfl) ⟨hw.1, hw.2⟩ (by omega) (by omega) (by rw [hk11_1]; rfl) rfl ?_
    refine tz_aload0 (n := 51) (g_at ck_X10_person 14 rfl) rfl (g_ne kd_1) ?_
    refine tz_getOv (n := 54) (a := ld) fk_X10_20 kd_1 hLn (g_at ck_X10_person 15 rfl) rfl ?_
    refine tz_getAv (n := 57) (a := (ld + 5)) fk_X10_227 hS.k0 hS.r0_6 (g_at ck_X10_person 16 rfl) rfl ?_
    refine tz_iload1 (n := 58) (g_at ck_X10_person 17 rfl) rfl ?_
    refine tz_iald (n := 59) hS.k5 (by omega) (g_at ck_X10_person 18 rfl) rfl ?_
    rw [hG.home p hp2]
    exact tz_iret (g_at ck_X10_person 19 rfl) rfl (rI_mk ⟨qR.rf, hR2, qM.rf, sq_0 hz2 hz7, fun _ => by simp (disch := omega) only [if_pos, if_neg], fun h9 => absurd h9 (by omega)⟩)
  by_cases hk11_2 : w = 2
  · skip
    refine tz_tableIn (tgt := 60) (g_at ck_X10_person 7 rfl) ⟨hw.1, hw.2⟩ (by omega) (by omega) (by rw [hk11_2]; rfl) rfl ?_
    refine tz_aload0 (n := 61) (g_at ck_X10_person 20 rfl) rfl (g_ne kd_1) ?_
    refine tz_getOv (n := 64) (a := 39) fk_X10_39 kd_1 (ly_1_6 hL) (g_at ck_X10_person 21 rfl) rfl ?_
    refine tz_getAv (n := 67) (a := 41) fk_X10_230 (isM_39 hL).k0 (isM_39 hL).r0_2 (g_at ck_X10_person 22 rfl) rfl ?_
    refine tz_iload1 (n := 68) (g_at ck_X10_person 23 rfl) rfl ?_
    refine tz_iald (n := 69) (isM_39 hL).k2 (by omega) (g_at ck_X10_person 24 rfl) rfl ?_
    rw [nowP hN p (by omega)]
    exact tz_iret (g_at ck_X10_person 25 rfl) rfl (rI_mk ⟨qR.rf, hR2, qM.rf, sq_0 hz2 hz7, fun _ => by simp (disch := omega) only [if_pos, if_neg], fun h9 => absurd h9 (by omega)⟩)
  by_cases hk11_3 : w = 3
  · skip
    refine tz_tableIn (tgt := 70) (g_at ck_X10_person 7 rfl) ⟨hw.1, hw.2⟩ (by omega) (by omega) (by rw [hk11_3]; rfl) rfl ?_
    refine tz_aload0 (n := 71) (g_at ck_X10_person 26 rfl) rfl (g_ne kd_1) ?_
    refine tz_iload1 (n := 72) (g_at ck_X10_person 27 rfl) rfl ?_
    refine tz_cvI1 (n := 75) (μ' := μX10_bedOf) (cb' := 0) (sb' := 0) ml_X10_233 mo_X10_bedOf mv_X10_bedOf np_X10_bedOf kd_1 (g_at ck_X10_person 28 rfl) (sp_bedOf hL hLn hS hR2 hW hG hN hσ (by omega)) rfl rfl rfl ⟨by decide, by decide⟩ (Nat.le_of_ble_eq_true rfl) (by decide) (by decide) (fun x72 ρ9 m72 hq => ?_)
    obtain ⟨hq72, hR3, hm72, hT72⟩ := hq
    exact tz_iret (g_at ck_X10_person 29 rfl) rfl (rI_mk ⟨hq72, hR3, hm72, sq_0 hz2 hz7, fun h9 => absurd hk11_3 h9, fun _ => hT72⟩)
  refine tz_tableOut (tgt := 76) (g_at ck_X10_person 7 rfl) ⟨hw.1, hw.2⟩ (by omega) rfl ?_
  refine tz_aload0 (n := 77) (g_at ck_X10_person 30 rfl) rfl (g_ne kd_1) ?_
  refine tz_getOv (n := 80) (a := ld) fk_X10_20 kd_1 hLn (g_at ck_X10_person 31 rfl) rfl ?_
  refine tz_aload0 (n := 81) (g_at ck_X10_person 32 rfl) rfl (g_ne kd_1) ?_
  refine tz_getOv (n := 84) (a := 39) fk_X10_39 kd_1 (ly_1_6 hL) (g_at ck_X10_person 33 rfl) rfl ?_
  refine tz_iload1 (n := 85) (g_at ck_X10_person 34 rfl) rfl ?_
  refine tz_cvI2 (n := 88) (μ' := μX6_others) (cb' := 0) (sb' := 0) ml_X10_236 mo_X6_others mv_X6_others np_X6_others hS.k0 (g_at ck_X10_person 35 rfl) (sp_others hS (isM_39 hL) hR2 (by rw [hG.n1]; omega) (by omega)) rfl rfl rfl ⟨by decide, by decide⟩ (Nat.le_of_ble_eq_true rfl) (by decide) (by decide) (fun x85 ρ9 m85 hq => ?_)
  obtain ⟨rfl, hR4, rfl, rfl⟩ := hq
  rw [hG.n1, show m (39 + 1) p = s (1 + p) from nowW hN p (by omega), std_now hW hN]
  exact tz_iret (g_at ck_X10_person 36 rfl) rfl (rI_mk ⟨qR.rf, hR4, qM.rf, sq_0 hz2 hz7, fun _ => by simp (disch := omega) only [if_pos, if_neg], fun h9 => absurd h9 (by omega)⟩)
