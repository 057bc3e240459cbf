/-! The trip: days. -/
theorem sp_goDay {l : Launch} {γ : Gh} {ρ m : Mm} {w : Int} {ld b : Int} {Λ σ : Mm} {hl tl : List Int} (hL : LY ρ) (hLt : ρ 62 0 = ld) (hS : isS ρ ld) (hR : MR m) (hW : WL Λ) (hG : LandC m ld Λ hl tl) (hT : TripC m σ) (hσ : WS Λ b σ) (hb : 0 ≤ b ∧ b ≤ 90000) (hw : w = 0 ∨ w = 1) : gE l γ μX8_goDay 4 0 0 (rV KK fun ρ9 m9 => ρ = ρ9 ∧ MR m9 ∧ TripC m9 (dayP Λ hl tl w σ) ∧ Fr (trL ld) m m9) xN KK ρ m [vR 62, vI w] := by
  refine gE.ofw cl_X8.2 ?_ rfl rfl (Nat.le_of_ble_eq_true rfl)
  show gT l γ μX8_goDay 4 0 0 _ _ KK ρ m 0 [some (vR 62), some (vI w), none] []
  have hn := hW.1
  have hn8 := hW.2.1
  have hld := hG.ld9
  refine tz_iconst (n := 1) (g_at ck_X8_goDay 0 rfl) rfl ?_
  refine tz_istore2 (n := 2) (g_at ck_X8_goDay 1 rfl) rfl (by decide) g_hpI ?_
  refine g_for (fun i : Nat => ∀ m1 : Mm, (MR m1 ∧ TripC m1 (dayN Λ hl tl w σ i) ∧ Fr (trL ld) m m1) → gT l γ μX8_goDay 4 0 0 _ _ KK ρ m1 2 [some (vR 62), some (vI w), some (vI (i : Int))] []) (Λ 0 1).toNat ?_ (fun i hi ihi => ?_) 0 (Nat.zero_le _) _ ⟨hR, hT, Fr.rf⟩
  · intro m1 hinv
    obtain ⟨hRi, hTi, hFi⟩ := hinv
    have hGi := hG.fr hFi
    have hσi := dayN_WS (hl := hl) (tl := tl) (w := w) hW hσ hb.1 (Λ 0 1).toNat (Nat.le_refl _)
    have hd1 := hσi.1
    refine tz_iload2 (n := 3) (g_at ck_X8_goDay 2 rfl) rfl ?_
    refine tz_aload0 (n := 4) (g_at ck_X8_goDay 3 rfl) rfl (g_ne kd_62) ?_
    refine tz_getOv (n := 7) (a := ld) fk_X8_30 kd_62 hLt (g_at ck_X8_goDay 4 rfl) rfl ?_
    refine tz_getIw (n := 10) (kz := 1) fk_X8_48 hS.k0 (g_at ck_X8_goDay 5 rfl) rfl rfl ?_
    rw [hGi.n1]
    refine tz_icmp_ge (n := 13) (tgt := 53) (g_at ck_X8_goDay 6 rfl) rfl rfl ⟨by omega, by omega, by omega, by omega⟩ (fun h10 => ?_) (fun h10 => absurd h10 (by omega))
    refine tz_aload0 (n := 54) (g_at ck_X8_goDay 27 rfl) rfl (g_ne kd_62) ?_
    refine tz_getOv (n := 57) (a := 63) fk_X8_12 kd_62 (ly_62_1 hL) (g_at ck_X8_goDay 28 rfl) rfl ?_
    refine tz_dupR (n := 58) (g_at ck_X8_goDay 29 rfl) rfl ?_
    refine tz_getIw (n := 61) (kz := 0) fk_X8_68 (isM_63 hL).k0 (g_at ck_X8_goDay 30 rfl) rfl rfl ?_
    rw [hTi.day]
    refine tz_iconst (n := 62) (g_at ck_X8_goDay 31 rfl) rfl ?_
    refine tz_iadd (n := 63) (g_at ck_X8_goDay 32 rfl) rfl ?_
    refine tz_putIr (n := 66) (kz := 0) fk_X8_68 (isM_63 hL).k0 (g_at ck_X8_goDay 33 rfl) rfl hRi (by omega) rfl (fun hR1 => ?_)
    exact tz_vret (g_at ck_X8_goDay 34 rfl) rfl (rV_mk ⟨rfl, hR1, hTi.setD, hFi.wr trL_63⟩)
  · intro m1 hinv
    obtain ⟨hRi, hTi, hFi⟩ := hinv
    have hGi := hG.fr hFi
    have hσi := dayN_WS (hl := hl) (tl := tl) (w := w) hW hσ hb.1 i (by omega)
    have hp1 := hσi.2.1 (i : Int) (by omega) (by omega)
    have hr1 := hW.2.2.1 _ hp1.1 hp1.2.1
    refine tz_iload2 (n := 3) (g_at ck_X8_goDay 2 rfl) rfl ?_
    refine tz_aload0 (n := 4) (g_at ck_X8_goDay 3 rfl) rfl (g_ne kd_62) ?_
    refine tz_getOv (n := 7) (a := ld) fk_X8_30 kd_62 hLt (g_at ck_X8_goDay 4 rfl) rfl ?_
    refine tz_getIw (n := 10) (kz := 1) fk_X8_48 hS.k0 (g_at ck_X8_goDay 5 rfl) rfl rfl ?_
    rw [hGi.n1]
    refine tz_icmp_ge (n := 13) (tgt := 53) (g_at ck_X8_goDay 6 rfl) rfl rfl ⟨by omega, by omega, by omega, by omega⟩ (fun h10 => absurd h10 (by omega)) (fun h10 => ?_)
    refine tz_aload0 (n := 14) (g_at ck_X8_goDay 7 rfl) rfl (g_ne kd_62) ?_
    refine tz_iload2 (n := 15) (g_at ck_X8_goDay 8 rfl) rfl ?_
    refine tz_cvI1 (n := 18) (μ' := μX8_isHome) (cb' := 0) (sb' := 0) ml_X8_54 mo_X8_isHome mv_X8_isHome np_X8_isHome kd_62 (g_at ck_X8_goDay 9 rfl) (sp_tHome hL hLt hS hRi hW hGi hTi hσi (by omega) (by omega)) rfl rfl rfl ⟨by decide, by decide⟩ (Nat.le_of_ble_eq_true rfl) (by decide) (by decide) (fun x15 ρ9 m15 hq => ?_)
    obtain ⟨rfl, hR2, rfl, rfl⟩ := hq
    refine tz_if_ne (n := 21) (tgt := 47) (g_at ck_X8_goDay 10 rfl) rfl rfl (by split <;> decide) (fun h18 => ?_) (fun h18 => ?_)
    · skip
      refine tz_iinc2 (n := 50) (g_at ck_X8_goDay 25 rfl) rfl (by decide) g_hpI ?_
      refine tz_goto (tgt := 2) (g_at ck_X8_goDay 26 rfl) rfl ?_
      exact ihi _ ⟨hR2, by
        show TripC _ (perP Λ hl tl w (i : Int) (dayN Λ hl tl w σ i))
        rw [perP_home (ite10 h18)]
        exact hTi, hFi⟩
    · skip
      refine tz_aload0 (n := 22) (g_at ck_X8_goDay 11 rfl) rfl (g_ne kd_62) ?_
      refine tz_getOv (n := 25) (a := ld) fk_X8_30 kd_62 hLt (g_at ck_X8_goDay 12 rfl) rfl ?_
      refine tz_getAv (n := 28) (a := (ld + 3)) fk_X8_58 hS.k0 hS.r0_4 (g_at ck_X8_goDay 13 rfl) rfl ?_
      refine tz_aload0 (n := 29) (g_at ck_X8_goDay 14 rfl) rfl (g_ne kd_62) ?_
      refine tz_getOv (n := 32) (a := 63) fk_X8_12 kd_62 (ly_62_1 hL) (g_at ck_X8_goDay 15 rfl) rfl ?_
      refine tz_getAv (n := 35) (a := 64) fk_X8_61 (isM_63 hL).k0 (isM_63 hL).r0_1 (g_at ck_X8_goDay 16 rfl) rfl ?_
      refine tz_iload2 (n := 36) (g_at ck_X8_goDay 17 rfl) rfl ?_
      refine tz_iald (n := 37) (isM_63 hL).k1 (by omega) (g_at ck_X8_goDay 18 rfl) rfl ?_
      rw [hTi.whr (i : Int) (by omega)]
      refine tz_iald (n := 38) hS.k3 (by omega) (g_at ck_X8_goDay 19 rfl) rfl ?_
      rw [hGi.roads _ ⟨hp1.1, hp1.2.1⟩]
      refine tz_if_le (n := 41) (tgt := 47) (g_at ck_X8_goDay 20 rfl) rfl rfl (by omega) (fun h38 => ?_) (fun h38 => ?_)
      · skip
        refine tz_iinc2 (n := 50) (g_at ck_X8_goDay 25 rfl) rfl (by decide) g_hpI ?_
        refine tz_goto (tgt := 2) (g_at ck_X8_goDay 26 rfl) rfl ?_
        exact ihi _ ⟨hR2, by
          show TripC _ (perP Λ hl tl w (i : Int) (dayN Λ hl tl w σ i))
          rw [perP_none h38]
          exact hTi, hFi⟩
      · skip
        refine tz_aload0 (n := 42) (g_at ck_X8_goDay 21 rfl) rfl (g_ne kd_62) ?_
        refine tz_iload2 (n := 43) (g_at ck_X8_goDay 22 rfl) rfl ?_
        refine tz_iload1 (n := 44) (g_at ck_X8_goDay 23 rfl) rfl ?_
        refine tz_cvV2 (n := 47) (μ' := μX8_takeTurn) (cb' := 0) (sb' := 0) ml_X8_64 mo_X8_takeTurn mv_X8_takeTurn np_X8_takeTurn kd_62 (g_at ck_X8_goDay 24 rfl) (sp_takeTurn hL hLt hS hR2 hW hGi hTi hσi (by omega) (by omega) (by omega) (by omega)) rfl rfl rfl ⟨by decide, by decide⟩ (Nat.le_of_ble_eq_true rfl) (by decide) (by decide) (fun ρ9 m44 hq => ?_)
        obtain ⟨rfl, hR3, hT44, hF44⟩ := hq
        refine tz_iinc2 (n := 50) (g_at ck_X8_goDay 25 rfl) rfl (by decide) g_hpI ?_
        refine tz_goto (tgt := 2) (g_at ck_X8_goDay 26 rfl) rfl ?_
        exact ihi _ ⟨hR3, by
          show TripC _ (perP Λ hl tl w (i : Int) (dayN Λ hl tl w σ i))
          rw [perP_tak (ite10n h18) h38]
          exact hT44, hFi.tr hF44⟩
theorem sp_go {l : Launch} {γ : Gh} {ρ m : Mm} {k : Int} {ld b : Int} {Λ σ : Mm} {hl tl : List Int} (hL : LY ρ) (hLt : ρ 62 0 = ld) (hS : isS ρ ld) (hR : MR m) (hW : WL Λ) (hG : LandC m ld Λ hl tl) (hT : TripC m σ) (hσ : WS Λ b σ) (hb : 0 ≤ b ∧ b ≤ 80000) (hk : 0 ≤ k ∧ k ≤ 1000) : gE l γ μX8_go 5 0 0 (rV KK fun ρ9 m9 => ρ = ρ9 ∧ MR m9 ∧ TripC m9 (daysP Λ hl tl σ k.toNat) ∧ Fr (trL ld) m m9) xN KK ρ m [vR 62, vI k] := by
  refine gE.ofw cl_X8.2 ?_ rfl rfl (Nat.le_of_ble_eq_true rfl)
  show gT l γ μX8_go 5 0 0 _ _ KK ρ m 0 [some (vR 62), some (vI k), none] []
  have hn := hW.1
  have hn8 := hW.2.1
  have hld := hG.ld9
  refine tz_iconst (n := 1) (g_at ck_X8_go 0 rfl) rfl ?_
  refine tz_istore2 (n := 2) (g_at ck_X8_go 1 rfl) rfl (by decide) g_hpI ?_
  refine g_for (fun i : Nat => ∀ m1 : Mm, (MR m1 ∧ TripC m1 (daysP Λ hl tl σ i) ∧ Fr (trL ld) m m1) → gT l γ μX8_go 5 0 0 _ _ KK ρ m1 2 [some (vR 62), some (vI k), some (vI (i : Int))] []) k.toNat ?_ (fun i hi ihi => ?_) 0 (Nat.zero_le _) _ ⟨hR, hT, Fr.rf⟩
  · intro m1 hinv
    obtain ⟨hRi, hTi, hFi⟩ := hinv
    refine tz_iload2 (n := 3) (g_at ck_X8_go 2 rfl) rfl ?_
    refine tz_iload1 (n := 4) (g_at ck_X8_go 3 rfl) rfl ?_
    refine tz_icmp_ge (n := 7) (tgt := 18) (g_at ck_X8_go 4 rfl) rfl rfl ⟨(by omega), (by omega), (by omega), (by omega)⟩ (fun h4 => ?_) (fun h4 => absurd h4 (by omega))
    exact tz_vret (g_at ck_X8_go 10 rfl) rfl (rV_mk ⟨rfl, hRi, hTi, hFi⟩)
  · intro m1 hinv
    obtain ⟨hRi, hTi, hFi⟩ := hinv
    have hGi := hG.fr hFi
    have hσi := daysP_WS (hl := hl) (tl := tl) hW hσ hb.1 i
    refine tz_iload2 (n := 3) (g_at ck_X8_go 2 rfl) rfl ?_
    refine tz_iload1 (n := 4) (g_at ck_X8_go 3 rfl) rfl ?_
    refine tz_icmp_ge (n := 7) (tgt := 18) (g_at ck_X8_go 4 rfl) rfl rfl ⟨(by omega), (by omega), (by omega), (by omega)⟩ (fun h4 => absurd h4 (by omega)) (fun h4 => ?_)
    refine tz_aload0 (n := 8) (g_at ck_X8_go 5 rfl) rfl (g_ne kd_62) ?_
    refine tz_iconst (n := 9) (g_at ck_X8_go 6 rfl) rfl ?_
    refine tz_cvV1 (n := 12) (μ' := μX8_goDay) (cb' := 0) (sb' := 0) ml_X8_44 mo_X8_goDay mv_X8_goDay np_X8_goDay kd_62 (g_at ck_X8_go 7 rfl) (sp_goDay hL hLt hS hRi hW hGi hTi hσi (by omega) (by omega)) rfl rfl rfl ⟨by decide, by decide⟩ (Nat.le_of_ble_eq_true rfl) (by decide) (by decide) (fun ρ9 m9 hq => ?_)
    obtain ⟨rfl, hR1, hT9, hF9⟩ := hq
    refine tz_iinc2 (n := 15) (g_at ck_X8_go 8 rfl) rfl (by decide) g_hpI ?_
    refine tz_goto (tgt := 2) (g_at ck_X8_go 9 rfl) rfl ?_
    exact ihi _ ⟨hR1, hT9, hFi.tr hF9⟩
theorem sp_areTog {l : Launch} {γ : Gh} {ρ m : Mm} {p o : Int} {ld b : Int} {Λ σ : Mm} {hl tl : List Int} (hL : LY ρ) (hLt : ρ 62 0 = ld) (hS : isS ρ ld) (hR : MR m) (hW : WL Λ) (hG : LandC m ld Λ hl tl) (hT : TripC m σ) (hσ : WS Λ b σ) (hb : 0 ≤ b ∧ b ≤ 100000) (hp : 0 ≤ p ∧ p < Λ 0 1) (ho : 0 ≤ o ∧ o < Λ 0 1) : gE l γ μX8_areTogether 0 0 0 (rI KK fun x ρ9 m9 => ρ = ρ9 ∧ MR m9 ∧ (if σ 0 (1 + p) = σ 0 (1 + o) then 1 else 0) = x ∧ m = m9) xN KK ρ m [vR 62, vI p, vI o] := by
  refine gE.ofw cl_X8.2 ?_ rfl rfl (Nat.le_of_ble_eq_true rfl)
  show gT l γ μX8_areTogether 0 0 0 _ _ KK ρ m 0 [some (vR 62), some (vI p), some (vI o)] []
  have hn := hW.1
  have hn8 := hW.2.1
  have hld := hG.ld9
  have hp1 := hσ.2.1 p hp.1 hp.2
  have ho1 := hσ.2.1 o ho.1 ho.2
  refine tz_aload0 (n := 1) (g_at ck_X8_areTogether 0 rfl) rfl (g_ne kd_62) ?_
  refine tz_getOv (n := 4) (a := 63) fk_X8_12 kd_62 (ly_62_1 hL) (g_at ck_X8_areTogether 1 rfl) rfl ?_
  refine tz_getAv (n := 7) (a := 64) fk_X8_61 (isM_63 hL).k0 (isM_63 hL).r0_1 (g_at ck_X8_areTogether 2 rfl) rfl ?_
  refine tz_iload1 (n := 8) (g_at ck_X8_areTogether 3 rfl) rfl ?_
  refine tz_iald (n := 9) (isM_63 hL).k1 (by omega) (g_at ck_X8_areTogether 4 rfl) rfl ?_
  rw [hT.whr p (by omega)]
  refine tz_aload0 (n := 10) (g_at ck_X8_areTogether 5 rfl) rfl (g_ne kd_62) ?_
  refine tz_getOv (n := 13) (a := 63) fk_X8_12 kd_62 (ly_62_1 hL) (g_at ck_X8_areTogether 6 rfl) rfl ?_
  refine tz_getAv (n := 16) (a := 64) fk_X8_61 (isM_63 hL).k0 (isM_63 hL).r0_1 (g_at ck_X8_areTogether 7 rfl) rfl ?_
  refine tz_iload2 (n := 17) (g_at ck_X8_areTogether 8 rfl) rfl ?_
  refine tz_iald (n := 18) (isM_63 hL).k1 (by omega) (g_at ck_X8_areTogether 9 rfl) rfl ?_
  rw [hT.whr o (by omega)]
  refine tz_icmp_ne (n := 21) (tgt := 25) (g_at ck_X8_areTogether 10 rfl) rfl rfl ⟨by omega, by omega, by omega, by omega⟩ (fun h18 => ?_) (fun h18 => ?_)
  · skip
    refine tz_iconst (n := 26) (g_at ck_X8_areTogether 13 rfl) rfl ?_
    exact tz_bret (g_at ck_X8_areTogether 14 rfl) rfl (by decide) (rI_mk ⟨rfl, hR, by simp only [h18, if_true, if_false], rfl⟩)
  · skip
    refine tz_iconst (n := 22) (g_at ck_X8_areTogether 11 rfl) rfl ?_
    refine tz_goto (tgt := 26) (g_at ck_X8_areTogether 12 rfl) rfl ?_
    exact tz_bret (g_at ck_X8_areTogether 14 rfl) rfl (by decide) (rI_mk ⟨rfl, hR, by simp only [h18, if_true, if_false], rfl⟩)
def sumS (σ : Mm) (n : Nat) : Int := fd (fun p v => v + σ 1 (p : Int)) 0 n
theorem fd_congr {α : Type} {f g : Nat → α → α} {a : α} : ∀ {n : Nat}, (∀ i v, i < n → f i v = g i v) → fd f a n = fd g a n
  | 0, _ => rfl
  | n + 1, h => by
    show f n (fd f a n) = g n (fd g a n)
    rw [h n _ (Nat.lt_succ_self n), fd_congr fun i v hi => h i v (Nat.lt_succ_of_lt hi)]
theorem sp_allSteps {l : Launch} {γ : Gh} {ρ m : Mm} {ld b : Int} {Λ σ : Mm} {hl tl : List Int} (hL : LY ρ) (hLt : ρ 62 0 = ld) (hS : isS ρ ld) (hR : MR m) (hW : WL Λ) (hG : LandC m ld Λ hl tl) (hT : TripC m σ) (hσ : WS Λ b σ) (hb : 0 ≤ b ∧ b ≤ 100000) : gE l γ μX8_allSteps 0 0 0 (rI KK fun x ρ9 m9 => ρ = ρ9 ∧ MR m9 ∧ sumS σ (Λ 0 1).toNat = x ∧ m = m9) xN KK ρ m [vR 62] := by
  refine gE.ofw cl_X8.2 ?_ rfl rfl (Nat.le_of_ble_eq_true rfl)
  show gT l γ μX8_allSteps 0 0 0 _ _ KK ρ m 0 [some (vR 62), none, none] []
  have hn := hW.1
  have hn8 := hW.2.1
  have hld := hG.ld9
  refine tz_iconst (n := 1) (g_at ck_X8_allSteps 0 rfl) rfl ?_
  refine tz_istore1 (n := 2) (g_at ck_X8_allSteps 1 rfl) rfl (by decide) g_hpR ?_
  refine tz_iconst (n := 3) (g_at ck_X8_allSteps 2 rfl) rfl ?_
  refine tz_istore2 (n := 4) (g_at ck_X8_allSteps 3 rfl) rfl (by decide) g_hpI ?_
  refine g_for (fun i : Nat => gT l γ μX8_allSteps 0 0 0 _ _ KK ρ m 4 [some (vR 62), some (vI (sumS σ i)), some (vI (i : Int))] []) (Λ 0 1).toNat ?_ (fun i hi ihi => ?_) 0 (Nat.zero_le _)
  · skip
    refine tz_iload2 (n := 5) (g_at ck_X8_allSteps 4 rfl) rfl ?_
    refine tz_aload0 (n := 6) (g_at ck_X8_allSteps 5 rfl) rfl (g_ne kd_62) ?_
    refine tz_getOv (n := 9) (a := ld) fk_X8_30 kd_62 hLt (g_at ck_X8_allSteps 6 rfl) rfl ?_
    refine tz_getIw (n := 12) (kz := 1) fk_X8_48 hS.k0 (g_at ck_X8_allSteps 7 rfl) rfl rfl ?_
    rw [hG.n1]
    refine tz_icmp_ge (n := 15) (tgt := 30) (g_at ck_X8_allSteps 8 rfl) rfl rfl ⟨by omega, by omega, by omega, by omega⟩ (fun h12 => ?_) (fun h12 => absurd h12 (by omega))
    refine tz_iload1 (n := 31) (g_at ck_X8_allSteps 18 rfl) rfl ?_
    exact tz_iret (g_at ck_X8_allSteps 19 rfl) rfl (rI_mk ⟨rfl, hR, rfl, rfl⟩)
  · skip
    refine tz_iload2 (n := 5) (g_at ck_X8_allSteps 4 rfl) rfl ?_
    refine tz_aload0 (n := 6) (g_at ck_X8_allSteps 5 rfl) rfl (g_ne kd_62) ?_
    refine tz_getOv (n := 9) (a := ld) fk_X8_30 kd_62 hLt (g_at ck_X8_allSteps 6 rfl) rfl ?_
    refine tz_getIw (n := 12) (kz := 1) fk_X8_48 hS.k0 (g_at ck_X8_allSteps 7 rfl) rfl rfl ?_
    rw [hG.n1]
    refine tz_icmp_ge (n := 15) (tgt := 30) (g_at ck_X8_allSteps 8 rfl) rfl rfl ⟨by omega, by omega, by omega, by omega⟩ (fun h12 => absurd h12 (by omega)) (fun h12 => ?_)
    refine tz_iload1 (n := 16) (g_at ck_X8_allSteps 9 rfl) rfl ?_
    refine tz_aload0 (n := 17) (g_at ck_X8_allSteps 10 rfl) rfl (g_ne kd_62) ?_
    refine tz_getAv (n := 20) (a := 68) fk_X8_18 kd_62 (ly_62_2 hL) (g_at ck_X8_allSteps 11 rfl) rfl ?_
    refine tz_iload2 (n := 21) (g_at ck_X8_allSteps 12 rfl) rfl ?_
    refine tz_iald (n := 22) kd_68 (by omega) (g_at ck_X8_allSteps 13 rfl) rfl ?_
    rw [hT.stp (i : Int) (by omega)]
    refine tz_iadd (n := 23) (g_at ck_X8_allSteps 14 rfl) rfl ?_
    refine tz_istore1 (n := 24) (g_at ck_X8_allSteps 15 rfl) rfl (by decide) g_hpR ?_
    refine tz_iinc2 (n := 27) (g_at ck_X8_allSteps 16 rfl) rfl (by decide) g_hpI ?_
    refine tz_goto (tgt := 4) (g_at ck_X8_allSteps 17 rfl) rfl ?_
    exact ihi
def isFst (P : Nat → Prop) (n : Nat) (x : Int) : Prop := 0 ≤ x ∧ x ≤ n ∧ (∀ j : Nat, (j : Int) < x → ¬ P j) ∧ (x < n → P x.toNat)
theorem isFst_eq {P : Nat → Prop} {n : Nat} {x y : Int} (h : isFst P n x) (k : isFst P n y) : x = y := by
  obtain ⟨a1, a2, a3, a4⟩ := h
  obtain ⟨b1, b2, b3, b4⟩ := k
  by_cases c : x < y
  · exact absurd (a4 (by omega)) (b3 x.toNat (by omega))
  · by_cases d : y < x
    · exact absurd (b4 (by omega)) (a3 y.toNat (by omega))
    · omega
theorem isFst_at {P : Nat → Prop} {n i : Nat} (h : ∀ j : Nat, j < i → ¬ P j) (hi : i < n) (hP : P i) : isFst P n (i : Int) := ⟨by omega, by omega, fun j hj => h j (by omega), fun _ => hP⟩
theorem isFst_no {P : Nat → Prop} {n : Nat} (h : ∀ j : Nat, j < n → ¬ P j) : isFst P n (n : Int) := ⟨by omega, by omega, fun j hj => h j (by omega), fun hn => absurd hn (by omega)⟩
theorem no_step {P : Nat → Prop} {i : Nat} (h : ∀ j : Nat, j < i → ¬ P j) (hi : ¬ P i) : ∀ j : Nat, j < i + 1 → ¬ P j := fun j hj => by
  by_cases e : j = i
  · rw [e]; exact hi
  · exact h j (by omega)
def homeAt (Λ : Mm) (hl tl : List Int) (σ : Mm) (p : Int) (j : Nat) : Prop := daysP Λ hl tl σ j 0 (1 + p) = Λ 5 p
theorem sp_toHome {l : Launch} {γ : Gh} {ρ m : Mm} {p k : Int} {ld b : Int} {Λ σ : Mm} {hl tl : List Int} (hL : LY ρ) (hLt : ρ 62 0 = ld) (hS : isS ρ ld) (hR : MR m) (hW : WL Λ) (hG : LandC m ld Λ hl tl) (hT : TripC m σ) (hσ : WS Λ b σ) (hb : 0 ≤ b ∧ b ≤ 80000) (hp : 0 ≤ p ∧ p < Λ 0 1) (hk : -1 ≤ k ∧ k ≤ 1000) : gE l γ μX8_daysToHome 5 0 0 (rI KK fun x ρ9 m9 => ρ = ρ9 ∧ MR m9 ∧ isFst (homeAt Λ hl tl σ p) (k + 1).toNat x ∧ Fr (trL ld) m m9) xN KK ρ m [vR 62, vI p, vI k] := by
  refine gE.ofw cl_X8.2 ?_ rfl rfl (Nat.le_of_ble_eq_true rfl)
  show gT l γ μX8_daysToHome 5 0 0 _ _ KK ρ m 0 [some (vR 62), some (vI p), some (vI k), none] []
  have hn := hW.1
  have hn8 := hW.2.1
  have hld := hG.ld9
  refine tz_iconst (n := 1) (g_at ck_X8_daysToHome 0 rfl) rfl ?_
  refine tz_istore3 (n := 2) (g_at ck_X8_daysToHome 1 rfl) rfl (by decide) g_hpI ?_
  refine g_for (fun i : Nat => ∀ m1 : Mm, (MR m1 ∧ ((i : Int) ≤ k → TripC m1 (daysP Λ hl tl σ i)) ∧ Fr (trL ld) m m1 ∧ ∀ j : Nat, j < i → ¬ homeAt Λ hl tl σ p j) → gT l γ μX8_daysToHome 5 0 0 _ _ KK ρ m1 2 [some (vR 62), some (vI p), some (vI k), some (vI (i : Int))] []) (k + 1).toNat ?_ (fun i hi ihi => ?_) 0 (Nat.zero_le _) _ ⟨hR, fun _ => hT, Fr.rf, fun j hj => absurd hj (Nat.not_lt_zero j)⟩
  · intro m1 hinv
    obtain ⟨hRi, hTi0, hFi, hno⟩ := hinv
    refine tz_iload3 (n := 3) (g_at ck_X8_daysToHome 2 rfl) rfl ?_
    refine tz_iload2 (n := 4) (g_at ck_X8_daysToHome 3 rfl) rfl ?_
    refine tz_icmp_gt (n := 7) (tgt := 33) (g_at ck_X8_daysToHome 4 rfl) rfl rfl ⟨(by omega), (by omega), (by omega), (by omega)⟩ (fun h4 => ?_) (fun h4 => absurd h4 (by omega))
    refine tz_iload2 (n := 34) (g_at ck_X8_daysToHome 19 rfl) rfl ?_
    refine tz_iconst (n := 35) (g_at ck_X8_daysToHome 20 rfl) rfl ?_
    refine tz_iadd (n := 36) (g_at ck_X8_daysToHome 21 rfl) rfl ?_
    exact tz_iret (g_at ck_X8_daysToHome 22 rfl) rfl (rI_mk ⟨rfl, hRi, (show (((k + 1).toNat : Nat) : Int) = k + 1 by omega) ▸ isFst_no hno, hFi⟩)
  · intro m1 hinv
    obtain ⟨hRi, hTi0, hFi, hno⟩ := hinv
    have hGi := hG.fr hFi
    have hTi := hTi0 (by omega)
    have hσi := daysP_WS (hl := hl) (tl := tl) hW hσ hb.1 i
    refine tz_iload3 (n := 3) (g_at ck_X8_daysToHome 2 rfl) rfl ?_
    refine tz_iload2 (n := 4) (g_at ck_X8_daysToHome 3 rfl) rfl ?_
    refine tz_icmp_gt (n := 7) (tgt := 33) (g_at ck_X8_daysToHome 4 rfl) rfl rfl ⟨(by omega), (by omega), (by omega), (by omega)⟩ (fun h4 => absurd h4 (by omega)) (fun h4 => ?_)
    refine tz_aload0 (n := 8) (g_at ck_X8_daysToHome 5 rfl) rfl (g_ne kd_62) ?_
    refine tz_iload1 (n := 9) (g_at ck_X8_daysToHome 6 rfl) rfl ?_
    refine tz_cvI1 (n := 12) (μ' := μX8_isHome) (cb' := 0) (sb' := 0) ml_X8_54 mo_X8_isHome mv_X8_isHome np_X8_isHome kd_62 (g_at ck_X8_daysToHome 7 rfl) (sp_tHome hL hLt hS hRi hW hGi hTi hσi (by omega) (by omega)) rfl rfl rfl ⟨by decide, by decide⟩ (Nat.le_of_ble_eq_true rfl) (by decide) (by decide) (fun x9 ρ9 m9 hq => ?_)
    obtain ⟨rfl, hR1, rfl, rfl⟩ := hq
    refine tz_if_eq (n := 15) (tgt := 17) (g_at ck_X8_daysToHome 8 rfl) rfl rfl (by split <;> decide) (fun h12 => ?_) (fun h12 => ?_)
    · skip
      refine tz_iload3 (n := 18) (g_at ck_X8_daysToHome 11 rfl) rfl ?_
      refine tz_iload2 (n := 19) (g_at ck_X8_daysToHome 12 rfl) rfl ?_
      refine tz_icmp_ge (n := 22) (tgt := 27) (g_at ck_X8_daysToHome 13 rfl) rfl rfl ⟨(by omega), (by omega), (by omega), (by omega)⟩ (fun h19 => ?_) (fun h19 => ?_)
      · skip
        refine tz_iinc3 (n := 30) (g_at ck_X8_daysToHome 17 rfl) rfl (by decide) g_hpI ?_
        refine tz_goto (tgt := 2) (g_at ck_X8_daysToHome 18 rfl) rfl ?_
        have hh9 := ite10n h12
        exact ihi _ ⟨hR1, fun h9 => absurd h9 (by omega), hFi, no_step hno hh9⟩
      · skip
        refine tz_aload0 (n := 23) (g_at ck_X8_daysToHome 14 rfl) rfl (g_ne kd_62) ?_
        refine tz_iconst (n := 24) (g_at ck_X8_daysToHome 15 rfl) rfl ?_
        refine tz_cvV1 (n := 27) (μ' := μX8_goDay) (cb' := 0) (sb' := 0) ml_X8_44 mo_X8_goDay mv_X8_goDay np_X8_goDay kd_62 (g_at ck_X8_daysToHome 16 rfl) (sp_goDay hL hLt hS hR1 hW hGi hTi hσi (by omega) (by omega)) rfl rfl rfl ⟨by decide, by decide⟩ (Nat.le_of_ble_eq_true rfl) (by decide) (by decide) (fun ρ9 m24 hq => ?_)
        obtain ⟨rfl, hR2, hT24, hF24⟩ := hq
        refine tz_iinc3 (n := 30) (g_at ck_X8_daysToHome 17 rfl) rfl (by decide) g_hpI ?_
        refine tz_goto (tgt := 2) (g_at ck_X8_daysToHome 18 rfl) rfl ?_
        have hh9 := ite10n h12
        exact ihi _ ⟨hR2, fun _ => hT24, hFi.tr hF24, no_step hno hh9⟩
    · skip
      refine tz_iload3 (n := 16) (g_at ck_X8_daysToHome 9 rfl) rfl ?_
      exact tz_iret (g_at ck_X8_daysToHome 10 rfl) rfl (rI_mk ⟨rfl, hR1, isFst_at hno (by omega) (by have hh9 := ite10 h12; exact hh9), hFi⟩)
theorem sp_begin {l : Launch} {γ : Gh} {ρ m : Mm} {ld : Int} {s : Int → Int} (hL : LY ρ) (hS : isS ρ ld) (hR : MR m) (hN : MomC m 39 s) : gE l γ μX8_begin 3 0 0 (rV KK fun ρ9 m9 => wr ρ 62 0 ld = ρ9 ∧ MR m9 ∧ TripC m9 (sig0 s) ∧ Fr [63, 64, 65, 66, 67, 68, 69] m m9) xN KK ρ m [vR 62, vR ld, vR 39] := by
  refine gE.ofw cl_X8.2 ?_ rfl rfl (Nat.le_of_ble_eq_true rfl)
  show gT l γ μX8_begin 3 0 0 _ _ KK ρ m 0 [some (vR 62), some (vR ld), some (vR 39)] []
  refine tz_aload0 (n := 1) (g_at ck_X8_begin 0 rfl) rfl (g_ne kd_62) ?_
  refine tz_aload1 (n := 2) (g_at ck_X8_begin 1 rfl) rfl (g_ne hS.k0) ?_
  refine tz_putOw (n := 5) (kz := 0) fk_X8_30 kd_62 (g_at ck_X8_begin 2 rfl) rfl rfl ?_
  have hL := LY_wr (r := 62) (k := 0) (x := ld) hL (by decide)
  refine tz_aload0 (n := 6) (g_at ck_X8_begin 3 rfl) rfl (g_ne kd_62) ?_
  refine tz_getOv (n := 9) (a := 63) fk_X8_12 kd_62 (ly_62_1 hL) (g_at ck_X8_begin 4 rfl) rfl ?_
  refine tz_aload2 (n := 10) (g_at ck_X8_begin 5 rfl) rfl (g_ne (isM_39 hL).k0) ?_
  refine tz_cvV1 (n := 13) (μ' := μX2_copy) (cb' := 0) (sb' := 0) ml_X8_34 mo_X2_copy mv_X2_copy np_X2_copy (isM_63 hL).k0 (g_at ck_X8_begin 6 rfl) (sp_momCopy (isM_63 hL) (isM_39 hL) hR) rfl rfl rfl ⟨by decide, by decide⟩ (Nat.le_of_ble_eq_true rfl) (by decide) (by decide) (fun ρ9 m10 hq => ?_)
  obtain ⟨rfl, hR1, rfl⟩ := hq
  refine tz_aload0 (n := 14) (g_at ck_X8_begin 7 rfl) rfl (g_ne kd_62) ?_
  refine tz_getAv (n := 17) (a := 68) fk_X8_18 kd_62 (ly_62_2 hL) (g_at ck_X8_begin 8 rfl) rfl ?_
  refine tz_iconst (n := 18) (g_at ck_X8_begin 9 rfl) rfl ?_
  refine tz_csV2 (n := 21) (μ' := μJ7_fill_53178) (cb' := 0) (sb' := 0) ml_X8_38 mo_J7_fill_53178 ms_J7_fill_53178 np_J7_fill_53178 (g_at ck_X8_begin 10 rfl) (sp_fill kd_68 (by decide) hR1 ⟨(by decide), (by decide)⟩) rfl rfl ⟨by decide, by decide⟩ (Nat.le_of_ble_eq_true rfl) (by decide) (by decide) (fun ρ9 m18 hq => ?_)
  obtain ⟨rfl, hR2, rfl⟩ := hq
  refine tz_aload0 (n := 22) (g_at ck_X8_begin 11 rfl) rfl (g_ne kd_62) ?_
  refine tz_getAv (n := 25) (a := 69) fk_X8_22 kd_62 (ly_62_3 hL) (g_at ck_X8_begin 12 rfl) rfl ?_
  refine tz_iconst (n := 26) (g_at ck_X8_begin 13 rfl) rfl ?_
  refine tz_csV2 (n := 29) (μ' := μJ7_fill_53178) (cb' := 0) (sb' := 0) ml_X8_38 mo_J7_fill_53178 ms_J7_fill_53178 np_J7_fill_53178 (g_at ck_X8_begin 14 rfl) (sp_fill kd_69 (by decide) hR2 ⟨(by decide), (by decide)⟩) rfl rfl ⟨by decide, by decide⟩ (Nat.le_of_ble_eq_true rfl) (by decide) (by decide) (fun ρ9 m26 hq => ?_)
  obtain ⟨rfl, hR3, rfl⟩ := hq
  exact tz_vret (g_at ck_X8_begin 15 rfl) rfl (rV_mk ⟨rfl, hR3, by
    have e1 := hN.1
    have e2 := hN.2.1
    have e3 := hN.2.2
    refine TripC.mk ?_ (fun q hq => ?_) (fun q hq => ?_) (fun q hq => ?_) (fun q hq => ?_) (fun q hq => ?_) (fun q hq => ?_)
    · show _ = s 0
      rw [← e1]
      simp only [fil, momcp, cpy, wr, sig0, true_and, and_true, false_and, if_false, if_true, Int.reduceEq, Int.reduceAdd]
    · show _ = s (1 + q)
      rw [← (e2 q hq.1 hq.2).1]
      simp only [fil, momcp, cpy, wr, sig0, true_and, and_true, false_and, if_false, if_true, Int.reduceEq, Int.reduceAdd]
      (repeat' split) <;> first | omega | (congr 1; omega)
    · show _ = s (9 + q)
      rw [← (e2 q hq.1 hq.2).2]
      simp only [fil, momcp, cpy, wr, sig0, true_and, and_true, false_and, if_false, if_true, Int.reduceEq, Int.reduceAdd]
      (repeat' split) <;> first | omega | (congr 1; omega)
    · show _ = s (17 + q)
      rw [← (e3 q hq.1 hq.2).1]
      simp only [fil, momcp, cpy, wr, sig0, true_and, and_true, false_and, if_false, if_true, Int.reduceEq, Int.reduceAdd]
      (repeat' split) <;> first | omega | (congr 1; omega)
    · show _ = s (26 + q)
      rw [← (e3 q hq.1 hq.2).2]
      simp only [fil, momcp, cpy, wr, sig0, true_and, and_true, false_and, if_false, if_true, Int.reduceEq, Int.reduceAdd]
      (repeat' split) <;> first | omega | (congr 1; omega)
    · show _ = (0 : Int)
      simp only [fil, momcp, cpy, wr, sig0, true_and, and_true, false_and, if_false, if_true, Int.reduceEq, Int.reduceAdd]
      (repeat' split) <;> first | rfl | omega
    · show _ = (0 : Int)
      simp only [fil, momcp, cpy, wr, sig0, true_and, and_true, false_and, if_false, if_true, Int.reduceEq, Int.reduceAdd]
      (repeat' split) <;> first | rfl | omega, fun a ha => by
    simp only [List.mem_cons, List.not_mem_nil, or_false] at ha
    rw [fil_ne (by omega), fil_ne (by omega)]
    unfold momcp
    rw [cpy_ne (by omega), cpy_ne (by omega), cpy_ne (by omega), cpy_ne (by omega), wr_ne (by omega)]⟩)
