/-! Rule, Acts, Seen, Draws. -/
def joinF (o a b : Int) : Int := if o = -6 then (if a ≠ 0 ∨ b ≠ 0 then 1 else 0) else if o = -7 then (if a ≠ 0 ∧ b ≠ 0 then 1 else 0) else if o = -9 then (if a < b then 1 else 0) else if o = -10 then (if a = b then 1 else 0) else if o = -11 then w32 (a + b) else if o = -12 then w32 (a - b) else if o = -13 then w32 (a * b) else if b = 0 then 0 else bDiv a b
theorem joinF_rg (o a b : Int) : -2147483648 ≤ joinF o a b ∧ joinF o a b < 2147483648 := by
  unfold joinF
  repeat' split
  all_goals first | exact w32_rg _ | exact bDiv_rg _ _ | decide
def drawN (s : Int) : Int := w32 (s * 1103515245 + 12345)
theorem sp_join {l : Launch} {γ : Gh} {ρ m : Mm} {o a b : Int} (hR : MR m) (ho : -2147483648 ≤ o ∧ o < 2147483648) (ha : -2147483648 ≤ a ∧ a < 2147483648) (hb : -2147483648 ≤ b ∧ b < 2147483648) : gE l γ μX4_join 0 0 0 (rI KK fun x ρ9 m9 => ρ = ρ9 ∧ MR m9 ∧ joinF o a b = x ∧ m = m9) xN KK ρ m [vI o, vI a, vI b] := by
  refine gE.ofw cl_X4.2 ?_ rfl rfl (Nat.le_of_ble_eq_true rfl)
  show gT l γ μX4_join 0 0 0 _ _ KK ρ m 0 [some (vI o), some (vI a), some (vI b)] []
  refine tz_iload0 (n := 1) (g_at ck_X4_join 0 rfl) rfl ?_
  by_cases hk1_m13 : o = -13
  · skip
    refine tz_tableIn (tgt := 106) (g_at ck_X4_join 1 rfl) ⟨ho.1, ho.2⟩ (by omega) (by omega) (by rw [hk1_m13]; rfl) rfl ?_
    refine tz_iload1 (n := 107) (g_at ck_X4_join 40 rfl) rfl ?_
    refine tz_iload2 (n := 108) (g_at ck_X4_join 41 rfl) rfl ?_
    refine tz_imul (n := 109) (g_at ck_X4_join 42 rfl) rfl ?_
    refine tz_wrap ?_
    exact tz_iret (g_at ck_X4_join 43 rfl) rfl (rI_mk ⟨rfl, hR, by simp_all [joinF], rfl⟩)
  by_cases hk1_m12 : o = -12
  · skip
    refine tz_tableIn (tgt := 102) (g_at ck_X4_join 1 rfl) ⟨ho.1, ho.2⟩ (by omega) (by omega) (by rw [hk1_m12]; rfl) rfl ?_
    refine tz_iload1 (n := 103) (g_at ck_X4_join 36 rfl) rfl ?_
    refine tz_iload2 (n := 104) (g_at ck_X4_join 37 rfl) rfl ?_
    refine tz_isub (n := 105) (g_at ck_X4_join 38 rfl) rfl ?_
    refine tz_wrap ?_
    exact tz_iret (g_at ck_X4_join 39 rfl) rfl (rI_mk ⟨rfl, hR, by simp_all [joinF], rfl⟩)
  by_cases hk1_m11 : o = -11
  · skip
    refine tz_tableIn (tgt := 98) (g_at ck_X4_join 1 rfl) ⟨ho.1, ho.2⟩ (by omega) (by omega) (by rw [hk1_m11]; rfl) rfl ?_
    refine tz_iload1 (n := 99) (g_at ck_X4_join 32 rfl) rfl ?_
    refine tz_iload2 (n := 100) (g_at ck_X4_join 33 rfl) rfl ?_
    refine tz_iadd (n := 101) (g_at ck_X4_join 34 rfl) rfl ?_
    refine tz_wrap ?_
    exact tz_iret (g_at ck_X4_join 35 rfl) rfl (rI_mk ⟨rfl, hR, by simp_all [joinF], rfl⟩)
  by_cases hk1_m10 : o = -10
  · skip
    refine tz_tableIn (tgt := 87) (g_at ck_X4_join 1 rfl) ⟨ho.1, ho.2⟩ (by omega) (by omega) (by rw [hk1_m10]; rfl) rfl ?_
    refine tz_iload1 (n := 88) (g_at ck_X4_join 25 rfl) rfl ?_
    refine tz_iload2 (n := 89) (g_at ck_X4_join 26 rfl) rfl ?_
    refine tz_icmp_ne (n := 92) (tgt := 96) (g_at ck_X4_join 27 rfl) rfl rfl ⟨ha.1, ha.2, hb.1, hb.2⟩ (fun h89 => ?_) (fun h89 => ?_)
    · skip
      refine tz_iconst (n := 97) (g_at ck_X4_join 30 rfl) rfl ?_
      exact tz_iret (g_at ck_X4_join 31 rfl) rfl (rI_mk ⟨rfl, hR, by simp_all [joinF], rfl⟩)
    · skip
      refine tz_iconst (n := 93) (g_at ck_X4_join 28 rfl) rfl ?_
      refine tz_goto (tgt := 97) (g_at ck_X4_join 29 rfl) rfl ?_
      exact tz_iret (g_at ck_X4_join 31 rfl) rfl (rI_mk ⟨rfl, hR, by simp_all [joinF], rfl⟩)
  by_cases hk1_m9 : o = -9
  · skip
    refine tz_tableIn (tgt := 76) (g_at ck_X4_join 1 rfl) ⟨ho.1, ho.2⟩ (by omega) (by omega) (by rw [hk1_m9]; rfl) rfl ?_
    refine tz_iload1 (n := 77) (g_at ck_X4_join 18 rfl) rfl ?_
    refine tz_iload2 (n := 78) (g_at ck_X4_join 19 rfl) rfl ?_
    refine tz_icmp_ge (n := 81) (tgt := 85) (g_at ck_X4_join 20 rfl) rfl rfl ⟨ha.1, ha.2, hb.1, hb.2⟩ (fun h78 => ?_) (fun h78 => ?_)
    · skip
      refine tz_iconst (n := 86) (g_at ck_X4_join 23 rfl) rfl ?_
      exact tz_iret (g_at ck_X4_join 24 rfl) rfl (rI_mk ⟨rfl, hR, by simp_all [joinF], rfl⟩)
    · skip
      refine tz_iconst (n := 82) (g_at ck_X4_join 21 rfl) rfl ?_
      refine tz_goto (tgt := 86) (g_at ck_X4_join 22 rfl) rfl ?_
      exact tz_iret (g_at ck_X4_join 24 rfl) rfl (rI_mk ⟨rfl, hR, by simp_all [joinF], rfl⟩)
  by_cases hk1_m8 : o = -8
  · skip
    refine tz_tableIn (tgt := 110) (g_at ck_X4_join 1 rfl) ⟨ho.1, ho.2⟩ (by omega) (by omega) (by rw [hk1_m8]; rfl) rfl ?_
    refine tz_iload2 (n := 111) (g_at ck_X4_join 44 rfl) rfl ?_
    refine tz_if_ne (n := 114) (tgt := 118) (g_at ck_X4_join 45 rfl) rfl rfl ⟨hb.1, hb.2⟩ (fun h111 => ?_) (fun h111 => ?_)
    · skip
      refine tz_iload1 (n := 119) (g_at ck_X4_join 48 rfl) rfl ?_
      refine tz_iload2 (n := 120) (g_at ck_X4_join 49 rfl) rfl ?_
      refine tz_idiv (n := 121) (g_at ck_X4_join 50 rfl) rfl (by omega) ?_
      exact tz_iret (g_at ck_X4_join 51 rfl) rfl (rI_mk ⟨rfl, hR, by simp_all [joinF], rfl⟩)
    · skip
      refine tz_iconst (n := 115) (g_at ck_X4_join 46 rfl) rfl ?_
      refine tz_goto (tgt := 121) (g_at ck_X4_join 47 rfl) rfl ?_
      exact tz_iret (g_at ck_X4_join 51 rfl) rfl (rI_mk ⟨rfl, hR, by simp_all [joinF], rfl⟩)
  by_cases hk1_m7 : o = -7
  · skip
    refine tz_tableIn (tgt := 62) (g_at ck_X4_join 1 rfl) ⟨ho.1, ho.2⟩ (by omega) (by omega) (by rw [hk1_m7]; rfl) rfl ?_
    refine tz_iload1 (n := 63) (g_at ck_X4_join 10 rfl) rfl ?_
    refine tz_if_eq (n := 66) (tgt := 74) (g_at ck_X4_join 11 rfl) rfl rfl ⟨ha.1, ha.2⟩ (fun h63 => ?_) (fun h63 => ?_)
    · skip
      refine tz_iconst (n := 75) (g_at ck_X4_join 16 rfl) rfl ?_
      exact tz_iret (g_at ck_X4_join 17 rfl) rfl (rI_mk ⟨rfl, hR, by simp_all [joinF], rfl⟩)
    · skip
      refine tz_iload2 (n := 67) (g_at ck_X4_join 12 rfl) rfl ?_
      refine tz_if_eq (n := 70) (tgt := 74) (g_at ck_X4_join 13 rfl) rfl rfl ⟨hb.1, hb.2⟩ (fun h67 => ?_) (fun h67 => ?_)
      · skip
        refine tz_iconst (n := 75) (g_at ck_X4_join 16 rfl) rfl ?_
        exact tz_iret (g_at ck_X4_join 17 rfl) rfl (rI_mk ⟨rfl, hR, by simp_all [joinF], rfl⟩)
      · skip
        refine tz_iconst (n := 71) (g_at ck_X4_join 14 rfl) rfl ?_
        refine tz_goto (tgt := 75) (g_at ck_X4_join 15 rfl) rfl ?_
        exact tz_iret (g_at ck_X4_join 17 rfl) rfl (rI_mk ⟨rfl, hR, by simp_all [joinF], rfl⟩)
  by_cases hk1_m6 : o = -6
  · skip
    refine tz_tableIn (tgt := 48) (g_at ck_X4_join 1 rfl) ⟨ho.1, ho.2⟩ (by omega) (by omega) (by rw [hk1_m6]; rfl) rfl ?_
    refine tz_iload1 (n := 49) (g_at ck_X4_join 2 rfl) rfl ?_
    refine tz_if_ne (n := 52) (tgt := 56) (g_at ck_X4_join 3 rfl) rfl rfl ⟨ha.1, ha.2⟩ (fun h49 => ?_) (fun h49 => ?_)
    · skip
      refine tz_iconst (n := 57) (g_at ck_X4_join 6 rfl) rfl ?_
      refine tz_goto (tgt := 61) (g_at ck_X4_join 7 rfl) rfl ?_
      exact tz_iret (g_at ck_X4_join 9 rfl) rfl (rI_mk ⟨rfl, hR, by simp_all [joinF], rfl⟩)
    · skip
      refine tz_iload2 (n := 53) (g_at ck_X4_join 4 rfl) rfl ?_
      refine tz_if_eq (n := 56) (tgt := 60) (g_at ck_X4_join 5 rfl) rfl rfl ⟨hb.1, hb.2⟩ (fun h53 => ?_) (fun h53 => ?_)
      · skip
        refine tz_iconst (n := 61) (g_at ck_X4_join 8 rfl) rfl ?_
        exact tz_iret (g_at ck_X4_join 9 rfl) rfl (rI_mk ⟨rfl, hR, by simp_all [joinF], rfl⟩)
      · skip
        refine tz_iconst (n := 57) (g_at ck_X4_join 6 rfl) rfl ?_
        refine tz_goto (tgt := 61) (g_at ck_X4_join 7 rfl) rfl ?_
        exact tz_iret (g_at ck_X4_join 9 rfl) rfl (rI_mk ⟨rfl, hR, by simp_all [joinF], rfl⟩)
  refine tz_tableOut (tgt := 110) (g_at ck_X4_join 1 rfl) ⟨ho.1, ho.2⟩ (by omega) rfl ?_
  refine tz_iload2 (n := 111) (g_at ck_X4_join 44 rfl) rfl ?_
  refine tz_if_ne (n := 114) (tgt := 118) (g_at ck_X4_join 45 rfl) rfl rfl ⟨hb.1, hb.2⟩ (fun h111 => ?_) (fun h111 => ?_)
  · skip
    refine tz_iload1 (n := 119) (g_at ck_X4_join 48 rfl) rfl ?_
    refine tz_iload2 (n := 120) (g_at ck_X4_join 49 rfl) rfl ?_
    refine tz_idiv (n := 121) (g_at ck_X4_join 50 rfl) rfl (by omega) ?_
    exact tz_iret (g_at ck_X4_join 51 rfl) rfl (rI_mk ⟨rfl, hR, by simp_all [joinF], rfl⟩)
  · skip
    refine tz_iconst (n := 115) (g_at ck_X4_join 46 rfl) rfl ?_
    refine tz_goto (tgt := 121) (g_at ck_X4_join 47 rfl) rfl ?_
    exact tz_iret (g_at ck_X4_join 51 rfl) rfl (rI_mk ⟨rfl, hR, by simp_all [joinF], rfl⟩)
theorem sp_isTold {l : Launch} {γ : Gh} {ρ m : Mm} {u : Int} (hU : isU ρ u) (hR : MR m) : gE l γ μX4_isTold 0 0 0 (rI KK fun x ρ9 m9 => ρ = ρ9 ∧ MR m9 ∧ (if m u 2 ≤ 0 then 0 else 1) = x ∧ m = m9) xN KK ρ m [vR u] := by
  refine gE.ofw cl_X4.2 ?_ rfl rfl (Nat.le_of_ble_eq_true rfl)
  show gT l γ μX4_isTold 0 0 0 _ _ KK ρ m 0 [some (vR u)] []
  refine tz_aload0 (n := 1) (g_at ck_X4_isTold 0 rfl) rfl (g_ne hU.k0) ?_
  refine tz_getIw (n := 4) (kz := 2) fk_X4_18 hU.k0 (g_at ck_X4_isTold 1 rfl) rfl rfl ?_
  refine tz_if_le (n := 7) (tgt := 11) (g_at ck_X4_isTold 2 rfl) rfl rfl ⟨(hR _ _).1, (hR _ _).2⟩ (fun h4 => ?_) (fun h4 => ?_)
  · skip
    refine tz_iconst (n := 12) (g_at ck_X4_isTold 5 rfl) rfl ?_
    exact tz_bret (g_at ck_X4_isTold 6 rfl) rfl (by decide) (rI_mk ⟨rfl, hR, by simp [h4], rfl⟩)
  · skip
    refine tz_iconst (n := 8) (g_at ck_X4_isTold 3 rfl) rfl ?_
    refine tz_goto (tgt := 12) (g_at ck_X4_isTold 4 rfl) rfl ?_
    exact tz_bret (g_at ck_X4_isTold 6 rfl) rfl (by decide) (rI_mk ⟨rfl, hR, by simp [h4], rfl⟩)
theorem sp_ruleAdd {l : Launch} {γ : Gh} {ρ m : Mm} {u x : Int} (hU : isU ρ u) (hR : MR m) (hl : 0 ≤ m u 2 ∧ m u 2 < 700) (hx : -2147483648 ≤ x ∧ x < 2147483648) : gE l γ μX4_add 0 0 0 (rV KK fun ρ9 m9 => ρ = ρ9 ∧ MR m9 ∧ wr (wr m (u + 1) (m u 2) x) u 2 (m u 2 + 1) = m9) xN KK ρ m [vR u, vI x] := by
  refine gE.ofw cl_X4.2 ?_ rfl rfl (Nat.le_of_ble_eq_true rfl)
  show gT l γ μX4_add 0 0 0 _ _ KK ρ m 0 [some (vR u), some (vI x)] []
  refine tz_aload0 (n := 1) (g_at ck_X4_add 0 rfl) rfl (g_ne hU.k0) ?_
  refine tz_getIw (n := 4) (kz := 2) fk_X4_18 hU.k0 (g_at ck_X4_add 1 rfl) rfl rfl ?_
  refine tz_aload0 (n := 5) (g_at ck_X4_add 2 rfl) rfl (g_ne hU.k0) ?_
  refine tz_getAv (n := 8) (a := (u + 1)) fk_X4_9 hU.k0 hU.r0_0 (g_at ck_X4_add 3 rfl) rfl ?_
  refine tz_alen (n := 9) hU.k1 (g_at ck_X4_add 4 rfl) rfl ?_
  refine tz_icmp_ge (n := 12) (tgt := 32) (g_at ck_X4_add 5 rfl) rfl rfl ⟨(hR _ _).1, (hR _ _).2, (by decide), (by decide)⟩ (fun h9 => absurd h9 (by omega)) (fun h9 => ?_)
  refine tz_aload0 (n := 13) (g_at ck_X4_add 6 rfl) rfl (g_ne hU.k0) ?_
  refine tz_getAv (n := 16) (a := (u + 1)) fk_X4_9 hU.k0 hU.r0_0 (g_at ck_X4_add 7 rfl) rfl ?_
  refine tz_aload0 (n := 17) (g_at ck_X4_add 8 rfl) rfl (g_ne hU.k0) ?_
  refine tz_getIw (n := 20) (kz := 2) fk_X4_18 hU.k0 (g_at ck_X4_add 9 rfl) rfl rfl ?_
  refine tz_iload1 (n := 21) (g_at ck_X4_add 10 rfl) rfl ?_
  refine tz_iastr (n := 22) hU.k1 (by omega) (g_at ck_X4_add 11 rfl) rfl hR ⟨hx.1, hx.2⟩ (fun hR1 => ?_)
  refine tz_aload0 (n := 23) (g_at ck_X4_add 12 rfl) rfl (g_ne hU.k0) ?_
  refine tz_dupR (n := 24) (g_at ck_X4_add 13 rfl) rfl ?_
  refine tz_getIw (n := 27) (kz := 2) fk_X4_18 hU.k0 (g_at ck_X4_add 14 rfl) rfl rfl ?_
  refine tz_iconst (n := 28) (g_at ck_X4_add 15 rfl) rfl ?_
  refine tz_iadd (n := 29) (g_at ck_X4_add 16 rfl) rfl ?_
  refine tz_putIr (n := 32) (kz := 2) fk_X4_18 hU.k0 (g_at ck_X4_add 17 rfl) rfl hR1 (by rw [wr_ne (by omega)]; omega) rfl (fun hR2 => ?_)
  exact tz_vret (g_at ck_X4_add 18 rfl) rfl (rV_mk ⟨rfl, hR2, by rw [wr_ne (show u ≠ u + 1 by omega)]⟩)
theorem sp_ruleAddV {l : Launch} {γ : Gh} {ρ m : Mm} {u x : Int} (hU : isU ρ u) (hR : MR m) (hl : 0 ≤ m u 2 ∧ m u 2 < 700) (hx : 0 ≤ x ∧ x < 5) : gE l γ μX4_addValue 1 0 0 (rV KK fun ρ9 m9 => ρ = ρ9 ∧ MR m9 ∧ wr (wr m (u + 1) (m u 2) (-1 - x)) u 2 (m u 2 + 1) = m9) xN KK ρ m [vR u, vI x] := by
  refine gE.ofw cl_X4.2 ?_ rfl rfl (Nat.le_of_ble_eq_true rfl)
  show gT l γ μX4_addValue 1 0 0 _ _ KK ρ m 0 [some (vR u), some (vI x)] []
  refine tz_aload0 (n := 1) (g_at ck_X4_addValue 0 rfl) rfl (g_ne hU.k0) ?_
  refine tz_iconst (n := 2) (g_at ck_X4_addValue 1 rfl) rfl ?_
  refine tz_iload1 (n := 3) (g_at ck_X4_addValue 2 rfl) rfl ?_
  refine tz_isub (n := 4) (g_at ck_X4_addValue 3 rfl) rfl ?_
  refine tz_cvV1 (n := 7) (μ' := μX4_add) (cb' := 0) (sb' := 0) ml_X4_22 mo_X4_add mv_X4_add np_X4_add hU.k0 (g_at ck_X4_addValue 4 rfl) (sp_ruleAdd hU hR hl (by omega)) rfl rfl rfl ⟨by decide, by decide⟩ (Nat.le_of_ble_eq_true rfl) (by decide) (by decide) (fun ρ9 m4 hq => ?_)
  obtain ⟨rfl, hR1, rfl⟩ := hq
  exact tz_vret (g_at ck_X4_addValue 5 rfl) rfl (rV_mk ⟨rfl, hR1, rfl⟩)
theorem sp_actsClear {l : Launch} {γ : Gh} {ρ m : Mm} {q : Int} (hA : isA ρ q) (hR : MR m) : gE l γ μX0_clear 0 0 0 (rV KK fun ρ9 m9 => ρ = ρ9 ∧ MR m9 ∧ wr (wr m q 1 0) q 2 0 = m9) xN KK ρ m [vR q] := by
  refine gE.ofw cl_X0.2 ?_ rfl rfl (Nat.le_of_ble_eq_true rfl)
  show gT l γ μX0_clear 0 0 0 _ _ KK ρ m 0 [some (vR q)] []
  refine tz_aload0 (n := 1) (g_at ck_X0_clear 0 rfl) rfl (g_ne hA.k0) ?_
  refine tz_iconst (n := 2) (g_at ck_X0_clear 1 rfl) rfl ?_
  refine tz_putIr (n := 5) (kz := 1) fk_X0_17 hA.k0 (g_at ck_X0_clear 2 rfl) rfl hR ⟨(by decide), (by decide)⟩ rfl (fun hR1 => ?_)
  refine tz_aload0 (n := 6) (g_at ck_X0_clear 3 rfl) rfl (g_ne hA.k0) ?_
  refine tz_iconst (n := 7) (g_at ck_X0_clear 4 rfl) rfl ?_
  refine tz_putIr (n := 10) (kz := 2) fk_X0_21 hA.k0 (g_at ck_X0_clear 5 rfl) rfl hR1 ⟨(by decide), (by decide)⟩ rfl (fun hR2 => ?_)
  exact tz_vret (g_at ck_X0_clear 6 rfl) rfl (rV_mk ⟨rfl, hR2, rfl⟩)
theorem sp_actsCopy {l : Launch} {γ : Gh} {ρ m : Mm} {q o : Int} (hA : isA ρ q) (hO : isA ρ o) (hR : MR m) : gE l γ μX0_copy 2 0 0 (rV KK fun ρ9 m9 => ρ = ρ9 ∧ MR m9 ∧ wr (wr (cpy m (o + 1) 0 (q + 1) 0 1400) q 1 (cpy m (o + 1) 0 (q + 1) 0 1400 o 1)) q 2 (wr (cpy m (o + 1) 0 (q + 1) 0 1400) q 1 (cpy m (o + 1) 0 (q + 1) 0 1400 o 1) o 2) = m9) xN KK ρ m [vR q, vR o] := by
  refine gE.ofw cl_X0.2 ?_ rfl rfl (Nat.le_of_ble_eq_true rfl)
  show gT l γ μX0_copy 2 0 0 _ _ KK ρ m 0 [some (vR q), some (vR o)] []
  refine tz_aload1 (n := 1) (g_at ck_X0_copy 0 rfl) rfl (g_ne hO.k0) ?_
  refine tz_getAv (n := 4) (a := (o + 1)) fk_X0_11 hO.k0 hO.r0_0 (g_at ck_X0_copy 1 rfl) rfl ?_
  refine tz_iconst (n := 5) (g_at ck_X0_copy 2 rfl) rfl ?_
  refine tz_aload0 (n := 6) (g_at ck_X0_copy 3 rfl) rfl (g_ne hA.k0) ?_
  refine tz_getAv (n := 9) (a := (q + 1)) fk_X0_11 hA.k0 hA.r0_0 (g_at ck_X0_copy 4 rfl) rfl ?_
  refine tz_iconst (n := 10) (g_at ck_X0_copy 5 rfl) rfl ?_
  refine tz_aload0 (n := 11) (g_at ck_X0_copy 6 rfl) rfl (g_ne hA.k0) ?_
  refine tz_getAv (n := 14) (a := (q + 1)) fk_X0_11 hA.k0 hA.r0_0 (g_at ck_X0_copy 7 rfl) rfl ?_
  refine tz_alen (n := 15) hA.k1 (g_at ck_X0_copy 8 rfl) rfl ?_
  refine tz_acopyr (n := 18) cp_X0_31 hO.k1 hA.k1 (by omega) (g_at ck_X0_copy 9 rfl) rfl (by decide) (Nat.le_of_ble_eq_true rfl) hR (fun hR1 => ?_)
  refine tz_aload0 (n := 19) (g_at ck_X0_copy 10 rfl) rfl (g_ne hA.k0) ?_
  refine tz_aload1 (n := 20) (g_at ck_X0_copy 11 rfl) rfl (g_ne hO.k0) ?_
  refine tz_getIw (n := 23) (kz := 1) fk_X0_17 hO.k0 (g_at ck_X0_copy 12 rfl) rfl rfl ?_
  refine tz_putIr (n := 26) (kz := 1) fk_X0_17 hA.k0 (g_at ck_X0_copy 13 rfl) rfl hR1 ⟨(hR1 _ _).1, (hR1 _ _).2⟩ rfl (fun hR2 => ?_)
  refine tz_aload0 (n := 27) (g_at ck_X0_copy 14 rfl) rfl (g_ne hA.k0) ?_
  refine tz_aload1 (n := 28) (g_at ck_X0_copy 15 rfl) rfl (g_ne hO.k0) ?_
  refine tz_getIw (n := 31) (kz := 2) fk_X0_21 hO.k0 (g_at ck_X0_copy 16 rfl) rfl rfl ?_
  refine tz_putIr (n := 34) (kz := 2) fk_X0_21 hA.k0 (g_at ck_X0_copy 17 rfl) rfl hR2 ⟨(hR2 _ _).1, (hR2 _ _).2⟩ rfl (fun hR3 => ?_)
  exact tz_vret (g_at ck_X0_copy 18 rfl) rfl (rV_mk ⟨rfl, hR3, rfl⟩)
theorem sp_seenClear {l : Launch} {γ : Gh} {ρ m : Mm} {e : Int} (hE : isE ρ e) (hR : MR m) : gE l γ μX5_clear 0 0 0 (rV KK fun ρ9 m9 => ρ = ρ9 ∧ MR m9 ∧ wr m e 3 0 = m9) xN KK ρ m [vR e] := by
  refine gE.ofw cl_X5.2 ?_ rfl rfl (Nat.le_of_ble_eq_true rfl)
  show gT l γ μX5_clear 0 0 0 _ _ KK ρ m 0 [some (vR e)] []
  refine tz_aload0 (n := 1) (g_at ck_X5_clear 0 rfl) rfl (g_ne hE.k0) ?_
  refine tz_iconst (n := 2) (g_at ck_X5_clear 1 rfl) rfl ?_
  refine tz_putIr (n := 5) (kz := 3) fk_X5_21 hE.k0 (g_at ck_X5_clear 2 rfl) rfl hR ⟨(by decide), (by decide)⟩ rfl (fun hR1 => ?_)
  exact tz_vret (g_at ck_X5_clear 3 rfl) rfl (rV_mk ⟨rfl, hR1, rfl⟩)
theorem sp_seenCopy {l : Launch} {γ : Gh} {ρ m : Mm} {e o : Int} (hE : isE ρ e) (hO : isE ρ o) (hR : MR m) : gE l γ μX5_copy 2 0 0 (rV KK fun ρ9 m9 => ρ = ρ9 ∧ MR m9 ∧ wr (cpy (cpy (cpy m (o + 1) 0 (e + 1) 0 8) (o + 2) 0 (e + 2) 0 8) (o + 3) 0 (e + 3) 0 8) e 3 (cpy (cpy (cpy m (o + 1) 0 (e + 1) 0 8) (o + 2) 0 (e + 2) 0 8) (o + 3) 0 (e + 3) 0 8 o 3) = m9) xN KK ρ m [vR e, vR o] := by
  refine gE.ofw cl_X5.2 ?_ rfl rfl (Nat.le_of_ble_eq_true rfl)
  show gT l γ μX5_copy 2 0 0 _ _ KK ρ m 0 [some (vR e), some (vR o)] []
  refine tz_aload1 (n := 1) (g_at ck_X5_copy 0 rfl) rfl (g_ne hO.k0) ?_
  refine tz_getAv (n := 4) (a := (o + 1)) fk_X5_9 hO.k0 hO.r0_0 (g_at ck_X5_copy 1 rfl) rfl ?_
  refine tz_iconst (n := 5) (g_at ck_X5_copy 2 rfl) rfl ?_
  refine tz_aload0 (n := 6) (g_at ck_X5_copy 3 rfl) rfl (g_ne hE.k0) ?_
  refine tz_getAv (n := 9) (a := (e + 1)) fk_X5_9 hE.k0 hE.r0_0 (g_at ck_X5_copy 4 rfl) rfl ?_
  refine tz_iconst (n := 10) (g_at ck_X5_copy 5 rfl) rfl ?_
  refine tz_bipush (n := 12) (g_at ck_X5_copy 6 rfl) rfl rfl ?_
  refine tz_acopyr (n := 15) cp_X5_25 hO.k1 hE.k1 (by omega) (g_at ck_X5_copy 7 rfl) rfl (by decide) (Nat.le_of_ble_eq_true rfl) hR (fun hR1 => ?_)
  refine tz_aload1 (n := 16) (g_at ck_X5_copy 8 rfl) rfl (g_ne hO.k0) ?_
  refine tz_getAv (n := 19) (a := (o + 2)) fk_X5_15 hO.k0 hO.r0_1 (g_at ck_X5_copy 9 rfl) rfl ?_
  refine tz_iconst (n := 20) (g_at ck_X5_copy 10 rfl) rfl ?_
  refine tz_aload0 (n := 21) (g_at ck_X5_copy 11 rfl) rfl (g_ne hE.k0) ?_
  refine tz_getAv (n := 24) (a := (e + 2)) fk_X5_15 hE.k0 hE.r0_1 (g_at ck_X5_copy 12 rfl) rfl ?_
  refine tz_iconst (n := 25) (g_at ck_X5_copy 13 rfl) rfl ?_
  refine tz_bipush (n := 27) (g_at ck_X5_copy 14 rfl) rfl rfl ?_
  refine tz_acopyr (n := 30) cp_X5_25 hO.k2 hE.k2 (by omega) (g_at ck_X5_copy 15 rfl) rfl (by decide) (Nat.le_of_ble_eq_true rfl) hR1 (fun hR2 => ?_)
  refine tz_aload1 (n := 31) (g_at ck_X5_copy 16 rfl) rfl (g_ne hO.k0) ?_
  refine tz_getAv (n := 34) (a := (o + 3)) fk_X5_18 hO.k0 hO.r0_2 (g_at ck_X5_copy 17 rfl) rfl ?_
  refine tz_iconst (n := 35) (g_at ck_X5_copy 18 rfl) rfl ?_
  refine tz_aload0 (n := 36) (g_at ck_X5_copy 19 rfl) rfl (g_ne hE.k0) ?_
  refine tz_getAv (n := 39) (a := (e + 3)) fk_X5_18 hE.k0 hE.r0_2 (g_at ck_X5_copy 20 rfl) rfl ?_
  refine tz_iconst (n := 40) (g_at ck_X5_copy 21 rfl) rfl ?_
  refine tz_bipush (n := 42) (g_at ck_X5_copy 22 rfl) rfl rfl ?_
  refine tz_acopyr (n := 45) cp_X5_25 hO.k3 hE.k3 (by omega) (g_at ck_X5_copy 23 rfl) rfl (by decide) (Nat.le_of_ble_eq_true rfl) hR2 (fun hR3 => ?_)
  refine tz_aload0 (n := 46) (g_at ck_X5_copy 24 rfl) rfl (g_ne hE.k0) ?_
  refine tz_aload1 (n := 47) (g_at ck_X5_copy 25 rfl) rfl (g_ne hO.k0) ?_
  refine tz_getIw (n := 50) (kz := 3) fk_X5_21 hO.k0 (g_at ck_X5_copy 26 rfl) rfl rfl ?_
  refine tz_putIr (n := 53) (kz := 3) fk_X5_21 hE.k0 (g_at ck_X5_copy 27 rfl) rfl hR3 ⟨(hR3 _ _).1, (hR3 _ _).2⟩ rfl (fun hR4 => ?_)
  exact tz_vret (g_at ck_X5_copy 28 rfl) rfl (rV_mk ⟨rfl, hR4, rfl⟩)
theorem sp_next {l : Launch} {γ : Gh} {ρ m : Mm} {k : Int} (hR : MR m) (hk : 0 < k ∧ k < 2147483648) : gE l γ μX1_next 0 0 0 (rI KK fun x ρ9 m9 => ρ = ρ9 ∧ MR m9 ∧ bRem (bAnd (bUsh (drawN (m 80 0)) 16) 32767) k = x ∧ wr m 80 0 (drawN (m 80 0)) = m9) xN KK ρ m [vR 80, vI k] := by
  refine gE.ofw cl_X1.2 ?_ rfl rfl (Nat.le_of_ble_eq_true rfl)
  show gT l γ μX1_next 0 0 0 _ _ KK ρ m 0 [some (vR 80), some (vI k)] []
  refine tz_iload1 (n := 1) (g_at ck_X1_next 0 rfl) rfl ?_
  refine tz_if_gt (n := 4) (tgt := 6) (g_at ck_X1_next 1 rfl) rfl rfl ⟨(by omega), (by omega)⟩ (fun h1 => ?_) (fun h1 => absurd h1 (by omega))
  refine tz_aload0 (n := 7) (g_at ck_X1_next 4 rfl) rfl (g_ne kd_80) ?_
  refine tz_aload0 (n := 8) (g_at ck_X1_next 5 rfl) rfl (g_ne kd_80) ?_
  refine tz_getIw (n := 11) (kz := 0) fk_X1_7 kd_80 (g_at ck_X1_next 6 rfl) rfl rfl ?_
  refine tz_ldcI (n := 13) kn_X1_13 (g_at ck_X1_next 7 rfl) rfl ?_
  refine tz_imul (n := 14) (g_at ck_X1_next 8 rfl) rfl ?_
  refine tz_sipush (n := 17) (g_at ck_X1_next 9 rfl) rfl rfl ?_
  refine tz_iadd (n := 18) (g_at ck_X1_next 10 rfl) rfl ?_
  refine tz_wrap ?_
  refine tz_putIr (n := 21) (kz := 0) fk_X1_7 kd_80 (g_at ck_X1_next 11 rfl) rfl hR (w32_rg _) rfl (fun hR1 => ?_)
  refine tz_aload0 (n := 22) (g_at ck_X1_next 12 rfl) rfl (g_ne kd_80) ?_
  refine tz_getIw (n := 25) (kz := 0) fk_X1_7 kd_80 (g_at ck_X1_next 13 rfl) rfl rfl ?_
  refine tz_bipush (n := 27) (g_at ck_X1_next 14 rfl) rfl rfl ?_
  refine tz_iushr (n := 28) (g_at ck_X1_next 15 rfl) rfl ?_
  refine tz_sipush (n := 31) (g_at ck_X1_next 16 rfl) rfl rfl ?_
  refine tz_iand (n := 32) (g_at ck_X1_next 17 rfl) rfl ?_
  refine tz_iload1 (n := 33) (g_at ck_X1_next 18 rfl) rfl ?_
  refine tz_irem (n := 34) (g_at ck_X1_next 19 rfl) rfl (by omega) ?_
  exact tz_iret (g_at ck_X1_next 20 rfl) rfl (rI_mk ⟨rfl, hR1, by rw [wr_same]; rfl, rfl⟩)
