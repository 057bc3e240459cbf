/-! Texts: length, charAt, indexOf. -/
theorem sp_coder {l : Launch} {γ : Gh} {ρ m : Mm} {i9 : Nat} (hj9 : i9 < g_st.length) (hR : MR m) : gE l γ μJ0_coder_7d493 0 0 0 (rI KK fun x ρ9 m9 => ρ = ρ9 ∧ MR m9 ∧ 0 = x ∧ m = m9) xN KK ρ m [vR (sR i9)] := by
  refine gE.ofw cl_J0.2 ?_ rfl rfl (Nat.le_of_ble_eq_true rfl)
  show gT l γ μJ0_coder_7d493 0 0 0 _ _ KK ρ m 0 [some (vR (sR i9))] []
  refine tz_gcs (n := 3) sf_J0_38 (g_at ck_J0_coder_7d493 0 rfl) rfl ?_
  refine tz_if_eq (n := 6) (tgt := 13) (g_at ck_J0_coder_7d493 1 rfl) rfl rfl ⟨(by decide), (by decide)⟩ (fun h3 => absurd h3 (by omega)) (fun h3 => ?_)
  refine tz_aload0 (n := 7) (g_at ck_J0_coder_7d493 2 rfl) rfl sR_ne ?_
  refine tz_strCw (n := 10) hj9 sf_J0_15 (g_at ck_J0_coder_7d493 3 rfl) rfl ?_
  refine tz_goto (tgt := 14) (g_at ck_J0_coder_7d493 4 rfl) rfl ?_
  exact tz_yret0 (g_at ck_J0_coder_7d493 6 rfl) rfl (rI_mk ⟨rfl, hR, rfl, rfl⟩)
theorem sp_isLatin1 {l : Launch} {γ : Gh} {ρ m : Mm} {i9 : Nat} (hj9 : i9 < g_st.length) (hR : MR m) : gE l γ μJ0_isLatin1_aae02 0 0 0 (rI KK fun x ρ9 m9 => ρ = ρ9 ∧ MR m9 ∧ 1 = x ∧ m = m9) xN KK ρ m [vR (sR i9)] := by
  refine gE.ofw cl_J0.2 ?_ rfl rfl (Nat.le_of_ble_eq_true rfl)
  show gT l γ μJ0_isLatin1_aae02 0 0 0 _ _ KK ρ m 0 [some (vR (sR i9))] []
  refine tz_gcs (n := 3) sf_J0_38 (g_at ck_J0_isLatin1_aae02 0 rfl) rfl ?_
  refine tz_if_eq (n := 6) (tgt := 17) (g_at ck_J0_isLatin1_aae02 1 rfl) rfl rfl ⟨(by decide), (by decide)⟩ (fun h3 => absurd h3 (by omega)) (fun h3 => ?_)
  refine tz_aload0 (n := 7) (g_at ck_J0_isLatin1_aae02 2 rfl) rfl sR_ne ?_
  refine tz_strCw (n := 10) hj9 sf_J0_15 (g_at ck_J0_isLatin1_aae02 3 rfl) rfl ?_
  refine tz_if_ne (n := 13) (tgt := 17) (g_at ck_J0_isLatin1_aae02 4 rfl) rfl rfl ⟨(by decide), (by decide)⟩ (fun h10 => absurd h10 (by omega)) (fun h10 => ?_)
  refine tz_iconst (n := 14) (g_at ck_J0_isLatin1_aae02 5 rfl) rfl ?_
  refine tz_goto (tgt := 18) (g_at ck_J0_isLatin1_aae02 6 rfl) rfl ?_
  exact tz_bret (g_at ck_J0_isLatin1_aae02 8 rfl) rfl (by decide) (rI_mk ⟨rfl, hR, rfl, rfl⟩)
theorem bShr_0 {x : Int} (h : 0 ≤ x ∧ x < 2147483648) : bShr x 0 = x := by
  have := bShr_nn (a := x.toNat) (k := 0) (by omega) (by decide)
  rw [show ((x.toNat : Nat) : Int) = x by omega, Nat.shiftRight_zero, show ((x.toNat : Nat) : Int) = x by omega] at this
  exact this
theorem sp_strLen {l : Launch} {γ : Gh} {ρ m : Mm} {i9 : Nat} (hj9 : i9 < g_st.length) (hR : MR m) : gE l γ μJ0_length_8abf5 1 0 0 (rI KK fun x ρ9 m9 => ρ = ρ9 ∧ MR m9 ∧ sLen i9 = x ∧ m = m9) xN KK ρ m [vR (sR i9)] := by
  refine gE.ofw cl_J0.2 ?_ rfl rfl (Nat.le_of_ble_eq_true rfl)
  show gT l γ μJ0_length_8abf5 1 0 0 _ _ KK ρ m 0 [some (vR (sR i9))] []
  have hl9 := sLen_rg hj9
  refine tz_aload0 (n := 1) (g_at ck_J0_length_8abf5 0 rfl) rfl sR_ne ?_
  refine tz_strVw (n := 4) hj9 sf_J0_9 (g_at ck_J0_length_8abf5 1 rfl) rfl ?_
  refine tz_balen (n := 5) hj9 (g_at ck_J0_length_8abf5 2 rfl) rfl ?_
  refine tz_aload0 (n := 6) (g_at ck_J0_length_8abf5 3 rfl) rfl sR_ne ?_
  refine tz_cvS0 (n := 9) (μ' := μJ0_coder_7d493) (cb' := 0) (sb' := 0) (g_in (g_m4 (List.mem_of_getElem? (i := 11) rfl)) rfl) mo_J0_coder_7d493 mv_J0_coder_7d493 np_J0_coder_7d493 hj9 (g_at ck_J0_length_8abf5 4 rfl) (sp_coder (i9 := i9) hj9 hR) rfl rfl rfl ⟨by decide, by decide⟩ (Nat.le_of_ble_eq_true rfl) (by decide) (by decide) (fun x6 ρ9 m6 hq => ?_)
  obtain ⟨rfl, hR1, rfl, rfl⟩ := hq
  refine tz_ishr (n := 10) (g_at ck_J0_length_8abf5 5 rfl) rfl ?_
  rw [bShr_0 (by omega)]
  exact tz_iret (g_at ck_J0_length_8abf5 6 rfl) rfl (rI_mk ⟨rfl, hR1, rfl, rfl⟩)
theorem sp_chk3 {l : Launch} {γ : Gh} {ρ m : Mm} {a b r : Int} (hR : MR m) (ha : 0 ≤ a ∧ a < b ∧ b < 2147483648) : gE l γ μJ3_checkIndex_8e157 0 0 0 (rI KK fun x ρ9 m9 => ρ = ρ9 ∧ MR m9 ∧ a = x ∧ m = m9) xN KK ρ m [vI a, vI b, vR r] := by
  refine gE.ofw cl_J3.2 ?_ rfl rfl (Nat.le_of_ble_eq_true rfl)
  show gT l γ μJ3_checkIndex_8e157 0 0 0 _ _ KK ρ m 0 [some (vI a), some (vI b), some (vR r)] []
  refine tz_iload0 (n := 1) (g_at ck_J3_checkIndex_8e157 0 rfl) rfl ?_
  refine tz_if_lt (n := 4) (tgt := 9) (g_at ck_J3_checkIndex_8e157 1 rfl) rfl rfl ⟨(by omega), (by omega)⟩ (fun h1 => absurd h1 (by omega)) (fun h1 => ?_)
  refine tz_iload0 (n := 5) (g_at ck_J3_checkIndex_8e157 2 rfl) rfl ?_
  refine tz_iload1 (n := 6) (g_at ck_J3_checkIndex_8e157 3 rfl) rfl ?_
  refine tz_icmp_lt (n := 9) (tgt := 16) (g_at ck_J3_checkIndex_8e157 4 rfl) rfl rfl ⟨(by omega), (by omega), (by omega), (by omega)⟩ (fun h6 => ?_) (fun h6 => absurd h6 (by omega))
  refine tz_iload0 (n := 17) (g_at ck_J3_checkIndex_8e157 10 rfl) rfl ?_
  exact tz_iret (g_at ck_J3_checkIndex_8e157 11 rfl) rfl (rI_mk ⟨rfl, hR, rfl, rfl⟩)
theorem sp_chk2 {l : Launch} {γ : Gh} {ρ m : Mm} {a b : Int} (hR : MR m) (ha : 0 ≤ a ∧ a < b ∧ b < 2147483648) : gE l γ μJ0_checkIndex_df160 1 0 0 (rV KK fun ρ9 m9 => ρ = ρ9 ∧ MR m9 ∧ m = m9) xN KK ρ m [vI a, vI b] := by
  refine gE.ofw cl_J0.2 ?_ rfl rfl (Nat.le_of_ble_eq_true rfl)
  show gT l γ μJ0_checkIndex_df160 1 0 0 _ _ KK ρ m 0 [some (vI a), some (vI b)] []
  refine tz_iload0 (n := 1) (g_at ck_J0_checkIndex_df160 0 rfl) rfl ?_
  refine tz_iload1 (n := 2) (g_at ck_J0_checkIndex_df160 1 rfl) rfl ?_
  refine tz_gsf (n := 5) sf_J0_1053 (g_at ck_J0_checkIndex_df160 2 rfl) rfl ?_ ?_
  · skip
    refine tz_csI3 (n := 8) (μ' := μJ3_checkIndex_8e157) (cb' := 0) (sb' := 0) ml_J0_1059 mo_J3_checkIndex_8e157 ms_J3_checkIndex_8e157 np_J3_checkIndex_8e157 (g_at ck_J0_checkIndex_df160 3 rfl) (sp_chk3 hR (by omega)) rfl rfl ⟨by decide, by decide⟩ (Nat.le_of_ble_eq_true rfl) (by decide) (by decide) (fun x5 ρ9 m5 hq => ?_)
    obtain ⟨rfl, hR1, rfl, rfl⟩ := hq
    refine tz_popI (n := 9) (g_at ck_J0_checkIndex_df160 4 rfl) rfl ?_
    exact tz_vret (g_at ck_J0_checkIndex_df160 5 rfl) rfl (rV_mk ⟨rfl, hR1, rfl⟩)
  · skip
    refine tz_csI3 (n := 8) (μ' := μJ3_checkIndex_8e157) (cb' := 0) (sb' := 0) ml_J0_1059 mo_J3_checkIndex_8e157 ms_J3_checkIndex_8e157 np_J3_checkIndex_8e157 (g_at ck_J0_checkIndex_df160 3 rfl) (sp_chk3 hR (by omega)) rfl rfl ⟨by decide, by decide⟩ (Nat.le_of_ble_eq_true rfl) (by decide) (by decide) (fun x5 ρ9 m5 hq => ?_)
    obtain ⟨rfl, hR2, rfl, rfl⟩ := hq
    refine tz_popI (n := 9) (g_at ck_J0_checkIndex_df160 4 rfl) rfl ?_
    exact tz_vret (g_at ck_J0_checkIndex_df160 5 rfl) rfl (rV_mk ⟨rfl, hR2, rfl⟩)
theorem b2c_s : ∀ k : Nat, k < 128 → b2c (bAnd (k : Int) 255) = (k : Int) := by decide +kernel
theorem b2b_s : ∀ k : Nat, k < 256 → (-128 ≤ b2b (k : Int) ∧ b2b (k : Int) < 128) ∧ (k < 128 → b2b (k : Int) = (k : Int)) ∧ (128 ≤ k → b2b (k : Int) < 0) := by decide +kernel
theorem sp_lchar {l : Launch} {γ : Gh} {ρ m : Mm} {j : Int} {i9 : Nat} (hj9 : i9 < g_st.length) (hR : MR m) (hj : 0 ≤ j ∧ j < sLen i9) : gE l γ μJ1_charAt_3b067 2 0 0 (rI KK fun x ρ9 m9 => ρ = ρ9 ∧ MR m9 ∧ sCh i9 j = x ∧ m = m9) xN KK ρ m [vR (sV i9), vI j] := by
  refine gE.ofw cl_J1.2 ?_ rfl rfl (Nat.le_of_ble_eq_true rfl)
  show gT l γ μJ1_charAt_3b067 2 0 0 _ _ KK ρ m 0 [some (vR (sV i9)), some (vI j)] []
  have hl9 := sLen_rg hj9
  have hc9 := sCh_rg hj9 hj
  refine tz_iload1 (n := 1) (g_at ck_J1_charAt_3b067 0 rfl) rfl ?_
  refine tz_aload0 (n := 2) (g_at ck_J1_charAt_3b067 1 rfl) rfl sV_ne ?_
  refine tz_balen (n := 3) hj9 (g_at ck_J1_charAt_3b067 2 rfl) rfl ?_
  refine tz_csV2 (n := 6) (μ' := μJ0_checkIndex_df160) (cb' := 0) (sb' := 0) ml_J1_9 mo_J0_checkIndex_df160 ms_J0_checkIndex_df160 np_J0_checkIndex_df160 (g_at ck_J1_charAt_3b067 3 rfl) (sp_chk2 hR (by omega)) rfl rfl ⟨by decide, by decide⟩ (Nat.le_of_ble_eq_true rfl) (by decide) (by decide) (fun ρ9 m3 hq => ?_)
  obtain ⟨rfl, hR1, rfl⟩ := hq
  refine tz_aload0 (n := 7) (g_at ck_J1_charAt_3b067 4 rfl) rfl sV_ne ?_
  refine tz_iload1 (n := 8) (g_at ck_J1_charAt_3b067 5 rfl) rfl ?_
  refine tz_bald (n := 9) hj9 (by omega) (g_at ck_J1_charAt_3b067 6 rfl) rfl ?_
  refine tz_sipush (n := 12) (g_at ck_J1_charAt_3b067 7 rfl) rfl rfl ?_
  refine tz_iand (n := 13) (g_at ck_J1_charAt_3b067 8 rfl) rfl ?_
  refine tz_i2c (n := 14) (g_at ck_J1_charAt_3b067 9 rfl) rfl ?_
  rw [show b2c (bAnd (sCh i9 j) 255) = sCh i9 j by have h8 := b2c_s (sCh i9 j).toNat (by omega); rw [show (((sCh i9 j).toNat : Nat) : Int) = sCh i9 j by omega] at h8; exact h8]
  exact tz_cret (g_at ck_J1_charAt_3b067 10 rfl) rfl (by omega) (rI_mk ⟨rfl, hR1, rfl, rfl⟩)
theorem sp_charAt {l : Launch} {γ : Gh} {ρ m : Mm} {j : Int} {i9 : Nat} (hj9 : i9 < g_st.length) (hR : MR m) (hj : 0 ≤ j ∧ j < sLen i9) : gE l γ μJ0_charAt_5068e 3 0 0 (rI KK fun x ρ9 m9 => ρ = ρ9 ∧ MR m9 ∧ sCh i9 j = x ∧ m = m9) xN KK ρ m [vR (sR i9), vI j] := by
  refine gE.ofw cl_J0.2 ?_ rfl rfl (Nat.le_of_ble_eq_true rfl)
  show gT l γ μJ0_charAt_5068e 3 0 0 _ _ KK ρ m 0 [some (vR (sR i9)), some (vI j)] []
  have hl9 := sLen_rg hj9
  have hc9 := sCh_rg hj9 hj
  refine tz_aload0 (n := 1) (g_at ck_J0_charAt_5068e 0 rfl) rfl sR_ne ?_
  refine tz_cvS0 (n := 4) (μ' := μJ0_isLatin1_aae02) (cb' := 0) (sb' := 0) (g_in (g_m4 (List.mem_of_getElem? (i := 1) rfl)) rfl) mo_J0_isLatin1_aae02 mv_J0_isLatin1_aae02 np_J0_isLatin1_aae02 hj9 (g_at ck_J0_charAt_5068e 1 rfl) (sp_isLatin1 (i9 := i9) hj9 hR) rfl rfl rfl ⟨by decide, by decide⟩ (Nat.le_of_ble_eq_true rfl) (by decide) (by decide) (fun x1 ρ9 m1 hq => ?_)
  obtain ⟨rfl, hR1, rfl, rfl⟩ := hq
  refine tz_if_eq (n := 7) (tgt := 16) (g_at ck_J0_charAt_5068e 2 rfl) rfl rfl ⟨(by decide), (by decide)⟩ (fun h4 => absurd h4 (by omega)) (fun h4 => ?_)
  refine tz_aload0 (n := 8) (g_at ck_J0_charAt_5068e 3 rfl) rfl sR_ne ?_
  refine tz_strVw (n := 11) hj9 sf_J0_9 (g_at ck_J0_charAt_5068e 4 rfl) rfl ?_
  refine tz_iload1 (n := 12) (g_at ck_J0_charAt_5068e 5 rfl) rfl ?_
  refine tz_csI2 (n := 15) (μ' := μJ1_charAt_3b067) (cb' := 0) (sb' := 0) ml_J0_495 mo_J1_charAt_3b067 ms_J1_charAt_3b067 np_J1_charAt_3b067 (g_at ck_J0_charAt_5068e 6 rfl) (sp_lchar (i9 := i9) hj9 hR1 (by omega)) rfl rfl ⟨by decide, by decide⟩ (Nat.le_of_ble_eq_true rfl) (by decide) (by decide) (fun x12 ρ9 m12 hq => ?_)
  obtain ⟨rfl, hR2, rfl, rfl⟩ := hq
  exact tz_cret (g_at ck_J0_charAt_5068e 7 rfl) rfl (by omega) (rI_mk ⟨rfl, hR2, rfl, rfl⟩)
/-- whether text i has the byte c -/
def hasC (i : Nat) (c : Int) (n : Nat) : Int := if ∃ j : Nat, j < n ∧ sCh i (j : Int) = c then 1 else 0
theorem sp_canEnc {l : Launch} {γ : Gh} {ρ m : Mm} {c : Int} (hR : MR m) (hc : 0 ≤ c ∧ c < 256) : gE l γ μJ1_canEncode_9a6ad 0 0 0 (rI KK fun x ρ9 m9 => ρ = ρ9 ∧ MR m9 ∧ 1 = x ∧ m = m9) xN KK ρ m [vI c] := by
  refine gE.ofw cl_J1.2 ?_ rfl rfl (Nat.le_of_ble_eq_true rfl)
  show gT l γ μJ1_canEncode_9a6ad 0 0 0 _ _ KK ρ m 0 [some (vI c)] []
  refine tz_iload0 (n := 1) (g_at ck_J1_canEncode_9a6ad 0 rfl) rfl ?_
  refine tz_if_lt (n := 4) (tgt := 15) (g_at ck_J1_canEncode_9a6ad 1 rfl) rfl rfl ⟨(by omega), (by omega)⟩ (fun h1 => absurd h1 (by omega)) (fun h1 => ?_)
  refine tz_iload0 (n := 5) (g_at ck_J1_canEncode_9a6ad 2 rfl) rfl ?_
  refine tz_sipush (n := 8) (g_at ck_J1_canEncode_9a6ad 3 rfl) rfl rfl ?_
  refine tz_icmp_gt (n := 11) (tgt := 15) (g_at ck_J1_canEncode_9a6ad 4 rfl) rfl rfl ⟨(by omega), (by omega), (by decide), (by decide)⟩ (fun h8 => absurd h8 (by omega)) (fun h8 => ?_)
  refine tz_iconst (n := 12) (g_at ck_J1_canEncode_9a6ad 5 rfl) rfl ?_
  refine tz_goto (tgt := 16) (g_at ck_J1_canEncode_9a6ad 6 rfl) rfl ?_
  exact tz_bret (g_at ck_J1_canEncode_9a6ad 8 rfl) rfl (by decide) (rI_mk ⟨rfl, hR, rfl, rfl⟩)
theorem sp_ixChar {l : Launch} {γ : Gh} {ρ m : Mm} {c : Int} {i9 : Nat} (hj9 : i9 < g_st.length) (hR : MR m) (hc : 0 ≤ c ∧ c < 256) : gE l γ μJ1_indexOfChar_4cfef 0 0 0 (rI KK fun x ρ9 m9 => ρ = ρ9 ∧ MR m9 ∧ ((x = -1 ∧ ∀ j : Nat, (j : Int) < sLen i9 → sCh i9 (j : Int) ≠ c) ∨ (0 ≤ x ∧ x < sLen i9 ∧ sCh i9 x = c)) ∧ m = m9) xN KK ρ m [vR (sV i9), vI c, vI 0, vI (sLen i9)] := by
  refine gE.ofw cl_J1.2 ?_ rfl rfl (Nat.le_of_ble_eq_true rfl)
  show gT l γ μJ1_indexOfChar_4cfef 0 0 0 _ _ KK ρ m 0 [some (vR (sV i9)), some (vI c), some (vI 0), some (vI (sLen i9)), none, none] []
  have hl9 := sLen_rg hj9
  have hb9 := b2b_s c.toNat (by omega)
  rw [show ((c.toNat : Nat) : Int) = c by omega] at hb9
  refine tz_iload1 (n := 1) (g_at ck_J1_indexOfChar_4cfef 0 rfl) rfl ?_
  refine tz_i2b (n := 2) (g_at ck_J1_indexOfChar_4cfef 1 rfl) rfl ?_
  refine tz_istore4 (n := 4) (g_at ck_J1_indexOfChar_4cfef 2 rfl) rfl (by decide) g_hpI ?_
  refine tz_iload2 (n := 5) (g_at ck_J1_indexOfChar_4cfef 3 rfl) rfl ?_
  refine tz_istore5 (n := 7) (g_at ck_J1_indexOfChar_4cfef 4 rfl) rfl (by decide) g_hpI ?_
  refine g_for (fun i : Nat => (∀ j : Nat, j < i → sCh i9 (j : Int) ≠ c) → gT l γ μJ1_indexOfChar_4cfef 0 0 0 _ _ KK ρ m 7 [some (vR (sV i9)), some (vI c), some (vI 0), some (vI (sLen i9)), some (vI (b2b c)), some (vI (i : Int))] []) (sLen i9).toNat ?_ (fun i hi ihi => ?_) 0 (Nat.zero_le _) (fun j hj => absurd hj (Nat.not_lt_zero j))
  · intro hinv
    refine tz_iload5 (n := 9) (g_at ck_J1_indexOfChar_4cfef 5 rfl) rfl ?_
    refine tz_iload3 (n := 10) (g_at ck_J1_indexOfChar_4cfef 6 rfl) rfl ?_
    refine tz_icmp_ge (n := 13) (tgt := 31) (g_at ck_J1_indexOfChar_4cfef 7 rfl) rfl rfl ⟨(by omega), (by omega), (by omega), (by omega)⟩ (fun h10 => ?_) (fun h10 => absurd h10 (by omega))
    refine tz_iconst (n := 32) (g_at ck_J1_indexOfChar_4cfef 17 rfl) rfl ?_
    exact tz_iret (g_at ck_J1_indexOfChar_4cfef 18 rfl) rfl (rI_mk ⟨rfl, hR, Or.inl ⟨rfl, fun j hj => hinv j (by omega)⟩, rfl⟩)
  · intro hinv
    have hs9 := sCh_rg hj9 (j := (i : Int)) (by omega)
    refine tz_iload5 (n := 9) (g_at ck_J1_indexOfChar_4cfef 5 rfl) rfl ?_
    refine tz_iload3 (n := 10) (g_at ck_J1_indexOfChar_4cfef 6 rfl) rfl ?_
    refine tz_icmp_ge (n := 13) (tgt := 31) (g_at ck_J1_indexOfChar_4cfef 7 rfl) rfl rfl ⟨(by omega), (by omega), (by omega), (by omega)⟩ (fun h10 => absurd h10 (by omega)) (fun h10 => ?_)
    refine tz_aload0 (n := 14) (g_at ck_J1_indexOfChar_4cfef 8 rfl) rfl sV_ne ?_
    refine tz_iload5 (n := 16) (g_at ck_J1_indexOfChar_4cfef 9 rfl) rfl ?_
    refine tz_bald (n := 17) hj9 (by omega) (g_at ck_J1_indexOfChar_4cfef 10 rfl) rfl ?_
    refine tz_iload4 (n := 19) (g_at ck_J1_indexOfChar_4cfef 11 rfl) rfl ?_
    refine tz_icmp_ne (n := 22) (tgt := 25) (g_at ck_J1_indexOfChar_4cfef 12 rfl) rfl rfl ⟨by omega, by omega, by omega, by omega⟩ (fun h19 => ?_) (fun h19 => ?_)
    · skip
      refine tz_iinc5 (n := 28) (g_at ck_J1_indexOfChar_4cfef 15 rfl) rfl (by decide) g_hpI ?_
      refine tz_goto (tgt := 7) (g_at ck_J1_indexOfChar_4cfef 16 rfl) rfl ?_
      exact ihi (no_step hinv (fun h9 => h19 (by omega)))
    · skip
      refine tz_iload5 (n := 24) (g_at ck_J1_indexOfChar_4cfef 13 rfl) rfl ?_
      exact tz_iret (g_at ck_J1_indexOfChar_4cfef 14 rfl) rfl (rI_mk ⟨rfl, hR, Or.inr ⟨by omega, by omega, by omega⟩, rfl⟩)
theorem sp_ix4 {l : Launch} {γ : Gh} {ρ m : Mm} {c : Int} {i9 : Nat} (hj9 : i9 < g_st.length) (hR : MR m) (hc : 0 ≤ c ∧ c < 256) : gE l γ μJ1_indexOf_4cfef 2 0 0 (rI KK fun x ρ9 m9 => ρ = ρ9 ∧ MR m9 ∧ ((x = -1 ∧ ∀ j : Nat, (j : Int) < sLen i9 → sCh i9 (j : Int) ≠ c) ∨ (0 ≤ x ∧ x < sLen i9 ∧ sCh i9 x = c)) ∧ m = m9) xN KK ρ m [vR (sV i9), vI c, vI 0, vI (sLen i9)] := by
  refine gE.ofw cl_J1.2 ?_ rfl rfl (Nat.le_of_ble_eq_true rfl)
  show gT l γ μJ1_indexOf_4cfef 2 0 0 _ _ KK ρ m 0 [some (vR (sV i9)), some (vI c), some (vI 0), some (vI (sLen i9))] []
  have hl9 := sLen_rg hj9
  refine tz_iload1 (n := 1) (g_at ck_J1_indexOf_4cfef 0 rfl) rfl ?_
  refine tz_csI1 (n := 4) (μ' := μJ1_canEncode_9a6ad) (cb' := 0) (sb' := 0) ml_J1_88 mo_J1_canEncode_9a6ad ms_J1_canEncode_9a6ad np_J1_canEncode_9a6ad (g_at ck_J1_indexOf_4cfef 1 rfl) (sp_canEnc hR (by omega)) rfl rfl ⟨by decide, by decide⟩ (Nat.le_of_ble_eq_true rfl) (by decide) (by decide) (fun x1 ρ9 m1 hq => ?_)
  obtain ⟨rfl, hR1, rfl, rfl⟩ := hq
  refine tz_if_ne (n := 7) (tgt := 9) (g_at ck_J1_indexOf_4cfef 2 rfl) rfl rfl ⟨(by decide), (by decide)⟩ (fun h4 => ?_) (fun h4 => absurd h4 (by omega))
  refine tz_iload2 (n := 10) (g_at ck_J1_indexOf_4cfef 5 rfl) rfl ?_
  refine tz_iconst (n := 11) (g_at ck_J1_indexOf_4cfef 6 rfl) rfl ?_
  refine tz_mmax (n := 14) mm_J1_92 mmax_1 mm_i mmax_2 (by decide) (g_at ck_J1_indexOf_4cfef 7 rfl) rfl (by decide) (Nat.le_of_ble_eq_true rfl) ?_
  rw [if_neg (show ¬ (0 : Int) < 0 by decide)]
  refine tz_istore2 (n := 15) (g_at ck_J1_indexOf_4cfef 8 rfl) rfl (by decide) g_hpI ?_
  refine tz_iload3 (n := 16) (g_at ck_J1_indexOf_4cfef 9 rfl) rfl ?_
  refine tz_aload0 (n := 17) (g_at ck_J1_indexOf_4cfef 10 rfl) rfl sV_ne ?_
  refine tz_balen (n := 18) hj9 (g_at ck_J1_indexOf_4cfef 11 rfl) rfl ?_
  refine tz_mmin (n := 21) mm_J1_38 mmin_1 mm_i mmin_2 ⟨(by omega), (by omega), (by omega), (by omega)⟩ (g_at ck_J1_indexOf_4cfef 12 rfl) rfl (by decide) (Nat.le_of_ble_eq_true rfl) ?_
  rw [if_neg (Int.lt_irrefl _)]
  refine tz_istore3 (n := 22) (g_at ck_J1_indexOf_4cfef 13 rfl) rfl (by decide) g_hpI ?_
  refine tz_iload2 (n := 23) (g_at ck_J1_indexOf_4cfef 14 rfl) rfl ?_
  refine tz_iload3 (n := 24) (g_at ck_J1_indexOf_4cfef 15 rfl) rfl ?_
  refine tz_icmp_lt (n := 27) (tgt := 29) (g_at ck_J1_indexOf_4cfef 16 rfl) rfl rfl ⟨by decide, by decide, by omega, by omega⟩ (fun h24 => ?_) (fun h24 => ?_)
  · skip
    refine tz_aload0 (n := 30) (g_at ck_J1_indexOf_4cfef 19 rfl) rfl sV_ne ?_
    refine tz_iload1 (n := 31) (g_at ck_J1_indexOf_4cfef 20 rfl) rfl ?_
    refine tz_iload2 (n := 32) (g_at ck_J1_indexOf_4cfef 21 rfl) rfl ?_
    refine tz_iload3 (n := 33) (g_at ck_J1_indexOf_4cfef 22 rfl) rfl ?_
    refine tz_csI4 (n := 36) (μ' := μJ1_indexOfChar_4cfef) (cb' := 0) (sb' := 0) ml_J1_95 mo_J1_indexOfChar_4cfef ms_J1_indexOfChar_4cfef np_J1_indexOfChar_4cfef (g_at ck_J1_indexOf_4cfef 23 rfl) (sp_ixChar (i9 := i9) hj9 hR1 (by omega)) rfl rfl ⟨by decide, by decide⟩ (Nat.le_of_ble_eq_true rfl) (by decide) (by decide) (fun x33 ρ9 m33 hq => ?_)
    obtain ⟨rfl, hR2, hx33, rfl⟩ := hq
    exact tz_iret (g_at ck_J1_indexOf_4cfef 24 rfl) rfl (rI_mk ⟨rfl, hR2, hx33, rfl⟩)
  · skip
    refine tz_iconst (n := 28) (g_at ck_J1_indexOf_4cfef 17 rfl) rfl ?_
    exact tz_iret (g_at ck_J1_indexOf_4cfef 18 rfl) rfl (rI_mk ⟨rfl, hR1, Or.inl ⟨rfl, fun j hj => absurd hj (by omega)⟩, rfl⟩)
theorem sp_ix2 {l : Launch} {γ : Gh} {ρ m : Mm} {c : Int} {i9 : Nat} (hj9 : i9 < g_st.length) (hR : MR m) (hc : 0 ≤ c ∧ c < 256) : gE l γ μJ0_indexOf_7cf53 3 0 0 (rI KK fun x ρ9 m9 => ρ = ρ9 ∧ MR m9 ∧ ((x = -1 ∧ ∀ j : Nat, (j : Int) < sLen i9 → sCh i9 (j : Int) ≠ c) ∨ (0 ≤ x ∧ x < sLen i9 ∧ sCh i9 x = c)) ∧ m = m9) xN KK ρ m [vR (sR i9), vI c, vI 0] := by
  refine gE.ofw cl_J0.2 ?_ rfl rfl (Nat.le_of_ble_eq_true rfl)
  show gT l γ μJ0_indexOf_7cf53 3 0 0 _ _ KK ρ m 0 [some (vR (sR i9)), some (vI c), some (vI 0)] []
  have hl9 := sLen_rg hj9
  refine tz_aload0 (n := 1) (g_at ck_J0_indexOf_7cf53 0 rfl) rfl sR_ne ?_
  refine tz_cvS0 (n := 4) (μ' := μJ0_isLatin1_aae02) (cb' := 0) (sb' := 0) (g_in (g_m4 (List.mem_of_getElem? (i := 1) rfl)) rfl) mo_J0_isLatin1_aae02 mv_J0_isLatin1_aae02 np_J0_isLatin1_aae02 hj9 (g_at ck_J0_indexOf_7cf53 1 rfl) (sp_isLatin1 (i9 := i9) hj9 hR) rfl rfl rfl ⟨by decide, by decide⟩ (Nat.le_of_ble_eq_true rfl) (by decide) (by decide) (fun x1 ρ9 m1 hq => ?_)
  obtain ⟨rfl, hR1, rfl, rfl⟩ := hq
  refine tz_if_eq (n := 7) (tgt := 23) (g_at ck_J0_indexOf_7cf53 2 rfl) rfl rfl ⟨(by decide), (by decide)⟩ (fun h4 => absurd h4 (by omega)) (fun h4 => ?_)
  refine tz_aload0 (n := 8) (g_at ck_J0_indexOf_7cf53 3 rfl) rfl sR_ne ?_
  refine tz_strVw (n := 11) hj9 sf_J0_9 (g_at ck_J0_indexOf_7cf53 4 rfl) rfl ?_
  refine tz_iload1 (n := 12) (g_at ck_J0_indexOf_7cf53 5 rfl) rfl ?_
  refine tz_iload2 (n := 13) (g_at ck_J0_indexOf_7cf53 6 rfl) rfl ?_
  refine tz_aload0 (n := 14) (g_at ck_J0_indexOf_7cf53 7 rfl) rfl sR_ne ?_
  refine tz_cvS0 (n := 17) (μ' := μJ0_length_8abf5) (cb' := 0) (sb' := 0) (g_in (g_m4 (List.mem_of_getElem? (i := 7) rfl)) rfl) mo_J0_length_8abf5 mv_J0_length_8abf5 np_J0_length_8abf5 hj9 (g_at ck_J0_indexOf_7cf53 8 rfl) (sp_strLen (i9 := i9) hj9 hR1) rfl rfl rfl ⟨by decide, by decide⟩ (Nat.le_of_ble_eq_true rfl) (by decide) (by decide) (fun x14 ρ9 m14 hq => ?_)
  obtain ⟨rfl, hR2, rfl, rfl⟩ := hq
  refine tz_csI4 (n := 20) (μ' := μJ1_indexOf_4cfef) (cb' := 0) (sb' := 0) ml_J0_637 mo_J1_indexOf_4cfef ms_J1_indexOf_4cfef np_J1_indexOf_4cfef (g_at ck_J0_indexOf_7cf53 9 rfl) (sp_ix4 (i9 := i9) hj9 hR2 (by omega)) rfl rfl ⟨by decide, by decide⟩ (Nat.le_of_ble_eq_true rfl) (by decide) (by decide) (fun x17 ρ9 m17 hq => ?_)
  obtain ⟨rfl, hR3, hx17, rfl⟩ := hq
  refine tz_goto (tgt := 36) (g_at ck_J0_indexOf_7cf53 10 rfl) rfl ?_
  exact tz_iret (g_at ck_J0_indexOf_7cf53 18 rfl) rfl (rI_mk ⟨rfl, hR3, hx17, rfl⟩)
theorem sp_indexOf {l : Launch} {γ : Gh} {ρ m : Mm} {c : Int} {i9 : Nat} (hj9 : i9 < g_st.length) (hR : MR m) (hc : 0 ≤ c ∧ c < 256) : gE l γ μJ0_indexOf_0f7a4 4 0 0 (rI KK fun x ρ9 m9 => ρ = ρ9 ∧ MR m9 ∧ ((x = -1 ∧ ∀ j : Nat, (j : Int) < sLen i9 → sCh i9 (j : Int) ≠ c) ∨ (0 ≤ x ∧ x < sLen i9 ∧ sCh i9 x = c)) ∧ m = m9) xN KK ρ m [vR (sR i9), vI c] := by
  refine gE.ofw cl_J0.2 ?_ rfl rfl (Nat.le_of_ble_eq_true rfl)
  show gT l γ μJ0_indexOf_0f7a4 4 0 0 _ _ KK ρ m 0 [some (vR (sR i9)), some (vI c)] []
  have hl9 := sLen_rg hj9
  refine tz_aload0 (n := 1) (g_at ck_J0_indexOf_0f7a4 0 rfl) rfl sR_ne ?_
  refine tz_iload1 (n := 2) (g_at ck_J0_indexOf_0f7a4 1 rfl) rfl ?_
  refine tz_iconst (n := 3) (g_at ck_J0_indexOf_0f7a4 2 rfl) rfl ?_
  refine tz_cvS2 (n := 6) (μ' := μJ0_indexOf_7cf53) (cb' := 0) (sb' := 0) (g_in (g_m3 (List.mem_of_getElem? (i := 237) rfl)) rfl) mo_J0_indexOf_7cf53 mv_J0_indexOf_7cf53 np_J0_indexOf_7cf53 hj9 (g_at ck_J0_indexOf_0f7a4 3 rfl) (sp_ix2 (i9 := i9) hj9 hR (by omega)) rfl rfl rfl ⟨by decide, by decide⟩ (Nat.le_of_ble_eq_true rfl) (by decide) (by decide) (fun x3 ρ9 m3 hq => ?_)
  obtain ⟨rfl, hR1, hx3, rfl⟩ := hq
  exact tz_iret (g_at ck_J0_indexOf_0f7a4 4 rfl) rfl (rI_mk ⟨rfl, hR1, hx3, rfl⟩)
