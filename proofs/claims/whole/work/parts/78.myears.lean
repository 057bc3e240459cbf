/-! The reference: years. -/
theorem msk15 : ∀ i : Nat, i < 32 → 15 ≤ i → (Int32.ofInt 32767).toBitVec.getLsbD i = false := by decide
theorem ush_shr (x : Int) : bAnd (bShr x 16) 32767 = bAnd (bUsh x 16) 32767 := by
  show (Int32.ofInt ((Int32.ofInt x >>> (Int32.ofInt 16 &&& 31)).toInt) &&& Int32.ofInt 32767).toInt = (Int32.ofInt (((Int32.ofInt x).toUInt32 >>> ((Int32.ofInt 16).toUInt32 &&& Int32.toUInt32 31)).toInt32.toInt) &&& Int32.ofInt 32767).toInt
  rw [Int32.ofInt_toInt, Int32.ofInt_toInt]
  generalize Int32.ofInt x = a
  have e : (a >>> (Int32.ofInt 16 &&& 31)) &&& Int32.ofInt 32767 = (a.toUInt32 >>> ((Int32.ofInt 16).toUInt32 &&& Int32.toUInt32 31)).toInt32 &&& Int32.ofInt 32767 := by
    apply Int32.toBitVec_inj.mp
    rw [Int32.toBitVec_and, Int32.toBitVec_and, Int32.toBitVec_shiftRight]
    have e1 : (a.toUInt32 >>> ((Int32.ofInt 16).toUInt32 &&& Int32.toUInt32 31)).toInt32.toBitVec = a.toBitVec >>> 16 := rfl
    have e2 : BitVec.sshiftRight' a.toBitVec ((Int32.ofInt 16 &&& 31).toBitVec.smod 32) = a.toBitVec.sshiftRight 16 := rfl
    rw [e1, e2]
    apply BitVec.eq_of_getLsbD_eq
    intro i hi
    by_cases h : 15 ≤ i
    · simp only [BitVec.getLsbD_and, msk15 i hi h, Bool.and_false]
    · simp only [BitVec.getLsbD_and, BitVec.getLsbD_sshiftRight, BitVec.getLsbD_ushiftRight]
      have h1 : decide (32 ≤ i) = false := by simp only [decide_eq_false_iff_not]; omega
      have h2 : 16 + i < 32 := by omega
      simp only [h1, h2, Bool.not_false, Bool.true_and, if_true]
  rw [e]
theorem mp_draw {l : Launch} {γ : Gh} {ρ m : Mm} {k v : Int} (hR : MR m) (hk : 0 < k ∧ k < 2147483648) (hx : m 84 62 = v) : gE l γ μX11_draw 0 0 0 (rI KK fun x ρ9 m9 => ρ = ρ9 ∧ MR m9 ∧ drV v k = x ∧ wr m 84 62 (dr1 v) = m9) xN KK ρ m [vR 84, vI k] := by
  refine gE.ofw cl_X11.2 ?_ rfl rfl (Nat.le_of_ble_eq_true rfl)
  show gT l γ μX11_draw 0 0 0 _ _ KK ρ m 0 [some (vR 84), some (vI k)] []
  refine tz_aload0 (n := 1) (g_at ck_X11_draw 0 rfl) rfl (g_ne kd_84) ?_
  refine tz_aload0 (n := 2) (g_at ck_X11_draw 1 rfl) rfl (g_ne kd_84) ?_
  refine tz_getIw (n := 5) (kz := 62) fk_X11_478 kd_84 (g_at ck_X11_draw 2 rfl) rfl rfl ?_
  rw [hx]
  refine tz_ldcwI (n := 8) kn_X11_481 (g_at ck_X11_draw 3 rfl) rfl ?_
  refine tz_imul (n := 9) (g_at ck_X11_draw 4 rfl) rfl ?_
  refine tz_sipush (n := 12) (g_at ck_X11_draw 5 rfl) rfl rfl ?_
  refine tz_iadd (n := 13) (g_at ck_X11_draw 6 rfl) rfl ?_
  rw [show Int32.toInt 1103515245 = 1103515245 from rfl]
  refine tz_wrap ?_
  refine tz_putIr (n := 16) (kz := 62) fk_X11_478 kd_84 (g_at ck_X11_draw 7 rfl) rfl hR (w32_rg _) rfl (fun hR1 => ?_)
  refine tz_aload0 (n := 17) (g_at ck_X11_draw 8 rfl) rfl (g_ne kd_84) ?_
  refine tz_getIw (n := 20) (kz := 62) fk_X11_478 kd_84 (g_at ck_X11_draw 9 rfl) rfl rfl ?_
  rw [wr_same]
  refine tz_bipush (n := 22) (g_at ck_X11_draw 10 rfl) rfl rfl ?_
  refine tz_ishr (n := 23) (g_at ck_X11_draw 11 rfl) rfl ?_
  refine tz_sipush (n := 26) (g_at ck_X11_draw 12 rfl) rfl rfl ?_
  refine tz_iand (n := 27) (g_at ck_X11_draw 13 rfl) rfl ?_
  refine tz_iload1 (n := 28) (g_at ck_X11_draw 14 rfl) rfl ?_
  rw [show w32 (v * 1103515245 + 12345) = dr1 v from rfl, ush_shr]
  refine tz_irem (n := 29) (g_at ck_X11_draw 15 rfl) rfl (by omega) ?_
  rw [bRem_nn (by have := bAnd_15 (bUsh (dr1 v) 16); omega) (by omega)]
  exact tz_iret (g_at ck_X11_draw 16 rfl) rfl (rI_mk ⟨rfl, hR1, rfl, rfl⟩)
