/-! shire. -/
def cdS (n f : Int) : Int := if 0 ≤ n ∧ n ≤ f then 0 else 2
theorem cdS_0 {n f : Int} (h : cdS n f = 0) : 0 ≤ n ∧ n ≤ f := by
  unfold cdS at h
  split at h
  · assumption
  · exact absurd h (by decide)
def shOK (m : Mm) (sp : Int) : Mm := wr (wr (wr (wr (wr (momcp m (sp + 12) 39) 44 1 0) 44 2 0) 46 3 0) 1 9 0) 1 2 (-1)
def shNo (m : Mm) : Mm := wr (wr m 1 2 (m 37 5)) 61 0 (m 61 0 + 1)
theorem sp_shire {l : Launch} {γ : Gh} {ρ m : Mm} {n : Int} (hn : -2147483648 ≤ n ∧ n < 2147483648) {ld sp : Int} {t : Int → Int} {Q : Int → List Int} (hL : LY ρ) (hLn : ρ 1 3 = ld) (hSp : ρ 1 4 = sp) (hld : ld = 3 ∨ ld = 20) (hsp : sp = 3 ∨ sp = 20) (hR : MR m) (hB : BY t) (hf : 0 ≤ m 1 1 ∧ m 1 1 ≤ 700) (hT : TpC m t (m 1 1)) (hu : isR4 (ρ 37 2)) (hQ : ∀ v, isR4 v → v ≠ sp + 6 → v ≠ sp + 9 → RlC m v (Q v)) (hf0 : m 61 0 < 2000000000) : gE l γ μX10_shire 54 1 6 (rI KK fun x ρ9 m9 => MR m9 ∧ cdS n (m 1 1) = 0 ∧ ∃ ρ1 m1 u9, q37 (wr ρ 37 1 sp) ρ1 ∧ LR ρ1 m1 t n sp u9 (lN9 t n sp (z0f Q sp (ρ 37 2) (m 37 5)) 700).1 (lN9 t n sp (z0f Q sp (ρ 37 2) (m 37 5)) 700).2.1 (lN9 t n sp (z0f Q sp (ρ 37 2) (m 37 5)) 700).2.2 ∧ FL sp (wr m 1 1 0) m1 ∧ sF (lN9 t n sp (z0f Q sp (ρ 37 2) (m 37 5)) 700).1 = x ∧ (x ≠ 0 → ρ1 = ρ9 ∧ shNo m1 = m9) ∧ (x = 0 → wr (wr ρ1 1 3 sp) 1 4 ld = ρ9 ∧ shOK m1 sp = m9)) (xC ρ m (cdS n (m 1 1))) KK ρ m [vR 1, vI n] := by
  refine gE.ofw cl_X10.2 ?_ rfl rfl (Nat.le_of_ble_eq_true rfl)
  show gT l γ μX10_shire 54 1 6 _ _ KK ρ m 0 [some (vR 1), some (vI n), none, none] []
  refine tz_iload1 (n := 1) (g_at ck_X10_shire 0 rfl) rfl ?_
  refine tz_if_lt (n := 4) (tgt := 12) (g_at ck_X10_shire 1 rfl) rfl rfl ⟨hn.1, hn.2⟩ (fun h1 => ?_) (fun h1 => ?_)
  · skip
    exact tz_throw tw_I (i9 := 0) st_0 (g_at ck_X10_shire 6 rfl) (g_at ck_X10_shire 7 rfl) (Or.inl ⟨(g_at ck_X10_shire 8 rfl), rfl⟩) (g_at ck_X10_shire 9 rfl) (g_at ck_X10_shire 10 rfl) rfl ⟨by decide, by decide, by decide⟩ (Nat.le_of_ble_eq_true rfl) ⟨rfl, rfl, rfl, exN_2 (by unfold cdS; rw [if_neg (by omega)])⟩
  · skip
    refine tz_iload1 (n := 5) (g_at ck_X10_shire 2 rfl) rfl ?_
    refine tz_aload0 (n := 6) (g_at ck_X10_shire 3 rfl) rfl (g_ne kd_1) ?_
    refine tz_getIw (n := 9) (kz := 1) fk_X10_101 kd_1 (g_at ck_X10_shire 4 rfl) rfl rfl ?_
    refine tz_icmp_le (n := 12) (tgt := 22) (g_at ck_X10_shire 5 rfl) rfl rfl ⟨hn.1, hn.2, by omega, by omega⟩ (fun h9 => ?_) (fun h9 => ?_)
    · skip
      refine tz_aload0 (n := 23) (g_at ck_X10_shire 11 rfl) rfl (g_ne kd_1) ?_
      refine tz_iconst (n := 24) (g_at ck_X10_shire 12 rfl) rfl ?_
      refine tz_putIr (n := 27) (kz := 1) fk_X10_101 kd_1 (g_at ck_X10_shire 13 rfl) rfl hR ⟨(by decide), (by decide)⟩ rfl (fun hR1 => ?_)
      refine tz_aload0 (n := 28) (g_at ck_X10_shire 14 rfl) rfl (g_ne kd_1) ?_
      refine tz_getOv (n := 31) (a := 37) fk_X10_32 kd_1 (ly_1_5 (by first | exact hL1 | exact hL)) (g_at ck_X10_shire 15 rfl) rfl ?_
      refine tz_iload1 (n := 32) (g_at ck_X10_shire 16 rfl) rfl ?_
      refine tz_aload0 (n := 33) (g_at ck_X10_shire 17 rfl) rfl (g_ne kd_1) ?_
      refine tz_getOv (n := 36) (a := sp) fk_X10_24 kd_1 hSp (g_at ck_X10_shire 18 rfl) rfl ?_
      refine tz_cvI2 (n := 39) (μ' := μX3_read) (cb' := 1) (sb' := 6) ml_X10_115 mo_X3_read mv_X3_read np_X3_read kd_37 (g_at ck_X10_shire 19 rfl) (sp_read hL hB (show 0 ≤ n ∧ n ≤ 700 by omega) hsp (isS_of hL hsp) hR1 hu (fun j h1 h2 => by rw [wr_ne (by decide)]; exact hT j h1 (by omega)) (Q := Q) (fun v hv h6 h9 => (hQ v hv h6 h9).fr (wr_ne (by unfold isR4 at hv; omega)) (wr_ne (by unfold isR4 at hv; omega)))) rfl rfl rfl ⟨by decide, by decide⟩ (Nat.le_of_ble_eq_true rfl) (by decide) (by decide) (fun x36 ρ9 m36 hq => ?_)
      obtain ⟨hq36, hR2, ⟨u36, hL36⟩, hx36, hF36⟩ := hq
      rw [wr_ne (show (37 : Int) ≠ 1 by decide)] at hL36 hx36
      have hl1 : ρ9 1 3 = ld := by rw [hq36 1 3 (by decide), wr_ne (by decide)]; exact hLn
      have hs1 : ρ9 1 4 = sp := by rw [hq36 1 4 (by decide), wr_ne (by decide)]; exact hSp
      have hL1 : LY ρ9 := (LY_wr (r := 37) (k := 1) (x := sp) hL (by decide)).q37 hq36
      have hxr : -2147483648 ≤ x36 ∧ x36 < 2147483648 := by rw [← hx36, ← hL36.d.f]; exact hR2 37 4
      have h61 : m36 61 = m 61 := by rw [hF36 61 (by omega) (by decide) (by decide) (by decide), wr_ne (by decide)]
      have hcs : cdS n (m 1 1) = 0 := if_pos (by omega)
      refine tz_istore2 (n := 40) (g_at ck_X10_shire 20 rfl) rfl (by decide) g_hpI ?_
      refine tz_iload2 (n := 41) (g_at ck_X10_shire 21 rfl) rfl ?_
      refine tz_if_eq (n := 44) (tgt := 67) (g_at ck_X10_shire 22 rfl) rfl rfl (by omega) (fun h41 => ?_) (fun h41 => ?_)
      · skip
        refine tz_aload0 (n := 68) (g_at ck_X10_shire 38 rfl) rfl (g_ne kd_1) ?_
        refine tz_getOv (n := 71) (a := ld) fk_X10_20 kd_1 hl1 (g_at ck_X10_shire 39 rfl) rfl ?_
        refine tz_astore3 (n := 72) (g_at ck_X10_shire 40 rfl) rfl (by decide) g_hpI (g_ne (isS_of hL1 hld).k0) ?_
        refine tz_aload0 (n := 73) (g_at ck_X10_shire 41 rfl) rfl (g_ne kd_1) ?_
        refine tz_aload0 (n := 74) (g_at ck_X10_shire 42 rfl) rfl (g_ne kd_1) ?_
        refine tz_getOv (n := 77) (a := sp) fk_X10_24 kd_1 hs1 (g_at ck_X10_shire 43 rfl) rfl ?_
        refine tz_putOw (n := 80) (kz := 3) fk_X10_20 kd_1 (g_at ck_X10_shire 44 rfl) rfl rfl ?_
        have hL2 : LY (wr ρ9 1 3 sp) := LY_wr hL1 (by decide)
        refine tz_aload0 (n := 81) (g_at ck_X10_shire 45 rfl) rfl (g_ne kd_1) ?_
        refine tz_aload3 (n := 82) (g_at ck_X10_shire 46 rfl) rfl (g_ne (isS_of hL1 hld).k0) ?_
        refine tz_putOw (n := 85) (kz := 4) fk_X10_24 kd_1 (g_at ck_X10_shire 47 rfl) rfl rfl ?_
        have hL3 : LY (wr (wr ρ9 1 3 sp) 1 4 ld) := LY_wr hL2 (by decide)
        refine tz_aload0 (n := 86) (g_at ck_X10_shire 48 rfl) rfl (g_ne kd_1) ?_
        refine tz_getOv (n := 89) (a := 39) fk_X10_39 kd_1 (ly_1_6 (by first | exact hL3 | exact hL1)) (g_at ck_X10_shire 49 rfl) rfl ?_
        refine tz_aload0 (n := 90) (g_at ck_X10_shire 50 rfl) rfl (g_ne kd_1) ?_
        refine tz_getOv (n := 93) (a := sp) fk_X10_20 kd_1 (by show wr (wr ρ9 1 3 sp) 1 4 ld 1 3 = sp; rw [wr_at, if_neg (by decide), wr_same]) (g_at ck_X10_shire 51 rfl) rfl ?_
        refine tz_getOv (n := 96) (a := (sp + 12)) fk_X10_120 (isS_of hL3 hsp).k0 (isS_of hL3 hsp).r0_9 (g_at ck_X10_shire 52 rfl) rfl ?_
        refine tz_cvV1 (n := 99) (μ' := μX2_copy) (cb' := 1) (sb' := 6) ml_X10_123 mo_X2_copy mv_X2_copy np_X2_copy (isM_39 hL3).k0 (g_at ck_X10_shire 53 rfl) (sp_momCopy (isM_39 hL3) (isS_of hL3 hsp).mom hR2) rfl rfl rfl ⟨by decide, by decide⟩ (Nat.le_of_ble_eq_true rfl) (by decide) (by decide) (fun ρ9 m96 hq => ?_)
        obtain ⟨rfl, hR3, rfl⟩ := hq
        refine tz_aload0 (n := 100) (g_at ck_X10_shire 54 rfl) rfl (g_ne kd_1) ?_
        refine tz_getOv (n := 103) (a := 44) fk_X10_46 kd_1 (ly_1_7 hL3) (g_at ck_X10_shire 55 rfl) rfl ?_
        refine tz_cvV0 (n := 106) (μ' := μX0_clear) (cb' := 1) (sb' := 6) ml_X10_127 mo_X0_clear mv_X0_clear np_X0_clear (isA_44 hL3).k0 (g_at ck_X10_shire 56 rfl) (sp_actsClear (isA_44 hL3) hR3) rfl rfl rfl ⟨by decide, by decide⟩ (Nat.le_of_ble_eq_true rfl) (by decide) (by decide) (fun ρ9 m103 hq => ?_)
        obtain ⟨rfl, hR4, rfl⟩ := hq
        refine tz_aload0 (n := 107) (g_at ck_X10_shire 57 rfl) rfl (g_ne kd_1) ?_
        refine tz_getOv (n := 110) (a := 46) fk_X10_53 kd_1 (ly_1_8 hL3) (g_at ck_X10_shire 58 rfl) rfl ?_
        refine tz_cvV0 (n := 113) (μ' := μX5_clear) (cb' := 1) (sb' := 6) ml_X10_130 mo_X5_clear mv_X5_clear np_X5_clear (isE_46 hL3).k0 (g_at ck_X10_shire 59 rfl) (sp_seenClear (isE_46 hL3) hR4) rfl rfl rfl ⟨by decide, by decide⟩ (Nat.le_of_ble_eq_true rfl) (by decide) (by decide) (fun ρ9 m110 hq => ?_)
        obtain ⟨rfl, hR5, rfl⟩ := hq
        refine tz_aload0 (n := 114) (g_at ck_X10_shire 60 rfl) rfl (g_ne kd_1) ?_
        refine tz_iconst (n := 115) (g_at ck_X10_shire 61 rfl) rfl ?_
        refine tz_putZr (n := 118) (kz := 9) fk_X10_131 kd_1 (g_at ck_X10_shire 62 rfl) rfl hR5 (by decide) rfl (fun hR6 => ?_)
        refine tz_aload0 (n := 119) (g_at ck_X10_shire 63 rfl) rfl (g_ne kd_1) ?_
        refine tz_iconst (n := 120) (g_at ck_X10_shire 64 rfl) rfl ?_
        refine tz_putIr (n := 123) (kz := 2) fk_X10_13 kd_1 (g_at ck_X10_shire 65 rfl) rfl hR6 ⟨(by decide), (by decide)⟩ rfl (fun hR7 => ?_)
        refine tz_iconst (n := 124) (g_at ck_X10_shire 66 rfl) rfl ?_
        exact tz_iret (g_at ck_X10_shire 67 rfl) rfl (rI_mk ⟨hR7, hcs, ρ9, m36, u36, hq36, hL36, hF36, hx36.trans h41, fun h9 => absurd rfl h9, fun _ => ⟨rfl, rfl⟩⟩)
      · skip
        refine tz_aload0 (n := 45) (g_at ck_X10_shire 23 rfl) rfl (g_ne kd_1) ?_
        refine tz_aload0 (n := 46) (g_at ck_X10_shire 24 rfl) rfl (g_ne kd_1) ?_
        refine tz_getOv (n := 49) (a := 37) fk_X10_32 kd_1 (ly_1_5 (by first | exact hL1 | exact hL)) (g_at ck_X10_shire 25 rfl) rfl ?_
        refine tz_getIw (n := 52) (kz := 5) fk_X10_119 kd_37 (g_at ck_X10_shire 26 rfl) rfl rfl ?_
        refine tz_putIr (n := 55) (kz := 2) fk_X10_13 kd_1 (g_at ck_X10_shire 27 rfl) rfl hR2 (hR2 _ _) rfl (fun hR8 => ?_)
        refine tz_aload0 (n := 56) (g_at ck_X10_shire 28 rfl) rfl (g_ne kd_1) ?_
        refine tz_getAv (n := 59) (a := 61) fk_X10_66 kd_1 (ly_1_13 hL1) (g_at ck_X10_shire 29 rfl) rfl ?_
        refine tz_iconst (n := 60) (g_at ck_X10_shire 30 rfl) rfl ?_
        refine tz_dup2 (n := 61) (g_at ck_X10_shire 31 rfl) rfl ?_
        refine tz_iald (n := 62) kd_61 (by omega) (g_at ck_X10_shire 32 rfl) rfl ?_
        rw [wr_ne (show (61 : Int) ≠ 1 by decide), h61]
        refine tz_iconst (n := 63) (g_at ck_X10_shire 33 rfl) rfl ?_
        refine tz_iadd (n := 64) (g_at ck_X10_shire 34 rfl) rfl ?_
        refine tz_iastr (n := 65) kd_61 (by omega) (g_at ck_X10_shire 35 rfl) rfl hR8 (by have := hR 61 0; omega) (fun hR9 => ?_)
        refine tz_iload2 (n := 66) (g_at ck_X10_shire 36 rfl) rfl ?_
        exact tz_iret (g_at ck_X10_shire 37 rfl) rfl (rI_mk ⟨hR9, hcs, ρ9, m36, u36, hq36, hL36, hF36, hx36, fun _ => ⟨rfl, by unfold shNo; rw [h61]⟩, fun h9 => absurd h9 h41⟩)
    · skip
      exact tz_throw tw_I (i9 := 0) st_0 (g_at ck_X10_shire 6 rfl) (g_at ck_X10_shire 7 rfl) (Or.inl ⟨(g_at ck_X10_shire 8 rfl), rfl⟩) (g_at ck_X10_shire 9 rfl) (g_at ck_X10_shire 10 rfl) rfl ⟨by decide, by decide, by decide⟩ (Nat.le_of_ble_eq_true rfl) ⟨rfl, rfl, rfl, exN_2 (by unfold cdS; rw [if_neg (by omega)])⟩
