/-! Rules: values, parts, chains. -/
/-- the method of this name, called at depth w, reads by F -/
def Ct (l : Launch) (γ : Gh) (ρ : Mm) (t : Int → Int) (n : Int) (μ : MD) (d : Nat) (w : Int) (F : PS → PS) : Prop := ∀ (u : Int) (m : Mm) (s : PS), RD ρ m t n u s → s.1 = 1 → gE l γ μ d 0 0 (rI KK fun x ρ9 m9 => ρ = ρ9 ∧ MR m9 ∧ RD ρ9 m9 t n u (F s) ∧ (F s).1 = x ∧ FE u m m9) xN KK ρ m [vR 37, vI w]
theorem nx9_1 {t : Int → Int} {n : Int} {s : PS} : (nx9 t n s).1 = s.1 := rfl
theorem FE.l2 {u : Int} {m : Mm} {L : List Int} (h : RlC m u L) : 0 ≤ m u 2 ∧ m u 2 ≤ 700 := by
  have := h.1
  have := h.2.1
  omega
theorem nm9_1 {t : Int → Int} {n : Int} {s : PS} (h : (nm9 t n s).1 = 1) : tK t n (sP s) = 2 ∧ nm9 t n s = s ∧ ¬ 4 < tQ t n (sP s) - tA t n (sP s) := by
  unfold nm9 at h ⊢
  by_cases c : tK t n (sP s) = 2
  · rw [if_pos c] at h ⊢
    by_cases e : 4 < tQ t n (sP s) - tA t n (sP s)
    · rw [if_pos e] at h
      exact absurd h (by show ¬ (0 : Int) = 1; decide)
    · rw [if_neg e]
      exact ⟨c, rfl, e⟩
  · rw [if_neg c] at h
    exact absurd h (by show ¬ (0 : Int) = 1; decide)
theorem sp_readValue {l : Launch} {γ : Gh} {ρ m : Mm} {t : Int → Int} {n u : Int} {s : PS} (hL : LY ρ) (hB : BY t) (hn : 0 ≤ n ∧ n ≤ 700) (hD : RD ρ m t n u s) (h1 : s.1 = 1) : gE l γ μX3_readValue 7 0 0 (rI KK fun x ρ9 m9 => ρ = ρ9 ∧ MR m9 ∧ RD ρ9 m9 t n u (va9 t n s) ∧ (va9 t n s).1 = x ∧ FE u m m9) xN KK ρ m [vR 37] := by
  refine gE.ofw cl_X3.2 ?_ rfl rfl (Nat.le_of_ble_eq_true rfl)
  show gT l γ μX3_readValue 7 0 0 _ _ KK ρ m 0 [some (vR 37)] []
  have hR := hD.r
  have hp := hD.p
  have hr9 := tk_rg (n := n) hB hp
  have hu4 := hD.u4
  unfold isR4 at hu4
  refine tz_aload0 (n := 1) (g_at ck_X3_readValue 0 rfl) rfl (g_ne kd_37) ?_
  refine tz_getOv (n := 4) (a := 38) fk_X3_14 kd_37 (ly_37_0 hL) (g_at ck_X3_readValue 1 rfl) rfl ?_
  refine tz_ldcSw (n := 6) st_5 (g_at ck_X3_readValue 2 rfl) rfl ?_
  refine tz_cvI1 (n := 9) (μ' := μX7_isWord) (cb' := 0) (sb' := 0) ml_X3_62 mo_X7_isWord mv_X7_isWord np_X7_isWord kd_38 (g_at ck_X3_readValue 3 rfl) (sp_isWord (i9 := 5) sn_5 hL hR hB hn hD.p hD.tk) rfl rfl rfl ⟨by decide, by decide⟩ (Nat.le_of_ble_eq_true rfl) (by decide) (by decide) (fun x6 ρ9 m6 hq => ?_)
  obtain ⟨rfl, hR1, rfl, rfl⟩ := hq
  have hw5 := wdI_01 (t := t) (n := n) (p := sP s) (i9 := 5)
  refine tz_if_eq (n := 12) (tgt := 23) (g_at ck_X3_readValue 4 rfl) rfl rfl (by omega) (fun h9 => ?_) (fun h9 => ?_)
  · skip
    refine tz_aload0 (n := 24) (g_at ck_X3_readValue 10 rfl) rfl (g_ne kd_37) ?_
    refine tz_getOv (n := 27) (a := 38) fk_X3_14 kd_37 (ly_37_0 hL) (g_at ck_X3_readValue 11 rfl) rfl ?_
    refine tz_ldcSw (n := 29) st_8 (g_at ck_X3_readValue 12 rfl) rfl ?_
    refine tz_cvI1 (n := 32) (μ' := μX7_isWord) (cb' := 0) (sb' := 0) ml_X3_62 mo_X7_isWord mv_X7_isWord np_X7_isWord kd_38 (g_at ck_X3_readValue 13 rfl) (sp_isWord (i9 := 8) sn_8 hL hR1 hB hn hD.p hD.tk) rfl rfl rfl ⟨by decide, by decide⟩ (Nat.le_of_ble_eq_true rfl) (by decide) (by decide) (fun x29 ρ9 m29 hq => ?_)
    obtain ⟨rfl, hR2, rfl, rfl⟩ := hq
    have hw8 := wdI_01 (t := t) (n := n) (p := sP s) (i9 := 8)
    refine tz_if_eq (n := 35) (tgt := 46) (g_at ck_X3_readValue 14 rfl) rfl rfl (by omega) (fun h32 => ?_) (fun h32 => ?_)
    · skip
      refine tz_aload0 (n := 47) (g_at ck_X3_readValue 20 rfl) rfl (g_ne kd_37) ?_
      refine tz_getOv (n := 50) (a := 38) fk_X3_14 kd_37 (ly_37_0 hL) (g_at ck_X3_readValue 21 rfl) rfl ?_
      refine tz_ldcSw (n := 52) st_9 (g_at ck_X3_readValue 22 rfl) rfl ?_
      refine tz_cvI1 (n := 55) (μ' := μX7_isWord) (cb' := 0) (sb' := 0) ml_X3_62 mo_X7_isWord mv_X7_isWord np_X7_isWord kd_38 (g_at ck_X3_readValue 23 rfl) (sp_isWord (i9 := 9) sn_9 hL hR2 hB hn hD.p hD.tk) rfl rfl rfl ⟨by decide, by decide⟩ (Nat.le_of_ble_eq_true rfl) (by decide) (by decide) (fun x52 ρ9 m52 hq => ?_)
      obtain ⟨rfl, hR3, rfl, rfl⟩ := hq
      have hw9 := wdI_01 (t := t) (n := n) (p := sP s) (i9 := 9)
      refine tz_if_eq (n := 58) (tgt := 69) (g_at ck_X3_readValue 24 rfl) rfl rfl (by omega) (fun h55 => ?_) (fun h55 => ?_)
      · skip
        refine tz_aload0 (n := 70) (g_at ck_X3_readValue 30 rfl) rfl (g_ne kd_37) ?_
        refine tz_getOv (n := 73) (a := 38) fk_X3_14 kd_37 (ly_37_0 hL) (g_at ck_X3_readValue 31 rfl) rfl ?_
        refine tz_ldcSw (n := 75) st_10 (g_at ck_X3_readValue 32 rfl) rfl ?_
        refine tz_cvI1 (n := 78) (μ' := μX7_isWord) (cb' := 0) (sb' := 0) ml_X3_62 mo_X7_isWord mv_X7_isWord np_X7_isWord kd_38 (g_at ck_X3_readValue 33 rfl) (sp_isWord (i9 := 10) sn_10 hL hR3 hB hn hD.p hD.tk) rfl rfl rfl ⟨by decide, by decide⟩ (Nat.le_of_ble_eq_true rfl) (by decide) (by decide) (fun x75 ρ9 m75 hq => ?_)
        obtain ⟨rfl, hR4, rfl, rfl⟩ := hq
        have hw10 := wdI_01 (t := t) (n := n) (p := sP s) (i9 := 10)
        refine tz_if_eq (n := 81) (tgt := 92) (g_at ck_X3_readValue 34 rfl) rfl rfl (by omega) (fun h78 => ?_) (fun h78 => ?_)
        · skip
          refine tz_aload0 (n := 93) (g_at ck_X3_readValue 40 rfl) rfl (g_ne kd_37) ?_
          refine tz_getOv (n := 96) (a := 38) fk_X3_14 kd_37 (ly_37_0 hL) (g_at ck_X3_readValue 41 rfl) rfl ?_
          refine tz_ldcSw (n := 98) st_11 (g_at ck_X3_readValue 42 rfl) rfl ?_
          refine tz_cvI1 (n := 101) (μ' := μX7_isWord) (cb' := 0) (sb' := 0) ml_X3_62 mo_X7_isWord mv_X7_isWord np_X7_isWord kd_38 (g_at ck_X3_readValue 43 rfl) (sp_isWord (i9 := 11) sn_11 hL hR4 hB hn hD.p hD.tk) rfl rfl rfl ⟨by decide, by decide⟩ (Nat.le_of_ble_eq_true rfl) (by decide) (by decide) (fun x98 ρ9 m98 hq => ?_)
          obtain ⟨rfl, hR5, rfl, rfl⟩ := hq
          have hw11 := wdI_01 (t := t) (n := n) (p := sP s) (i9 := 11)
          refine tz_if_eq (n := 104) (tgt := 115) (g_at ck_X3_readValue 44 rfl) rfl rfl (by omega) (fun h101 => ?_) (fun h101 => ?_)
          · skip
            refine tz_aload0 (n := 116) (g_at ck_X3_readValue 50 rfl) rfl (g_ne kd_37) ?_
            refine tz_iconst (n := 117) (g_at ck_X3_readValue 51 rfl) rfl ?_
            refine tz_cvI1 (n := 120) (μ' := μX3_fail) (cb' := 0) (sb' := 0) ml_X3_93 mo_X3_fail mv_X3_fail np_X3_fail kd_37 (g_at ck_X3_readValue 52 rfl) (sp_fail hL hB hn hD (by decide)) rfl rfl rfl ⟨by decide, by decide⟩ (Nat.le_of_ble_eq_true rfl) (by decide) (by decide) (fun x117 ρ9 m117 hq => ?_)
            obtain ⟨rfl, hR6, hD117, hx117, hF117⟩ := hq
            have hz117 : x117 = 0 := hx117.symm
            exact tz_bret (g_at ck_X3_readValue 53 rfl) rfl (Or.inl hz117) (rI_mk ⟨rfl, hR6, by unfold va9; rw [if_pos (by unfold vl9; rw [if_neg (by omega), if_neg (by omega), if_neg (by omega), if_neg (by omega), if_neg (by omega)])]; exact hD117, by unfold va9; rw [if_pos (by unfold vl9; rw [if_neg (by omega), if_neg (by omega), if_neg (by omega), if_neg (by omega), if_neg (by omega)])]; exact hx117, hF117⟩)
          · skip
            refine tz_aload0 (n := 105) (g_at ck_X3_readValue 45 rfl) rfl (g_ne kd_37) ?_
            refine tz_getOv (n := 108) (a := u) fk_X3_30 kd_37 hD.ru (g_at ck_X3_readValue 46 rfl) rfl ?_
            refine tz_iconst (n := 109) (g_at ck_X3_readValue 47 rfl) rfl ?_
            refine tz_cvV1 (n := 112) (μ' := μX4_addValue) (cb' := 0) (sb' := 0) ml_X3_200 mo_X4_addValue mv_X4_addValue np_X4_addValue (isU_r4 hL hD.u4).k0 (g_at ck_X3_readValue 48 rfl) (sp_ruleAddVT (isU_r4 hL hD.u4) hR5 (FE.l2 hD.l) (by decide)) rfl rfl rfl ⟨by decide, by decide⟩ (Nat.le_of_ble_eq_true rfl) (by decide) (by decide) (fun ρ9 m109 hq => ?_)
            obtain ⟨rfl, hR7, rfl⟩ := hq
            have hDa : RD ρ (addM m u (-1 - 4)) t n u (ad9 (-1 - 4) s) := hD.ad hR7
            refine tz_goto (tgt := 121) (g_at ck_X3_readValue 49 rfl) rfl ?_
            refine tz_aload0 (n := 122) (g_at ck_X3_readValue 54 rfl) rfl (g_ne kd_37) ?_
            refine tz_getOv (n := 125) (a := 38) fk_X3_14 kd_37 (ly_37_0 hL) (g_at ck_X3_readValue 55 rfl) rfl ?_
            refine tz_cvV0 (n := 128) (μ' := μX7_advance) (cb' := 0) (sb' := 0) ml_X3_101 mo_X7_advance mv_X7_advance np_X7_advance kd_38 (g_at ck_X3_readValue 56 rfl) (sp_advance hL hR7 hB hn (show 0 ≤ tQ t n (sP s) ∧ tQ t n (sP s) ≤ n by omega) hDa.tk.1 hDa.tk.2.1 hDa.tk.q) rfl rfl rfl ⟨by decide, by decide⟩ (Nat.le_of_ble_eq_true rfl) (by decide) (by decide) (fun ρ9 m125 hq => ?_)
            obtain ⟨rfl, hR8, hF125, hC125⟩ := hq
            have hD125 := hDa.nx hB hR8 hF125 hC125
            have hE125 : FE u (addM m u (-1 - 4)) m125 := FE.tok hF125
            refine tz_iconst (n := 129) (g_at ck_X3_readValue 57 rfl) rfl ?_
            exact tz_bret (g_at ck_X3_readValue 58 rfl) rfl (by decide) (rI_mk ⟨rfl, hR8, by rw [show va9 t n s = nx9 t n (ad9 (-1 - 4) s) by unfold va9; rw [show vl9 t n (sP s) = -1 - 4 by unfold vl9; rw [if_neg (by omega), if_neg (by omega), if_neg (by omega), if_neg (by omega), if_pos (by omega)]; rfl, if_neg (by decide)]]; exact hD125, by rw [show va9 t n s = nx9 t n (ad9 (-1 - 4) s) by unfold va9; rw [show vl9 t n (sP s) = -1 - 4 by unfold vl9; rw [if_neg (by omega), if_neg (by omega), if_neg (by omega), if_neg (by omega), if_pos (by omega)]; rfl, if_neg (by decide)]]; exact h1, (FE.add hD.u4).tr hE125⟩)
        · skip
          refine tz_aload0 (n := 82) (g_at ck_X3_readValue 35 rfl) rfl (g_ne kd_37) ?_
          refine tz_getOv (n := 85) (a := u) fk_X3_30 kd_37 hD.ru (g_at ck_X3_readValue 36 rfl) rfl ?_
          refine tz_iconst (n := 86) (g_at ck_X3_readValue 37 rfl) rfl ?_
          refine tz_cvV1 (n := 89) (μ' := μX4_addValue) (cb' := 0) (sb' := 0) ml_X3_200 mo_X4_addValue mv_X4_addValue np_X4_addValue (isU_r4 hL hD.u4).k0 (g_at ck_X3_readValue 38 rfl) (sp_ruleAddVT (isU_r4 hL hD.u4) hR4 (FE.l2 hD.l) (by decide)) rfl rfl rfl ⟨by decide, by decide⟩ (Nat.le_of_ble_eq_true rfl) (by decide) (by decide) (fun ρ9 m86 hq => ?_)
          obtain ⟨rfl, hR9, rfl⟩ := hq
          have hDa : RD ρ (addM m u (-1 - 3)) t n u (ad9 (-1 - 3) s) := hD.ad hR9
          refine tz_goto (tgt := 121) (g_at ck_X3_readValue 39 rfl) rfl ?_
          refine tz_aload0 (n := 122) (g_at ck_X3_readValue 54 rfl) rfl (g_ne kd_37) ?_
          refine tz_getOv (n := 125) (a := 38) fk_X3_14 kd_37 (ly_37_0 hL) (g_at ck_X3_readValue 55 rfl) rfl ?_
          refine tz_cvV0 (n := 128) (μ' := μX7_advance) (cb' := 0) (sb' := 0) ml_X3_101 mo_X7_advance mv_X7_advance np_X7_advance kd_38 (g_at ck_X3_readValue 56 rfl) (sp_advance hL hR9 hB hn (show 0 ≤ tQ t n (sP s) ∧ tQ t n (sP s) ≤ n by omega) hDa.tk.1 hDa.tk.2.1 hDa.tk.q) rfl rfl rfl ⟨by decide, by decide⟩ (Nat.le_of_ble_eq_true rfl) (by decide) (by decide) (fun ρ9 m125 hq => ?_)
          obtain ⟨rfl, hR10, hF125, hC125⟩ := hq
          have hD125 := hDa.nx hB hR10 hF125 hC125
          have hE125 : FE u (addM m u (-1 - 3)) m125 := FE.tok hF125
          refine tz_iconst (n := 129) (g_at ck_X3_readValue 57 rfl) rfl ?_
          exact tz_bret (g_at ck_X3_readValue 58 rfl) rfl (by decide) (rI_mk ⟨rfl, hR10, by rw [show va9 t n s = nx9 t n (ad9 (-1 - 3) s) by unfold va9; rw [show vl9 t n (sP s) = -1 - 3 by unfold vl9; rw [if_neg (by omega), if_neg (by omega), if_neg (by omega), if_pos (by omega)]; rfl, if_neg (by decide)]]; exact hD125, by rw [show va9 t n s = nx9 t n (ad9 (-1 - 3) s) by unfold va9; rw [show vl9 t n (sP s) = -1 - 3 by unfold vl9; rw [if_neg (by omega), if_neg (by omega), if_neg (by omega), if_pos (by omega)]; rfl, if_neg (by decide)]]; exact h1, (FE.add hD.u4).tr hE125⟩)
      · skip
        refine tz_aload0 (n := 59) (g_at ck_X3_readValue 25 rfl) rfl (g_ne kd_37) ?_
        refine tz_getOv (n := 62) (a := u) fk_X3_30 kd_37 hD.ru (g_at ck_X3_readValue 26 rfl) rfl ?_
        refine tz_iconst (n := 63) (g_at ck_X3_readValue 27 rfl) rfl ?_
        refine tz_cvV1 (n := 66) (μ' := μX4_addValue) (cb' := 0) (sb' := 0) ml_X3_200 mo_X4_addValue mv_X4_addValue np_X4_addValue (isU_r4 hL hD.u4).k0 (g_at ck_X3_readValue 28 rfl) (sp_ruleAddVT (isU_r4 hL hD.u4) hR3 (FE.l2 hD.l) (by decide)) rfl rfl rfl ⟨by decide, by decide⟩ (Nat.le_of_ble_eq_true rfl) (by decide) (by decide) (fun ρ9 m63 hq => ?_)
        obtain ⟨rfl, hR11, rfl⟩ := hq
        have hDa : RD ρ (addM m u (-1 - 2)) t n u (ad9 (-1 - 2) s) := hD.ad hR11
        refine tz_goto (tgt := 121) (g_at ck_X3_readValue 29 rfl) rfl ?_
        refine tz_aload0 (n := 122) (g_at ck_X3_readValue 54 rfl) rfl (g_ne kd_37) ?_
        refine tz_getOv (n := 125) (a := 38) fk_X3_14 kd_37 (ly_37_0 hL) (g_at ck_X3_readValue 55 rfl) rfl ?_
        refine tz_cvV0 (n := 128) (μ' := μX7_advance) (cb' := 0) (sb' := 0) ml_X3_101 mo_X7_advance mv_X7_advance np_X7_advance kd_38 (g_at ck_X3_readValue 56 rfl) (sp_advance hL hR11 hB hn (show 0 ≤ tQ t n (sP s) ∧ tQ t n (sP s) ≤ n by omega) hDa.tk.1 hDa.tk.2.1 hDa.tk.q) rfl rfl rfl ⟨by decide, by decide⟩ (Nat.le_of_ble_eq_true rfl) (by decide) (by decide) (fun ρ9 m125 hq => ?_)
        obtain ⟨rfl, hR12, hF125, hC125⟩ := hq
        have hD125 := hDa.nx hB hR12 hF125 hC125
        have hE125 : FE u (addM m u (-1 - 2)) m125 := FE.tok hF125
        refine tz_iconst (n := 129) (g_at ck_X3_readValue 57 rfl) rfl ?_
        exact tz_bret (g_at ck_X3_readValue 58 rfl) rfl (by decide) (rI_mk ⟨rfl, hR12, by rw [show va9 t n s = nx9 t n (ad9 (-1 - 2) s) by unfold va9; rw [show vl9 t n (sP s) = -1 - 2 by unfold vl9; rw [if_neg (by omega), if_neg (by omega), if_pos (by omega)]; rfl, if_neg (by decide)]]; exact hD125, by rw [show va9 t n s = nx9 t n (ad9 (-1 - 2) s) by unfold va9; rw [show vl9 t n (sP s) = -1 - 2 by unfold vl9; rw [if_neg (by omega), if_neg (by omega), if_pos (by omega)]; rfl, if_neg (by decide)]]; exact h1, (FE.add hD.u4).tr hE125⟩)
    · skip
      refine tz_aload0 (n := 36) (g_at ck_X3_readValue 15 rfl) rfl (g_ne kd_37) ?_
      refine tz_getOv (n := 39) (a := u) fk_X3_30 kd_37 hD.ru (g_at ck_X3_readValue 16 rfl) rfl ?_
      refine tz_iconst (n := 40) (g_at ck_X3_readValue 17 rfl) rfl ?_
      refine tz_cvV1 (n := 43) (μ' := μX4_addValue) (cb' := 0) (sb' := 0) ml_X3_200 mo_X4_addValue mv_X4_addValue np_X4_addValue (isU_r4 hL hD.u4).k0 (g_at ck_X3_readValue 18 rfl) (sp_ruleAddVT (isU_r4 hL hD.u4) hR2 (FE.l2 hD.l) (by decide)) rfl rfl rfl ⟨by decide, by decide⟩ (Nat.le_of_ble_eq_true rfl) (by decide) (by decide) (fun ρ9 m40 hq => ?_)
      obtain ⟨rfl, hR13, rfl⟩ := hq
      have hDa : RD ρ (addM m u (-1 - 1)) t n u (ad9 (-1 - 1) s) := hD.ad hR13
      refine tz_goto (tgt := 121) (g_at ck_X3_readValue 19 rfl) rfl ?_
      refine tz_aload0 (n := 122) (g_at ck_X3_readValue 54 rfl) rfl (g_ne kd_37) ?_
      refine tz_getOv (n := 125) (a := 38) fk_X3_14 kd_37 (ly_37_0 hL) (g_at ck_X3_readValue 55 rfl) rfl ?_
      refine tz_cvV0 (n := 128) (μ' := μX7_advance) (cb' := 0) (sb' := 0) ml_X3_101 mo_X7_advance mv_X7_advance np_X7_advance kd_38 (g_at ck_X3_readValue 56 rfl) (sp_advance hL hR13 hB hn (show 0 ≤ tQ t n (sP s) ∧ tQ t n (sP s) ≤ n by omega) hDa.tk.1 hDa.tk.2.1 hDa.tk.q) rfl rfl rfl ⟨by decide, by decide⟩ (Nat.le_of_ble_eq_true rfl) (by decide) (by decide) (fun ρ9 m125 hq => ?_)
      obtain ⟨rfl, hR14, hF125, hC125⟩ := hq
      have hD125 := hDa.nx hB hR14 hF125 hC125
      have hE125 : FE u (addM m u (-1 - 1)) m125 := FE.tok hF125
      refine tz_iconst (n := 129) (g_at ck_X3_readValue 57 rfl) rfl ?_
      exact tz_bret (g_at ck_X3_readValue 58 rfl) rfl (by decide) (rI_mk ⟨rfl, hR14, by rw [show va9 t n s = nx9 t n (ad9 (-1 - 1) s) by unfold va9; rw [show vl9 t n (sP s) = -1 - 1 by unfold vl9; rw [if_neg (by omega), if_pos (by omega)]; rfl, if_neg (by decide)]]; exact hD125, by rw [show va9 t n s = nx9 t n (ad9 (-1 - 1) s) by unfold va9; rw [show vl9 t n (sP s) = -1 - 1 by unfold vl9; rw [if_neg (by omega), if_pos (by omega)]; rfl, if_neg (by decide)]]; exact h1, (FE.add hD.u4).tr hE125⟩)
  · skip
    refine tz_aload0 (n := 13) (g_at ck_X3_readValue 5 rfl) rfl (g_ne kd_37) ?_
    refine tz_getOv (n := 16) (a := u) fk_X3_30 kd_37 hD.ru (g_at ck_X3_readValue 6 rfl) rfl ?_
    refine tz_iconst (n := 17) (g_at ck_X3_readValue 7 rfl) rfl ?_
    refine tz_cvV1 (n := 20) (μ' := μX4_addValue) (cb' := 0) (sb' := 0) ml_X3_200 mo_X4_addValue mv_X4_addValue np_X4_addValue (isU_r4 hL hD.u4).k0 (g_at ck_X3_readValue 8 rfl) (sp_ruleAddVT (isU_r4 hL hD.u4) hR1 (FE.l2 hD.l) (by decide)) rfl rfl rfl ⟨by decide, by decide⟩ (Nat.le_of_ble_eq_true rfl) (by decide) (by decide) (fun ρ9 m17 hq => ?_)
    obtain ⟨rfl, hR15, rfl⟩ := hq
    have hDa : RD ρ (addM m u (-1 - 0)) t n u (ad9 (-1 - 0) s) := hD.ad hR15
    refine tz_goto (tgt := 121) (g_at ck_X3_readValue 9 rfl) rfl ?_
    refine tz_aload0 (n := 122) (g_at ck_X3_readValue 54 rfl) rfl (g_ne kd_37) ?_
    refine tz_getOv (n := 125) (a := 38) fk_X3_14 kd_37 (ly_37_0 hL) (g_at ck_X3_readValue 55 rfl) rfl ?_
    refine tz_cvV0 (n := 128) (μ' := μX7_advance) (cb' := 0) (sb' := 0) ml_X3_101 mo_X7_advance mv_X7_advance np_X7_advance kd_38 (g_at ck_X3_readValue 56 rfl) (sp_advance hL hR15 hB hn (show 0 ≤ tQ t n (sP s) ∧ tQ t n (sP s) ≤ n by omega) hDa.tk.1 hDa.tk.2.1 hDa.tk.q) rfl rfl rfl ⟨by decide, by decide⟩ (Nat.le_of_ble_eq_true rfl) (by decide) (by decide) (fun ρ9 m125 hq => ?_)
    obtain ⟨rfl, hR16, hF125, hC125⟩ := hq
    have hD125 := hDa.nx hB hR16 hF125 hC125
    have hE125 : FE u (addM m u (-1 - 0)) m125 := FE.tok hF125
    refine tz_iconst (n := 129) (g_at ck_X3_readValue 57 rfl) rfl ?_
    exact tz_bret (g_at ck_X3_readValue 58 rfl) rfl (by decide) (rI_mk ⟨rfl, hR16, by rw [show va9 t n s = nx9 t n (ad9 (-1 - 0) s) by unfold va9; rw [show vl9 t n (sP s) = -1 - 0 by unfold vl9; rw [if_pos (by omega)]; rfl, if_neg (by decide)]]; exact hD125, by rw [show va9 t n s = nx9 t n (ad9 (-1 - 0) s) by unfold va9; rw [show vl9 t n (sP s) = -1 - 0 by unfold vl9; rw [if_pos (by omega)]; rfl, if_neg (by decide)]]; exact h1, (FE.add hD.u4).tr hE125⟩)
theorem sp_take {l : Launch} {γ : Gh} {ρ m : Mm} {t : Int → Int} {n u : Int} {s : PS} (hL : LY ρ) (hB : BY t) (hn : 0 ≤ n ∧ n ≤ 700) (hD : RD ρ m t n u s) (hk : tK t n (sP s) = 2) : gE l γ μX3_take 7 0 0 (rI KK fun x ρ9 m9 => ρ = ρ9 ∧ MR m9 ∧ RD ρ9 m9 t n u (nx9 t n s) ∧ tV t n (sP s) = x ∧ FE u m m9) xN KK ρ m [vR 37] := by
  refine gE.ofw cl_X3.2 ?_ rfl rfl (Nat.le_of_ble_eq_true rfl)
  show gT l γ μX3_take 7 0 0 _ _ KK ρ m 0 [some (vR 37), none] []
  have hR := hD.r
  have hp := hD.p
  have hr9 := tk_rg (n := n) hB hp
  have hu4 := hD.u4
  unfold isR4 at hu4
  refine tz_aload0 (n := 1) (g_at ck_X3_take 0 rfl) rfl (g_ne kd_37) ?_
  refine tz_getOv (n := 4) (a := 38) fk_X3_14 kd_37 (ly_37_0 hL) (g_at ck_X3_take 1 rfl) rfl ?_
  refine tz_getIw (n := 7) (kz := 5) fk_X3_110 kd_38 (g_at ck_X3_take 2 rfl) rfl rfl ?_
  rw [hD.tk.v hk]
  refine tz_istore1 (n := 8) (g_at ck_X3_take 3 rfl) rfl (by decide) g_hpR ?_
  refine tz_aload0 (n := 9) (g_at ck_X3_take 4 rfl) rfl (g_ne kd_37) ?_
  refine tz_getOv (n := 12) (a := 38) fk_X3_14 kd_37 (ly_37_0 hL) (g_at ck_X3_take 5 rfl) rfl ?_
  refine tz_cvV0 (n := 15) (μ' := μX7_advance) (cb' := 0) (sb' := 0) ml_X3_101 mo_X7_advance mv_X7_advance np_X7_advance kd_38 (g_at ck_X3_take 6 rfl) (sp_advance hL hR hB hn (show 0 ≤ tQ t n (sP s) ∧ tQ t n (sP s) ≤ n by omega) hD.tk.1 hD.tk.2.1 hD.tk.q) rfl rfl rfl ⟨by decide, by decide⟩ (Nat.le_of_ble_eq_true rfl) (by decide) (by decide) (fun ρ9 m12 hq => ?_)
  obtain ⟨rfl, hR1, hF12, hC12⟩ := hq
  have hD12 := hD.nx hB hR1 hF12 hC12
  have hE12 : FE u m m12 := FE.tok hF12
  refine tz_iload1 (n := 16) (g_at ck_X3_take 7 rfl) rfl ?_
  exact tz_iret (g_at ck_X3_take 8 rfl) rfl (rI_mk ⟨rfl, hR1, hD12, rfl, hE12⟩)
theorem sp_readPart {l : Launch} {γ : Gh} {ρ m : Mm} {d : Nat} {w : Int} {E : PS → PS} {t : Int → Int} {n u : Int} {s : PS} (hL : LY ρ) (hB : BY t) (hn : 0 ≤ n ∧ n ≤ 700) (hD : RD ρ m t n u s) (h1 : s.1 = 1) (hd : 7 ≤ d) (hE : Ct l γ ρ t n μX3_readExpr d (w + 1) E) : gE l γ μX3_readPart (d + 1) 0 0 (rI KK fun x ρ9 m9 => ρ = ρ9 ∧ MR m9 ∧ RD ρ9 m9 t n u (pt9 t n E s) ∧ (pt9 t n E s).1 = x ∧ FE u m m9) xN KK ρ m [vR 37, vI w] := by
  refine gE.ofw cl_X3.2 ?_ rfl rfl (Nat.le_of_ble_eq_true rfl)
  show gT l γ μX3_readPart (d + 1) 0 0 _ _ KK ρ m 0 [some (vR 37), some (vI w)] []
  have hR := hD.r
  have hp := hD.p
  have hr9 := tk_rg (n := n) hB hp
  have hu4 := hD.u4
  unfold isR4 at hu4
  refine tz_aload0 (n := 1) (g_at ck_X3_readPart 0 rfl) rfl (g_ne kd_37) ?_
  refine tz_getOv (n := 4) (a := 38) fk_X3_14 kd_37 (ly_37_0 hL) (g_at ck_X3_readPart 1 rfl) rfl ?_
  refine tz_getIw (n := 7) (kz := 3) fk_X3_47 kd_38 (g_at ck_X3_readPart 2 rfl) rfl rfl ?_
  rw [hD.tk.k]
  refine tz_bipush (n := 9) (g_at ck_X3_readPart 3 rfl) rfl rfl ?_
  refine tz_icmp_ne (n := 12) (tgt := 44) (g_at ck_X3_readPart 4 rfl) rfl rfl ⟨by omega, by omega, by decide, by decide⟩ (fun h9 => ?_) (fun h9 => ?_)
  · skip
    refine tz_aload0 (n := 45) (g_at ck_X3_readPart 22 rfl) rfl (g_ne kd_37) ?_
    refine tz_getOv (n := 48) (a := 38) fk_X3_14 kd_37 (ly_37_0 hL) (g_at ck_X3_readPart 23 rfl) rfl ?_
    refine tz_getIw (n := 51) (kz := 3) fk_X3_47 kd_38 (g_at ck_X3_readPart 24 rfl) rfl rfl ?_
    rw [hD.tk.k]
    refine tz_iconst (n := 52) (g_at ck_X3_readPart 25 rfl) rfl ?_
    refine tz_icmp_ne (n := 55) (tgt := 60) (g_at ck_X3_readPart 26 rfl) rfl rfl ⟨by omega, by omega, by decide, by decide⟩ (fun h52 => ?_) (fun h52 => ?_)
    · skip
      refine tz_aload0 (n := 61) (g_at ck_X3_readPart 30 rfl) rfl (g_ne kd_37) ?_
      refine tz_cvI0 (n := 64) (μ' := μX3_isNumber) (cb' := 0) (sb' := 0) ml_X3_107 mo_X3_isNumber mv_X3_isNumber np_X3_isNumber kd_37 (g_at ck_X3_readPart 31 rfl) (sp_isNumber hL hB hn hD h1) rfl rfl rfl ⟨by omega, by decide⟩ (Nat.le_of_ble_eq_true rfl) (by decide) (by decide) (fun x61 ρ9 m61 hq => ?_)
      obtain ⟨rfl, hR1, hD61, hx61, hF61⟩ := hq
      have ho61 := hD61.o
      refine tz_if_ne (n := 67) (tgt := 69) (g_at ck_X3_readPart 32 rfl) rfl rfl (by omega) (fun h64 => ?_) (fun h64 => ?_)
      · skip
        have hnm := nm9_1 (t := t) (n := n) (s := s) (by omega)
        have hk2 := hnm.1
        have hDn : RD ρ m61 t n u s := by have h8 := hD61; rw [hnm.2.1] at h8; exact h8
        refine tz_aload0 (n := 70) (g_at ck_X3_readPart 35 rfl) rfl (g_ne kd_37) ?_
        refine tz_getOv (n := 73) (a := u) fk_X3_30 kd_37 hD.ru (g_at ck_X3_readPart 36 rfl) rfl ?_
        refine tz_aload0 (n := 74) (g_at ck_X3_readPart 37 rfl) rfl (g_ne kd_37) ?_
        refine tz_cvI0 (n := 77) (μ' := μX3_take) (cb' := 0) (sb' := 0) ml_X3_119 mo_X3_take mv_X3_take np_X3_take kd_37 (g_at ck_X3_readPart 38 rfl) (sp_take hL hB hn hDn hk2) rfl rfl rfl ⟨by omega, by decide⟩ (Nat.le_of_ble_eq_true rfl) (by decide) (by decide) (fun x74 ρ9 m74 hq => ?_)
        obtain ⟨rfl, hR2, hD74, rfl, hF74⟩ := hq
        have hv9 := tv_rg (t := t) (n := n) (p := sP s) hk2
        refine tz_cvV1 (n := 80) (μ' := μX4_add) (cb' := 0) (sb' := 0) ml_X3_175 mo_X4_add mv_X4_add np_X4_add (isU_r4 hL hD.u4).k0 (g_at ck_X3_readPart 39 rfl) (sp_ruleAddT (isU_r4 hL hD.u4) hR2 (FE.l2 hD74.l) (by omega)) rfl rfl rfl ⟨by omega, by decide⟩ (Nat.le_of_ble_eq_true rfl) (by decide) (by decide) (fun ρ9 m77 hq => ?_)
        obtain ⟨rfl, hR3, rfl⟩ := hq
        have hDa := hD74.ad (x := tV t n (sP s)) hR3
        refine tz_iconst (n := 81) (g_at ck_X3_readPart 40 rfl) rfl ?_
        exact tz_bret (g_at ck_X3_readPart 41 rfl) rfl (by decide) (rI_mk ⟨rfl, hR3, by unfold pt9; rw [if_neg h9, if_neg h52, if_pos (by omega)]; exact hDa, by unfold pt9; rw [if_neg h9, if_neg h52, if_pos (by omega)]; exact h1, (hF61.tr hF74).tr (FE.add hD.u4)⟩)
      · skip
        refine tz_iconst (n := 68) (g_at ck_X3_readPart 33 rfl) rfl ?_
        exact tz_bret (g_at ck_X3_readPart 34 rfl) rfl (by decide) (rI_mk ⟨rfl, hR1, by unfold pt9; rw [if_neg h9, if_neg h52, if_neg (by omega)]; exact hD61, by unfold pt9; rw [if_neg h9, if_neg h52, if_neg (by omega)]; exact (by omega), hF61⟩)
    · skip
      refine tz_aload0 (n := 56) (g_at ck_X3_readPart 27 rfl) rfl (g_ne kd_37) ?_
      refine tz_cvI0 (n := 59) (μ' := μX3_readValue) (cb' := 0) (sb' := 0) ml_X3_197 mo_X3_readValue mv_X3_readValue np_X3_readValue kd_37 (g_at ck_X3_readPart 28 rfl) (sp_readValue hL hB hn hD h1) rfl rfl rfl ⟨by omega, by decide⟩ (Nat.le_of_ble_eq_true rfl) (by decide) (by decide) (fun x56 ρ9 m56 hq => ?_)
      obtain ⟨rfl, hR4, hD56, hx56, hF56⟩ := hq
      have ho56 := hD56.o
      exact tz_bret (g_at ck_X3_readPart 29 rfl) rfl (by omega) (rI_mk ⟨rfl, hR4, by unfold pt9; rw [if_neg h9, if_pos h52]; exact hD56, by unfold pt9; rw [if_neg h9, if_pos h52]; exact hx56, hF56⟩)
  · skip
    refine tz_aload0 (n := 13) (g_at ck_X3_readPart 5 rfl) rfl (g_ne kd_37) ?_
    refine tz_getOv (n := 16) (a := 38) fk_X3_14 kd_37 (ly_37_0 hL) (g_at ck_X3_readPart 6 rfl) rfl ?_
    refine tz_cvV0 (n := 19) (μ' := μX7_advance) (cb' := 0) (sb' := 0) ml_X3_101 mo_X7_advance mv_X7_advance np_X7_advance kd_38 (g_at ck_X3_readPart 7 rfl) (sp_advance hL hR hB hn (show 0 ≤ tQ t n (sP s) ∧ tQ t n (sP s) ≤ n by omega) hD.tk.1 hD.tk.2.1 hD.tk.q) rfl rfl rfl ⟨by omega, by decide⟩ (Nat.le_of_ble_eq_true rfl) (by decide) (by decide) (fun ρ9 m16 hq => ?_)
    obtain ⟨rfl, hR5, hF16, hC16⟩ := hq
    have hD16 := hD.nx hB hR5 hF16 hC16
    have hE16 : FE u m m16 := FE.tok hF16
    refine tz_aload0 (n := 20) (g_at ck_X3_readPart 8 rfl) rfl (g_ne kd_37) ?_
    refine tz_iload1 (n := 21) (g_at ck_X3_readPart 9 rfl) rfl ?_
    refine tz_iconst (n := 22) (g_at ck_X3_readPart 10 rfl) rfl ?_
    refine tz_iadd (n := 23) (g_at ck_X3_readPart 11 rfl) rfl ?_
    refine tz_cvI1 (n := 26) (μ' := μX3_readExpr) (cb' := 0) (sb' := 0) ml_X3_164 mo_X3_readExpr mv_X3_readExpr np_X3_readExpr kd_37 (g_at ck_X3_readPart 12 rfl) (hE u _ (nx9 t n s) hD16 h1) rfl rfl rfl ⟨by omega, by decide⟩ (Nat.le_of_ble_eq_true rfl) (by decide) (by decide) (fun x23 ρ9 m23 hq => ?_)
    obtain ⟨rfl, hR6, hD23, hx23, hF23⟩ := hq
    have ho23 := hD23.o
    refine tz_if_eq (n := 29) (tgt := 42) (g_at ck_X3_readPart 13 rfl) rfl rfl (by omega) (fun h26 => ?_) (fun h26 => ?_)
    · skip
      refine tz_iconst (n := 43) (g_at ck_X3_readPart 20 rfl) rfl ?_
      exact tz_bret (g_at ck_X3_readPart 21 rfl) rfl (by decide) (rI_mk ⟨rfl, hR6, by unfold pt9; rw [if_pos h9, if_neg (by omega)]; exact hD23, by unfold pt9; rw [if_pos h9, if_neg (by omega)]; exact (by omega), (hE16).tr hF23⟩)
    · skip
      refine tz_aload0 (n := 30) (g_at ck_X3_readPart 14 rfl) rfl (g_ne kd_37) ?_
      refine tz_bipush (n := 32) (g_at ck_X3_readPart 15 rfl) rfl rfl ?_
      refine tz_cvI1 (n := 35) (μ' := μX3_readSign) (cb' := 0) (sb' := 0) ml_X3_97 mo_X3_readSign mv_X3_readSign np_X3_readSign kd_37 (g_at ck_X3_readPart 16 rfl) (sp_readSign hL hB hn hD23 (by omega) (by decide)) rfl rfl rfl ⟨by omega, by decide⟩ (Nat.le_of_ble_eq_true rfl) (by decide) (by decide) (fun x32 ρ9 m32 hq => ?_)
      obtain ⟨rfl, hR7, hD32, hx32, hF32⟩ := hq
      have ho32 := hD32.o
      refine tz_if_eq (n := 38) (tgt := 42) (g_at ck_X3_readPart 17 rfl) rfl rfl (by omega) (fun h35 => ?_) (fun h35 => ?_)
      · skip
        refine tz_iconst (n := 43) (g_at ck_X3_readPart 20 rfl) rfl ?_
        exact tz_bret (g_at ck_X3_readPart 21 rfl) rfl (by decide) (rI_mk ⟨rfl, hR7, by unfold pt9; rw [if_pos h9, if_pos (by omega)]; exact hD32, by unfold pt9; rw [if_pos h9, if_pos (by omega)]; exact (by omega), (hE16.tr hF23).tr hF32⟩)
      · skip
        refine tz_iconst (n := 39) (g_at ck_X3_readPart 18 rfl) rfl ?_
        refine tz_goto (tgt := 43) (g_at ck_X3_readPart 19 rfl) rfl ?_
        exact tz_bret (g_at ck_X3_readPart 21 rfl) rfl (by decide) (rI_mk ⟨rfl, hR7, by unfold pt9; rw [if_pos h9, if_pos (by omega)]; exact hD32, by unfold pt9; rw [if_pos h9, if_pos (by omega)]; exact (by omega), (hE16.tr hF23).tr hF32⟩)
