/-! The law's calls of the class, with what they catch. -/
def wQ (kc : Int) (ρ m : Mm) (Q : Int → Mm → Mm → Prop) (k : Int) (ρ9 m9 : Mm) : Prop := (k = kc ∧ (kc = 1 ∨ kc = 2) ∧ ρ = ρ9 ∧ m = m9) ∨ (k = 0 ∧ ∃ x m1, Q x ρ9 m1 ∧ wr m1 122 0 (w32 x) = m9)
theorem wl_shire {l : Launch} {γ : Gh} {ρ m : Mm} {d mc ms : Nat} {a cd : Int} {Q : Int → Mm → Mm → Prop} (hE : gE l γ μX10_shire d mc ms (rI KK Q) (xC ρ m cd) KK ρ m [vR 1, vI a]) (hcd : cd ≠ 1) : gE l γ μL_shire (d + 1) mc ms (rI KK (wQ 1 ρ m Q)) xN KK ρ m [vR 1, vI a, vR 122] := by
  refine gE.ofwH cl_L.2 ?_ rfl rfl (Nat.le_of_ble_eq_true rfl)
  show gT l γ μL_shire (d + 1) mc ms _ _ KK ρ m 0 [some (vR 1), some (vI a), some (vR 122), none] []
  refine tz_aload2 (n := 1) (g_at ck_L_shire 0 rfl) rfl (g_ne kd_122) ?_
  refine tz_iconst (n := 2) (g_at ck_L_shire 1 rfl) rfl ?_
  refine tz_aload0 (n := 3) (g_at ck_L_shire 2 rfl) rfl (g_ne kd_1) ?_
  refine tz_iload1 (n := 4) (g_at ck_L_shire 3 rfl) rfl ?_
  refine tz_cvxI1 (n := 7) (μ' := μX10_shire) (cb' := 0) (sb' := 0) ml_L_7 mo_X10_shire mv_X10_shire np_X10_shire kd_1 (g_at ck_L_shire 4 rfl) hE rfl rfl rfl ⟨Nat.le_refl _, by decide⟩ (by decide) (Nat.le_refl _) (Nat.le_refl _) (g_in (g_m3 (List.mem_of_getElem? (i := 135) rfl)) rfl) (fun E9 ρ9 m9 h9 => ?_) (fun x ρ9 m9 hq => ?_)
  · obtain ⟨rfl, rfl, h9⟩ := h9
    rcases h9 with ⟨rfl, h9⟩ | ⟨rfl, h9⟩
    · exact absurd h9 hcd
    · refine tx_catch (i := 3) [] _ _ rfl (fun z hz => nomatch hz) rfl (by decide) (g_in (g_m3 (List.mem_of_getElem? (i := 134) rfl)) rfl) (g_inN (g_m3 (List.mem_of_getElem? (i := 141) rfl)) rfl) (Or.inr ⟨3, rfl, (g_at ck_L_shire 8 rfl), rfl⟩) (by decide) (fun u _ hu => by cases hu; decide) ?_
      refine tz_iconst (n := 14) (g_at ck_L_shire 9 rfl) rfl ?_
      exact tz_iret (g_at ck_L_shire 10 rfl) rfl (rI_mk (Or.inl ⟨rfl, Or.inl rfl, rfl, rfl⟩))
  · refine tz_i2l (n := 8) (g_at ck_L_shire 5 rfl) rfl ?_
    refine tz_last (n := 9) kd_122 (by decide) (g_at ck_L_shire 6 rfl) rfl ?_
    refine tz_goto (tgt := 15) (g_at ck_L_shire 7 rfl) rfl ?_
    refine tz_iconst (n := 16) (g_at ck_L_shire 11 rfl) rfl ?_
    exact tz_iret (g_at ck_L_shire 12 rfl) rfl (rI_mk (Or.inr ⟨rfl, x, m9, hq, rfl⟩))
theorem wl_count {l : Launch} {γ : Gh} {ρ m : Mm} {d mc ms : Nat} {a cd : Int} {Q : Int → Mm → Mm → Prop} (hE : gE l γ μX10_count d mc ms (rI KK Q) (xC ρ m cd) KK ρ m [vR 1, vI a]) (hcd : cd ≠ 2) : gE l γ μL_count (d + 1) mc ms (rI KK (wQ cd ρ m Q)) xN KK ρ m [vR 1, vI a, vR 122] := by
  refine gE.ofwH cl_L.2 ?_ rfl rfl (Nat.le_of_ble_eq_true rfl)
  show gT l γ μL_count (d + 1) mc ms _ _ KK ρ m 0 [some (vR 1), some (vI a), some (vR 122), none] []
  refine tz_aload2 (n := 1) (g_at ck_L_count 0 rfl) rfl (g_ne kd_122) ?_
  refine tz_iconst (n := 2) (g_at ck_L_count 1 rfl) rfl ?_
  refine tz_aload0 (n := 3) (g_at ck_L_count 2 rfl) rfl (g_ne kd_1) ?_
  refine tz_iload1 (n := 4) (g_at ck_L_count 3 rfl) rfl ?_
  refine tz_cvxI1 (n := 7) (μ' := μX10_count) (cb' := 0) (sb' := 0) ml_L_15 mo_X10_count mv_X10_count np_X10_count kd_1 (g_at ck_L_count 4 rfl) hE rfl rfl rfl ⟨Nat.le_refl _, by decide⟩ (by decide) (Nat.le_refl _) (Nat.le_refl _) (g_in (g_m4 (List.mem_of_getElem? (i := 224) rfl)) rfl) (fun E9 ρ9 m9 h9 => ?_) (fun x ρ9 m9 hq => ?_)
  · obtain ⟨rfl, rfl, h9⟩ := h9
    rcases h9 with ⟨rfl, h9⟩ | ⟨rfl, h9⟩
    · refine tx_catch (i := 3) [] _ _ rfl (fun z hz => nomatch hz) rfl (by decide) (g_in (g_m4 (List.mem_of_getElem? (i := 223) rfl)) rfl) (g_inN (g_m4 (List.mem_of_getElem? (i := 233) rfl)) rfl) (Or.inr ⟨3, rfl, (g_at ck_L_count 8 rfl), rfl⟩) (by decide) (fun u _ hu => by cases hu; decide) ?_
      refine tz_iconst (n := 14) (g_at ck_L_count 9 rfl) rfl ?_
      exact tz_iret (g_at ck_L_count 10 rfl) rfl (rI_mk (Or.inl ⟨h9.symm, Or.inl h9, rfl, rfl⟩))
    · exact absurd h9 hcd
  · refine tz_i2l (n := 8) (g_at ck_L_count 5 rfl) rfl ?_
    refine tz_last (n := 9) kd_122 (by decide) (g_at ck_L_count 6 rfl) rfl ?_
    refine tz_goto (tgt := 15) (g_at ck_L_count 7 rfl) rfl ?_
    refine tz_iconst (n := 16) (g_at ck_L_count 11 rfl) rfl ?_
    exact tz_iret (g_at ck_L_count 12 rfl) rfl (rI_mk (Or.inr ⟨rfl, x, m9, hq, rfl⟩))
theorem wl_crossing {l : Launch} {γ : Gh} {ρ m : Mm} {d mc ms : Nat} {a b cd : Int} {Q : Int → Mm → Mm → Prop} (hE : gE l γ μX10_crossing d mc ms (rI KK Q) (xC ρ m cd) KK ρ m [vR 1, vI a, vI b]) (hcd : cd ≠ 2) : gE l γ μL_crossing (d + 1) mc ms (rI KK (wQ cd ρ m Q)) xN KK ρ m [vR 1, vI a, vI b, vR 122] := by
  refine gE.ofwH cl_L.2 ?_ rfl rfl (Nat.le_of_ble_eq_true rfl)
  show gT l γ μL_crossing (d + 1) mc ms _ _ KK ρ m 0 [some (vR 1), some (vI a), some (vI b), some (vR 122), none] []
  refine tz_aload3 (n := 1) (g_at ck_L_crossing 0 rfl) rfl (g_ne kd_122) ?_
  refine tz_iconst (n := 2) (g_at ck_L_crossing 1 rfl) rfl ?_
  refine tz_aload0 (n := 3) (g_at ck_L_crossing 2 rfl) rfl (g_ne kd_1) ?_
  refine tz_iload1 (n := 4) (g_at ck_L_crossing 3 rfl) rfl ?_
  refine tz_iload2 (n := 5) (g_at ck_L_crossing 4 rfl) rfl ?_
  refine tz_cvxI2 (n := 8) (μ' := μX10_crossing) (cb' := 0) (sb' := 0) ml_L_20 mo_X10_crossing mv_X10_crossing np_X10_crossing kd_1 (g_at ck_L_crossing 5 rfl) hE rfl rfl rfl ⟨Nat.le_refl _, by decide⟩ (by decide) (Nat.le_refl _) (Nat.le_refl _) (g_in (g_m5 (List.mem_of_getElem? (i := 37) rfl)) rfl) (fun E9 ρ9 m9 h9 => ?_) (fun x ρ9 m9 hq => ?_)
  · obtain ⟨rfl, rfl, h9⟩ := h9
    rcases h9 with ⟨rfl, h9⟩ | ⟨rfl, h9⟩
    · refine tx_catch (i := 4) [] _ _ rfl (fun z hz => nomatch hz) rfl (by decide) (g_in (g_m4 (List.mem_of_getElem? (i := 223) rfl)) rfl) (g_inN (g_m4 (List.mem_of_getElem? (i := 233) rfl)) rfl) (Or.inl ⟨(g_at ck_L_crossing 9 rfl), rfl⟩) (by decide) (fun u _ hu => by cases hu; decide) ?_
      refine tz_iconst (n := 16) (g_at ck_L_crossing 10 rfl) rfl ?_
      exact tz_iret (g_at ck_L_crossing 11 rfl) rfl (rI_mk (Or.inl ⟨h9.symm, Or.inl h9, rfl, rfl⟩))
    · exact absurd h9 hcd
  · refine tz_i2l (n := 9) (g_at ck_L_crossing 6 rfl) rfl ?_
    refine tz_last (n := 10) kd_122 (by decide) (g_at ck_L_crossing 7 rfl) rfl ?_
    refine tz_goto (tgt := 17) (g_at ck_L_crossing 8 rfl) rfl ?_
    refine tz_iconst (n := 18) (g_at ck_L_crossing 12 rfl) rfl ?_
    exact tz_iret (g_at ck_L_crossing 13 rfl) rfl (rI_mk (Or.inr ⟨rfl, x, m9, hq, rfl⟩))
theorem wl_road {l : Launch} {γ : Gh} {ρ m : Mm} {d mc ms : Nat} {a b c cd : Int} {Q : Int → Mm → Mm → Prop} (hE : gE l γ μX10_road d mc ms (rI KK Q) (xC ρ m cd) KK ρ m [vR 1, vI a, vI b, vI c]) (hcd : cd ≠ 2) : gE l γ μL_road (d + 1) mc ms (rI KK (wQ cd ρ m Q)) xN KK ρ m [vR 1, vI a, vI b, vI c, vR 122] := by
  refine gE.ofwH cl_L.2 ?_ rfl rfl (Nat.le_of_ble_eq_true rfl)
  show gT l γ μL_road (d + 1) mc ms _ _ KK ρ m 0 [some (vR 1), some (vI a), some (vI b), some (vI c), some (vR 122), none] []
  refine tz_aload4 (n := 2) (g_at ck_L_road 0 rfl) rfl (g_ne kd_122) ?_
  refine tz_iconst (n := 3) (g_at ck_L_road 1 rfl) rfl ?_
  refine tz_aload0 (n := 4) (g_at ck_L_road 2 rfl) rfl (g_ne kd_1) ?_
  refine tz_iload1 (n := 5) (g_at ck_L_road 3 rfl) rfl ?_
  refine tz_iload2 (n := 6) (g_at ck_L_road 4 rfl) rfl ?_
  refine tz_iload3 (n := 7) (g_at ck_L_road 5 rfl) rfl ?_
  refine tz_cvxI3 (n := 10) (μ' := μX10_road) (cb' := 0) (sb' := 0) ml_L_24 mo_X10_road mv_X10_road np_X10_road kd_1 (g_at ck_L_road 6 rfl) hE rfl rfl rfl ⟨Nat.le_refl _, by decide⟩ (by decide) (Nat.le_refl _) (Nat.le_refl _) (g_in (g_m5 (List.mem_of_getElem? (i := 50) rfl)) rfl) (fun E9 ρ9 m9 h9 => ?_) (fun x ρ9 m9 hq => ?_)
  · obtain ⟨rfl, rfl, h9⟩ := h9
    rcases h9 with ⟨rfl, h9⟩ | ⟨rfl, h9⟩
    · refine tx_catch (i := 5) [] _ _ rfl (fun z hz => nomatch hz) rfl (by decide) (g_in (g_m4 (List.mem_of_getElem? (i := 223) rfl)) rfl) (g_inN (g_m4 (List.mem_of_getElem? (i := 233) rfl)) rfl) (Or.inl ⟨(g_at ck_L_road 10 rfl), rfl⟩) (by decide) (fun u _ hu => by cases hu; decide) ?_
      refine tz_iconst (n := 18) (g_at ck_L_road 11 rfl) rfl ?_
      exact tz_iret (g_at ck_L_road 12 rfl) rfl (rI_mk (Or.inl ⟨h9.symm, Or.inl h9, rfl, rfl⟩))
    · exact absurd h9 hcd
  · refine tz_i2l (n := 11) (g_at ck_L_road 7 rfl) rfl ?_
    refine tz_last (n := 12) kd_122 (by decide) (g_at ck_L_road 8 rfl) rfl ?_
    refine tz_goto (tgt := 19) (g_at ck_L_road 9 rfl) rfl ?_
    refine tz_iconst (n := 20) (g_at ck_L_road 13 rfl) rfl ?_
    exact tz_iret (g_at ck_L_road 14 rfl) rfl (rI_mk (Or.inr ⟨rfl, x, m9, hq, rfl⟩))
theorem wl_person {l : Launch} {γ : Gh} {ρ m : Mm} {d mc ms : Nat} {a b cd : Int} {Q : Int → Mm → Mm → Prop} (hE : gE l γ μX10_person d mc ms (rI KK Q) (xC ρ m cd) KK ρ m [vR 1, vI a, vI b]) (hcd : cd ≠ 2) : gE l γ μL_person (d + 1) mc ms (rI KK (wQ cd ρ m Q)) xN KK ρ m [vR 1, vI a, vI b, vR 122] := by
  refine gE.ofwH cl_L.2 ?_ rfl rfl (Nat.le_of_ble_eq_true rfl)
  show gT l γ μL_person (d + 1) mc ms _ _ KK ρ m 0 [some (vR 1), some (vI a), some (vI b), some (vR 122), none] []
  refine tz_aload3 (n := 1) (g_at ck_L_person 0 rfl) rfl (g_ne kd_122) ?_
  refine tz_iconst (n := 2) (g_at ck_L_person 1 rfl) rfl ?_
  refine tz_aload0 (n := 3) (g_at ck_L_person 2 rfl) rfl (g_ne kd_1) ?_
  refine tz_iload1 (n := 4) (g_at ck_L_person 3 rfl) rfl ?_
  refine tz_iload2 (n := 5) (g_at ck_L_person 4 rfl) rfl ?_
  refine tz_cvxI2 (n := 8) (μ' := μX10_person) (cb' := 0) (sb' := 0) ml_L_28 mo_X10_person mv_X10_person np_X10_person kd_1 (g_at ck_L_person 5 rfl) hE rfl rfl rfl ⟨Nat.le_refl _, by decide⟩ (by decide) (Nat.le_refl _) (Nat.le_refl _) (g_in (g_m5 (List.mem_of_getElem? (i := 64) rfl)) rfl) (fun E9 ρ9 m9 h9 => ?_) (fun x ρ9 m9 hq => ?_)
  · obtain ⟨rfl, rfl, h9⟩ := h9
    rcases h9 with ⟨rfl, h9⟩ | ⟨rfl, h9⟩
    · refine tx_catch (i := 4) [] _ _ rfl (fun z hz => nomatch hz) rfl (by decide) (g_in (g_m4 (List.mem_of_getElem? (i := 223) rfl)) rfl) (g_inN (g_m4 (List.mem_of_getElem? (i := 233) rfl)) rfl) (Or.inl ⟨(g_at ck_L_person 9 rfl), rfl⟩) (by decide) (fun u _ hu => by cases hu; decide) ?_
      refine tz_iconst (n := 16) (g_at ck_L_person 10 rfl) rfl ?_
      exact tz_iret (g_at ck_L_person 11 rfl) rfl (rI_mk (Or.inl ⟨h9.symm, Or.inl h9, rfl, rfl⟩))
    · exact absurd h9 hcd
  · refine tz_i2l (n := 9) (g_at ck_L_person 6 rfl) rfl ?_
    refine tz_last (n := 10) kd_122 (by decide) (g_at ck_L_person 7 rfl) rfl ?_
    refine tz_goto (tgt := 17) (g_at ck_L_person 8 rfl) rfl ?_
    refine tz_iconst (n := 18) (g_at ck_L_person 12 rfl) rfl ?_
    exact tz_iret (g_at ck_L_person 13 rfl) rfl (rI_mk (Or.inr ⟨rfl, x, m9, hq, rfl⟩))
theorem wl_turn {l : Launch} {γ : Gh} {ρ m : Mm} {d mc ms : Nat} {a b cd : Int} {Q : Int → Mm → Mm → Prop} (hE : gE l γ μX10_turn d mc ms (rI KK Q) (xC ρ m cd) KK ρ m [vR 1, vI a, vI b]) (hcd : cd ≠ 2) : gE l γ μL_turn (d + 1) mc ms (rI KK (wQ cd ρ m Q)) xN KK ρ m [vR 1, vI a, vI b, vR 122] := by
  refine gE.ofwH cl_L.2 ?_ rfl rfl (Nat.le_of_ble_eq_true rfl)
  show gT l γ μL_turn (d + 1) mc ms _ _ KK ρ m 0 [some (vR 1), some (vI a), some (vI b), some (vR 122), none] []
  refine tz_aload3 (n := 1) (g_at ck_L_turn 0 rfl) rfl (g_ne kd_122) ?_
  refine tz_iconst (n := 2) (g_at ck_L_turn 1 rfl) rfl ?_
  refine tz_aload0 (n := 3) (g_at ck_L_turn 2 rfl) rfl (g_ne kd_1) ?_
  refine tz_iload1 (n := 4) (g_at ck_L_turn 3 rfl) rfl ?_
  refine tz_iload2 (n := 5) (g_at ck_L_turn 4 rfl) rfl ?_
  refine tz_cvxI2 (n := 8) (μ' := μX10_turn) (cb' := 0) (sb' := 0) ml_L_31 mo_X10_turn mv_X10_turn np_X10_turn kd_1 (g_at ck_L_turn 5 rfl) hE rfl rfl rfl ⟨Nat.le_refl _, by decide⟩ (by decide) (Nat.le_refl _) (Nat.le_refl _) (g_in (g_m5 (List.mem_of_getElem? (i := 113) rfl)) rfl) (fun E9 ρ9 m9 h9 => ?_) (fun x ρ9 m9 hq => ?_)
  · obtain ⟨rfl, rfl, h9⟩ := h9
    rcases h9 with ⟨rfl, h9⟩ | ⟨rfl, h9⟩
    · refine tx_catch (i := 4) [] _ _ rfl (fun z hz => nomatch hz) rfl (by decide) (g_in (g_m4 (List.mem_of_getElem? (i := 223) rfl)) rfl) (g_inN (g_m4 (List.mem_of_getElem? (i := 233) rfl)) rfl) (Or.inl ⟨(g_at ck_L_turn 9 rfl), rfl⟩) (by decide) (fun u _ hu => by cases hu; decide) ?_
      refine tz_iconst (n := 16) (g_at ck_L_turn 10 rfl) rfl ?_
      exact tz_iret (g_at ck_L_turn 11 rfl) rfl (rI_mk (Or.inl ⟨h9.symm, Or.inl h9, rfl, rfl⟩))
    · exact absurd h9 hcd
  · refine tz_i2l (n := 9) (g_at ck_L_turn 6 rfl) rfl ?_
    refine tz_last (n := 10) kd_122 (by decide) (g_at ck_L_turn 7 rfl) rfl ?_
    refine tz_goto (tgt := 17) (g_at ck_L_turn 8 rfl) rfl ?_
    refine tz_iconst (n := 18) (g_at ck_L_turn 12 rfl) rfl ?_
    exact tz_iret (g_at ck_L_turn 13 rfl) rfl (rI_mk (Or.inr ⟨rfl, x, m9, hq, rfl⟩))
theorem wl_shut {l : Launch} {γ : Gh} {ρ m : Mm} {d mc ms : Nat} {a b c cd : Int} {Q : Int → Mm → Mm → Prop} (hE : gE l γ μX10_shut d mc ms (rI KK Q) (xC ρ m cd) KK ρ m [vR 1, vI a, vI b, vI c]) (hcd : cd ≠ 2) (hb : ∀ x ρ9 m9, Q x ρ9 m9 → x = 0 ∨ x = 1) : gE l γ μL_shut (d + 1) mc ms (rI KK (wQ cd ρ m Q)) xN KK ρ m [vR 1, vI a, vI b, vI c, vR 122] := by
  refine gE.ofwH cl_L.2 ?_ rfl rfl (Nat.le_of_ble_eq_true rfl)
  show gT l γ μL_shut (d + 1) mc ms _ _ KK ρ m 0 [some (vR 1), some (vI a), some (vI b), some (vI c), some (vR 122), none] []
  refine tz_aload4 (n := 2) (g_at ck_L_shut 0 rfl) rfl (g_ne kd_122) ?_
  refine tz_iconst (n := 3) (g_at ck_L_shut 1 rfl) rfl ?_
  refine tz_aload0 (n := 4) (g_at ck_L_shut 2 rfl) rfl (g_ne kd_1) ?_
  refine tz_iload1 (n := 5) (g_at ck_L_shut 3 rfl) rfl ?_
  refine tz_iload2 (n := 6) (g_at ck_L_shut 4 rfl) rfl ?_
  refine tz_iload3 (n := 7) (g_at ck_L_shut 5 rfl) rfl ?_
  refine tz_cvxI3 (n := 10) (μ' := μX10_shut) (cb' := 0) (sb' := 0) ml_L_34 mo_X10_shut mv_X10_shut np_X10_shut kd_1 (g_at ck_L_shut 6 rfl) hE rfl rfl rfl ⟨Nat.le_refl _, by decide⟩ (by decide) (Nat.le_refl _) (Nat.le_refl _) (g_in (g_m5 (List.mem_of_getElem? (i := 120) rfl)) rfl) (fun E9 ρ9 m9 h9 => ?_) (fun x ρ9 m9 hq => ?_)
  · obtain ⟨rfl, rfl, h9⟩ := h9
    rcases h9 with ⟨rfl, h9⟩ | ⟨rfl, h9⟩
    · refine tx_catch (i := 5) [] _ _ rfl (fun z hz => nomatch hz) rfl (by decide) (g_in (g_m4 (List.mem_of_getElem? (i := 223) rfl)) rfl) (g_inN (g_m4 (List.mem_of_getElem? (i := 233) rfl)) rfl) (Or.inl ⟨(g_at ck_L_shut 13 rfl), rfl⟩) (by decide) (fun u _ hu => by cases hu; decide) ?_
      refine tz_iconst (n := 25) (g_at ck_L_shut 14 rfl) rfl ?_
      exact tz_iret (g_at ck_L_shut 15 rfl) rfl (rI_mk (Or.inl ⟨h9.symm, Or.inl h9, rfl, rfl⟩))
    · exact absurd h9 hcd
  · have h01 := hb x ρ9 m9 hq
    refine tz_if_eq (n := 13) (tgt := 17) (g_at ck_L_shut 7 rfl) rfl rfl (by omega) (fun h0 => ?_) (fun h0 => ?_)
    · refine tz_lconst (n := 18) (g_at ck_L_shut 10 rfl) rfl ?_
      refine tz_last (n := 19) kd_122 (by decide) (g_at ck_L_shut 11 rfl) rfl ?_
      refine tz_goto (tgt := 26) (g_at ck_L_shut 12 rfl) rfl ?_
      refine tz_iconst (n := 27) (g_at ck_L_shut 16 rfl) rfl ?_
      exact tz_iret (g_at ck_L_shut 17 rfl) rfl (rI_mk (Or.inr ⟨rfl, x, m9, hq, by rw [h0]; rfl⟩))
    · refine tz_lconst (n := 14) (g_at ck_L_shut 8 rfl) rfl ?_
      refine tz_goto (tgt := 18) (g_at ck_L_shut 9 rfl) rfl ?_
      refine tz_last (n := 19) kd_122 (by decide) (g_at ck_L_shut 11 rfl) rfl ?_
      refine tz_goto (tgt := 26) (g_at ck_L_shut 12 rfl) rfl ?_
      refine tz_iconst (n := 27) (g_at ck_L_shut 16 rfl) rfl ?_
      exact tz_iret (g_at ck_L_shut 17 rfl) rfl (rI_mk (Or.inr ⟨rfl, x, m9, hq, by rw [show x = 1 by omega]; rfl⟩))
theorem wl_fill {l : Launch} {γ : Gh} {ρ m : Mm} {d mc ms : Nat} {a b cd : Int} {Q : Int → Mm → Mm → Prop} (hE : gE l γ μX10_fill d mc ms (rI KK Q) (xC ρ m cd) KK ρ m [vR 1, vI a, vI b]) (hcd : cd ≠ 2) : gE l γ μL_fill (d + 1) mc ms (rI KK (wQ cd ρ m Q)) xN KK ρ m [vR 1, vI a, vI b, vR 122] := by
  refine gE.ofwH cl_L.2 ?_ rfl rfl (Nat.le_of_ble_eq_true rfl)
  show gT l γ μL_fill (d + 1) mc ms _ _ KK ρ m 0 [some (vR 1), some (vI a), some (vI b), some (vR 122), none] []
  refine tz_aload3 (n := 1) (g_at ck_L_fill 0 rfl) rfl (g_ne kd_122) ?_
  refine tz_iconst (n := 2) (g_at ck_L_fill 1 rfl) rfl ?_
  refine tz_aload0 (n := 3) (g_at ck_L_fill 2 rfl) rfl (g_ne kd_1) ?_
  refine tz_iload1 (n := 4) (g_at ck_L_fill 3 rfl) rfl ?_
  refine tz_iload2 (n := 5) (g_at ck_L_fill 4 rfl) rfl ?_
  refine tz_cvxI2 (n := 8) (μ' := μX10_fill) (cb' := 0) (sb' := 0) ml_L_38 mo_X10_fill mv_X10_fill np_X10_fill kd_1 (g_at ck_L_fill 5 rfl) hE rfl rfl rfl ⟨Nat.le_refl _, by decide⟩ (by decide) (Nat.le_refl _) (Nat.le_refl _) (g_in (g_m5 (List.mem_of_getElem? (i := 127) rfl)) rfl) (fun E9 ρ9 m9 h9 => ?_) (fun x ρ9 m9 hq => ?_)
  · obtain ⟨rfl, rfl, h9⟩ := h9
    rcases h9 with ⟨rfl, h9⟩ | ⟨rfl, h9⟩
    · refine tx_catch (i := 4) [] _ _ rfl (fun z hz => nomatch hz) rfl (by decide) (g_in (g_m4 (List.mem_of_getElem? (i := 223) rfl)) rfl) (g_inN (g_m4 (List.mem_of_getElem? (i := 233) rfl)) rfl) (Or.inl ⟨(g_at ck_L_fill 9 rfl), rfl⟩) (by decide) (fun u _ hu => by cases hu; decide) ?_
      refine tz_iconst (n := 16) (g_at ck_L_fill 10 rfl) rfl ?_
      exact tz_iret (g_at ck_L_fill 11 rfl) rfl (rI_mk (Or.inl ⟨h9.symm, Or.inl h9, rfl, rfl⟩))
    · exact absurd h9 hcd
  · refine tz_i2l (n := 9) (g_at ck_L_fill 6 rfl) rfl ?_
    refine tz_last (n := 10) kd_122 (by decide) (g_at ck_L_fill 7 rfl) rfl ?_
    refine tz_goto (tgt := 17) (g_at ck_L_fill 8 rfl) rfl ?_
    refine tz_iconst (n := 18) (g_at ck_L_fill 12 rfl) rfl ?_
    exact tz_iret (g_at ck_L_fill 13 rfl) rfl (rI_mk (Or.inr ⟨rfl, x, m9, hq, rfl⟩))
theorem wl_set {l : Launch} {γ : Gh} {ρ m : Mm} {d mc ms : Nat} {a b cd : Int} {Q : Int → Mm → Mm → Prop} (hE : gE l γ μX10_set d mc ms (rI KK Q) (xC ρ m cd) KK ρ m [vR 1, vI a, vI b]) (hcd : cd ≠ 2) : gE l γ μL_set (d + 1) mc ms (rI KK (wQ cd ρ m Q)) xN KK ρ m [vR 1, vI a, vI b, vR 122] := by
  refine gE.ofwH cl_L.2 ?_ rfl rfl (Nat.le_of_ble_eq_true rfl)
  show gT l γ μL_set (d + 1) mc ms _ _ KK ρ m 0 [some (vR 1), some (vI a), some (vI b), some (vR 122), none] []
  refine tz_aload3 (n := 1) (g_at ck_L_set 0 rfl) rfl (g_ne kd_122) ?_
  refine tz_iconst (n := 2) (g_at ck_L_set 1 rfl) rfl ?_
  refine tz_aload0 (n := 3) (g_at ck_L_set 2 rfl) rfl (g_ne kd_1) ?_
  refine tz_iload1 (n := 4) (g_at ck_L_set 3 rfl) rfl ?_
  refine tz_iload2 (n := 5) (g_at ck_L_set 4 rfl) rfl ?_
  refine tz_cvxI2 (n := 8) (μ' := μX10_set) (cb' := 0) (sb' := 0) ml_L_41 mo_X10_set mv_X10_set np_X10_set kd_1 (g_at ck_L_set 5 rfl) hE rfl rfl rfl ⟨Nat.le_refl _, by decide⟩ (by decide) (Nat.le_refl _) (Nat.le_refl _) (g_in (g_m5 (List.mem_of_getElem? (i := 134) rfl)) rfl) (fun E9 ρ9 m9 h9 => ?_) (fun x ρ9 m9 hq => ?_)
  · obtain ⟨rfl, rfl, h9⟩ := h9
    rcases h9 with ⟨rfl, h9⟩ | ⟨rfl, h9⟩
    · refine tx_catch (i := 4) [] _ _ rfl (fun z hz => nomatch hz) rfl (by decide) (g_in (g_m4 (List.mem_of_getElem? (i := 223) rfl)) rfl) (g_inN (g_m4 (List.mem_of_getElem? (i := 233) rfl)) rfl) (Or.inl ⟨(g_at ck_L_set 9 rfl), rfl⟩) (by decide) (fun u _ hu => by cases hu; decide) ?_
      refine tz_iconst (n := 16) (g_at ck_L_set 10 rfl) rfl ?_
      exact tz_iret (g_at ck_L_set 11 rfl) rfl (rI_mk (Or.inl ⟨h9.symm, Or.inl h9, rfl, rfl⟩))
    · exact absurd h9 hcd
  · refine tz_i2l (n := 9) (g_at ck_L_set 6 rfl) rfl ?_
    refine tz_last (n := 10) kd_122 (by decide) (g_at ck_L_set 7 rfl) rfl ?_
    refine tz_goto (tgt := 17) (g_at ck_L_set 8 rfl) rfl ?_
    refine tz_iconst (n := 18) (g_at ck_L_set 12 rfl) rfl ?_
    exact tz_iret (g_at ck_L_set 13 rfl) rfl (rI_mk (Or.inr ⟨rfl, x, m9, hq, rfl⟩))
theorem wl_then {l : Launch} {γ : Gh} {ρ m : Mm} {d mc ms : Nat} {a b c cd : Int} {Q : Int → Mm → Mm → Prop} (hE : gE l γ μX10_then d mc ms (rI KK Q) (xC ρ m cd) KK ρ m [vR 1, vI a, vI b, vI c])  : gE l γ μL_then (d + 1) mc ms (rI KK (wQ cd ρ m Q)) xN KK ρ m [vR 1, vI a, vI b, vI c, vR 122] := by
  refine gE.ofwH cl_L.2 ?_ rfl rfl (Nat.le_of_ble_eq_true rfl)
  show gT l γ μL_then (d + 1) mc ms _ _ KK ρ m 0 [some (vR 1), some (vI a), some (vI b), some (vI c), some (vR 122), none] []
  refine tz_aload4 (n := 2) (g_at ck_L_then 0 rfl) rfl (g_ne kd_122) ?_
  refine tz_iconst (n := 3) (g_at ck_L_then 1 rfl) rfl ?_
  refine tz_aload0 (n := 4) (g_at ck_L_then 2 rfl) rfl (g_ne kd_1) ?_
  refine tz_iload1 (n := 5) (g_at ck_L_then 3 rfl) rfl ?_
  refine tz_iload2 (n := 6) (g_at ck_L_then 4 rfl) rfl ?_
  refine tz_iload3 (n := 7) (g_at ck_L_then 5 rfl) rfl ?_
  refine tz_cvxI3 (n := 10) (μ' := μX10_then) (cb' := 0) (sb' := 0) ml_L_44 mo_X10_then mv_X10_then np_X10_then kd_1 (g_at ck_L_then 6 rfl) hE rfl rfl rfl ⟨Nat.le_refl _, by decide⟩ (by decide) (Nat.le_refl _) (Nat.le_refl _) (g_in (g_m5 (List.mem_of_getElem? (i := 141) rfl)) rfl) (fun E9 ρ9 m9 h9 => ?_) (fun x ρ9 m9 hq => ?_)
  · obtain ⟨rfl, rfl, h9⟩ := h9
    rcases h9 with ⟨rfl, h9⟩ | ⟨rfl, h9⟩
    · refine tx_catch (i := 5) [] _ _ rfl (fun z hz => nomatch hz) rfl (by decide) (g_in (g_m4 (List.mem_of_getElem? (i := 223) rfl)) rfl) (g_inN (g_m4 (List.mem_of_getElem? (i := 233) rfl)) rfl) (Or.inl ⟨(g_at ck_L_then 10 rfl), rfl⟩) (by decide) (fun u _ hu => by cases hu; decide) ?_
      refine tz_iconst (n := 18) (g_at ck_L_then 11 rfl) rfl ?_
      exact tz_iret (g_at ck_L_then 12 rfl) rfl (rI_mk (Or.inl ⟨h9.symm, Or.inl h9, rfl, rfl⟩))
    · refine tx_catch (i := 5) [_] _ _ rfl (fun z hz => Or.inr (by rw [List.mem_singleton.mp hz]; exact ⟨by decide, (g_in (g_m4 (List.mem_of_getElem? (i := 223) rfl)) rfl), rfl⟩)) rfl (by decide) (g_in (g_m3 (List.mem_of_getElem? (i := 134) rfl)) rfl) (g_inN (g_m3 (List.mem_of_getElem? (i := 141) rfl)) rfl) (Or.inl ⟨(g_at ck_L_then 13 rfl), rfl⟩) (by decide) (fun u _ hu => by cases hu; decide) ?_
      refine tz_iconst (n := 22) (g_at ck_L_then 14 rfl) rfl ?_
      exact tz_iret (g_at ck_L_then 15 rfl) rfl (rI_mk (Or.inl ⟨h9.symm, Or.inr h9, rfl, rfl⟩))
  · refine tz_i2l (n := 11) (g_at ck_L_then 7 rfl) rfl ?_
    refine tz_last (n := 12) kd_122 (by decide) (g_at ck_L_then 8 rfl) rfl ?_
    refine tz_goto (tgt := 23) (g_at ck_L_then 9 rfl) rfl ?_
    refine tz_iconst (n := 24) (g_at ck_L_then 16 rfl) rfl ?_
    exact tz_iret (g_at ck_L_then 17 rfl) rfl (rI_mk (Or.inr ⟨rfl, x, m9, hq, rfl⟩))
theorem wl_points {l : Launch} {γ : Gh} {ρ m : Mm} {d mc ms : Nat} {a b cd : Int} {Q : Int → Mm → Mm → Prop} (hE : gE l γ μX10_points d mc ms (rI KK Q) (xC ρ m cd) KK ρ m [vR 1, vI a, vI b])  : gE l γ μL_points (d + 1) mc ms (rI KK (wQ cd ρ m Q)) xN KK ρ m [vR 1, vI a, vI b, vR 122] := by
  refine gE.ofwH cl_L.2 ?_ rfl rfl (Nat.le_of_ble_eq_true rfl)
  show gT l γ μL_points (d + 1) mc ms _ _ KK ρ m 0 [some (vR 1), some (vI a), some (vI b), some (vR 122), none] []
  refine tz_aload3 (n := 1) (g_at ck_L_points 0 rfl) rfl (g_ne kd_122) ?_
  refine tz_iconst (n := 2) (g_at ck_L_points 1 rfl) rfl ?_
  refine tz_aload0 (n := 3) (g_at ck_L_points 2 rfl) rfl (g_ne kd_1) ?_
  refine tz_iload1 (n := 4) (g_at ck_L_points 3 rfl) rfl ?_
  refine tz_iload2 (n := 5) (g_at ck_L_points 4 rfl) rfl ?_
  refine tz_cvxI2 (n := 8) (μ' := μX10_points) (cb' := 0) (sb' := 0) ml_L_47 mo_X10_points mv_X10_points np_X10_points kd_1 (g_at ck_L_points 5 rfl) hE rfl rfl rfl ⟨Nat.le_refl _, by decide⟩ (by decide) (Nat.le_refl _) (Nat.le_refl _) (g_in (g_m5 (List.mem_of_getElem? (i := 152) rfl)) rfl) (fun E9 ρ9 m9 h9 => ?_) (fun x ρ9 m9 hq => ?_)
  · obtain ⟨rfl, rfl, h9⟩ := h9
    rcases h9 with ⟨rfl, h9⟩ | ⟨rfl, h9⟩
    · refine tx_catch (i := 4) [] _ _ rfl (fun z hz => nomatch hz) rfl (by decide) (g_in (g_m4 (List.mem_of_getElem? (i := 223) rfl)) rfl) (g_inN (g_m4 (List.mem_of_getElem? (i := 233) rfl)) rfl) (Or.inl ⟨(g_at ck_L_points 9 rfl), rfl⟩) (by decide) (fun u _ hu => by cases hu; decide) ?_
      refine tz_iconst (n := 16) (g_at ck_L_points 10 rfl) rfl ?_
      exact tz_iret (g_at ck_L_points 11 rfl) rfl (rI_mk (Or.inl ⟨h9.symm, Or.inl h9, rfl, rfl⟩))
    · refine tx_catch (i := 4) [_] _ _ rfl (fun z hz => Or.inr (by rw [List.mem_singleton.mp hz]; exact ⟨by decide, (g_in (g_m4 (List.mem_of_getElem? (i := 223) rfl)) rfl), rfl⟩)) rfl (by decide) (g_in (g_m3 (List.mem_of_getElem? (i := 134) rfl)) rfl) (g_inN (g_m3 (List.mem_of_getElem? (i := 141) rfl)) rfl) (Or.inl ⟨(g_at ck_L_points 12 rfl), rfl⟩) (by decide) (fun u _ hu => by cases hu; decide) ?_
      refine tz_iconst (n := 20) (g_at ck_L_points 13 rfl) rfl ?_
      exact tz_iret (g_at ck_L_points 14 rfl) rfl (rI_mk (Or.inl ⟨h9.symm, Or.inr h9, rfl, rfl⟩))
  · refine tz_i2l (n := 9) (g_at ck_L_points 6 rfl) rfl ?_
    refine tz_last (n := 10) kd_122 (by decide) (g_at ck_L_points 7 rfl) rfl ?_
    refine tz_goto (tgt := 21) (g_at ck_L_points 8 rfl) rfl ?_
    refine tz_iconst (n := 22) (g_at ck_L_points 15 rfl) rfl ?_
    exact tz_iret (g_at ck_L_points 16 rfl) rfl (rI_mk (Or.inr ⟨rfl, x, m9, hq, rfl⟩))
theorem wl_comes {l : Launch} {γ : Gh} {ρ m : Mm} {d mc ms : Nat} {a b cd : Int} {Q : Int → Mm → Mm → Prop} (hE : gE l γ μX10_comes d mc ms (rI KK Q) (xC ρ m cd) KK ρ m [vR 1, vI a, vI b]) (hcd : cd ≠ 2) : gE l γ μL_comes (d + 1) mc ms (rI KK (wQ cd ρ m Q)) xN KK ρ m [vR 1, vI a, vI b, vR 122] := by
  refine gE.ofwH cl_L.2 ?_ rfl rfl (Nat.le_of_ble_eq_true rfl)
  show gT l γ μL_comes (d + 1) mc ms _ _ KK ρ m 0 [some (vR 1), some (vI a), some (vI b), some (vR 122), none] []
  refine tz_aload3 (n := 1) (g_at ck_L_comes 0 rfl) rfl (g_ne kd_122) ?_
  refine tz_iconst (n := 2) (g_at ck_L_comes 1 rfl) rfl ?_
  refine tz_aload0 (n := 3) (g_at ck_L_comes 2 rfl) rfl (g_ne kd_1) ?_
  refine tz_iload1 (n := 4) (g_at ck_L_comes 3 rfl) rfl ?_
  refine tz_iload2 (n := 5) (g_at ck_L_comes 4 rfl) rfl ?_
  refine tz_cvxI2 (n := 8) (μ' := μX10_comes) (cb' := 0) (sb' := 0) ml_L_50 mo_X10_comes mv_X10_comes np_X10_comes kd_1 (g_at ck_L_comes 5 rfl) hE rfl rfl rfl ⟨Nat.le_refl _, by decide⟩ (by decide) (Nat.le_refl _) (Nat.le_refl _) (g_in (g_m5 (List.mem_of_getElem? (i := 159) rfl)) rfl) (fun E9 ρ9 m9 h9 => ?_) (fun x ρ9 m9 hq => ?_)
  · obtain ⟨rfl, rfl, h9⟩ := h9
    rcases h9 with ⟨rfl, h9⟩ | ⟨rfl, h9⟩
    · refine tx_catch (i := 4) [] _ _ rfl (fun z hz => nomatch hz) rfl (by decide) (g_in (g_m4 (List.mem_of_getElem? (i := 223) rfl)) rfl) (g_inN (g_m4 (List.mem_of_getElem? (i := 233) rfl)) rfl) (Or.inl ⟨(g_at ck_L_comes 9 rfl), rfl⟩) (by decide) (fun u _ hu => by cases hu; decide) ?_
      refine tz_iconst (n := 16) (g_at ck_L_comes 10 rfl) rfl ?_
      exact tz_iret (g_at ck_L_comes 11 rfl) rfl (rI_mk (Or.inl ⟨h9.symm, Or.inl h9, rfl, rfl⟩))
    · exact absurd h9 hcd
  · refine tz_i2l (n := 9) (g_at ck_L_comes 6 rfl) rfl ?_
    refine tz_last (n := 10) kd_122 (by decide) (g_at ck_L_comes 7 rfl) rfl ?_
    refine tz_goto (tgt := 17) (g_at ck_L_comes 8 rfl) rfl ?_
    refine tz_iconst (n := 18) (g_at ck_L_comes 12 rfl) rfl ?_
    exact tz_iret (g_at ck_L_comes 13 rfl) rfl (rI_mk (Or.inr ⟨rfl, x, m9, hq, rfl⟩))
theorem wl_meet {l : Launch} {γ : Gh} {ρ m : Mm} {d mc ms : Nat} {a b cd : Int} {Q : Int → Mm → Mm → Prop} (hE : gE l γ μX10_meet d mc ms (rI KK Q) (xC ρ m cd) KK ρ m [vR 1, vI a, vI b]) (hcd : cd ≠ 2) : gE l γ μL_meet (d + 1) mc ms (rI KK (wQ cd ρ m Q)) xN KK ρ m [vR 1, vI a, vI b, vR 122] := by
  refine gE.ofwH cl_L.2 ?_ rfl rfl (Nat.le_of_ble_eq_true rfl)
  show gT l γ μL_meet (d + 1) mc ms _ _ KK ρ m 0 [some (vR 1), some (vI a), some (vI b), some (vR 122), none] []
  refine tz_aload3 (n := 1) (g_at ck_L_meet 0 rfl) rfl (g_ne kd_122) ?_
  refine tz_iconst (n := 2) (g_at ck_L_meet 1 rfl) rfl ?_
  refine tz_aload0 (n := 3) (g_at ck_L_meet 2 rfl) rfl (g_ne kd_1) ?_
  refine tz_iload1 (n := 4) (g_at ck_L_meet 3 rfl) rfl ?_
  refine tz_iload2 (n := 5) (g_at ck_L_meet 4 rfl) rfl ?_
  refine tz_cvxI2 (n := 8) (μ' := μX10_meet) (cb' := 0) (sb' := 0) ml_L_53 mo_X10_meet mv_X10_meet np_X10_meet kd_1 (g_at ck_L_meet 5 rfl) hE rfl rfl rfl ⟨Nat.le_refl _, by decide⟩ (by decide) (Nat.le_refl _) (Nat.le_refl _) (g_in (g_m5 (List.mem_of_getElem? (i := 166) rfl)) rfl) (fun E9 ρ9 m9 h9 => ?_) (fun x ρ9 m9 hq => ?_)
  · obtain ⟨rfl, rfl, h9⟩ := h9
    rcases h9 with ⟨rfl, h9⟩ | ⟨rfl, h9⟩
    · refine tx_catch (i := 4) [] _ _ rfl (fun z hz => nomatch hz) rfl (by decide) (g_in (g_m4 (List.mem_of_getElem? (i := 223) rfl)) rfl) (g_inN (g_m4 (List.mem_of_getElem? (i := 233) rfl)) rfl) (Or.inl ⟨(g_at ck_L_meet 9 rfl), rfl⟩) (by decide) (fun u _ hu => by cases hu; decide) ?_
      refine tz_iconst (n := 16) (g_at ck_L_meet 10 rfl) rfl ?_
      exact tz_iret (g_at ck_L_meet 11 rfl) rfl (rI_mk (Or.inl ⟨h9.symm, Or.inl h9, rfl, rfl⟩))
    · exact absurd h9 hcd
  · refine tz_i2l (n := 9) (g_at ck_L_meet 6 rfl) rfl ?_
    refine tz_last (n := 10) kd_122 (by decide) (g_at ck_L_meet 7 rfl) rfl ?_
    refine tz_goto (tgt := 17) (g_at ck_L_meet 8 rfl) rfl ?_
    refine tz_iconst (n := 18) (g_at ck_L_meet 12 rfl) rfl ?_
    exact tz_iret (g_at ck_L_meet 13 rfl) rfl (rI_mk (Or.inr ⟨rfl, x, m9, hq, rfl⟩))
theorem wl_gone {l : Launch} {γ : Gh} {ρ m : Mm} {d mc ms : Nat} {a b c cd : Int} {Q : Int → Mm → Mm → Prop} (hE : gE l γ μX10_gone d mc ms (rI KK Q) (xC ρ m cd) KK ρ m [vR 1, vI a, vI b, vI c])  : gE l γ μL_gone (d + 1) mc ms (rI KK (wQ cd ρ m Q)) xN KK ρ m [vR 1, vI a, vI b, vI c, vR 122] := by
  refine gE.ofwH cl_L.2 ?_ rfl rfl (Nat.le_of_ble_eq_true rfl)
  show gT l γ μL_gone (d + 1) mc ms _ _ KK ρ m 0 [some (vR 1), some (vI a), some (vI b), some (vI c), some (vR 122), none] []
  refine tz_aload4 (n := 2) (g_at ck_L_gone 0 rfl) rfl (g_ne kd_122) ?_
  refine tz_iconst (n := 3) (g_at ck_L_gone 1 rfl) rfl ?_
  refine tz_aload0 (n := 4) (g_at ck_L_gone 2 rfl) rfl (g_ne kd_1) ?_
  refine tz_iload1 (n := 5) (g_at ck_L_gone 3 rfl) rfl ?_
  refine tz_iload2 (n := 6) (g_at ck_L_gone 4 rfl) rfl ?_
  refine tz_iload3 (n := 7) (g_at ck_L_gone 5 rfl) rfl ?_
  refine tz_cvxI3 (n := 10) (μ' := μX10_gone) (cb' := 0) (sb' := 0) ml_L_56 mo_X10_gone mv_X10_gone np_X10_gone kd_1 (g_at ck_L_gone 6 rfl) hE rfl rfl rfl ⟨Nat.le_refl _, by decide⟩ (by decide) (Nat.le_refl _) (Nat.le_refl _) (g_in (g_m5 (List.mem_of_getElem? (i := 177) rfl)) rfl) (fun E9 ρ9 m9 h9 => ?_) (fun x ρ9 m9 hq => ?_)
  · obtain ⟨rfl, rfl, h9⟩ := h9
    rcases h9 with ⟨rfl, h9⟩ | ⟨rfl, h9⟩
    · refine tx_catch (i := 5) [] _ _ rfl (fun z hz => nomatch hz) rfl (by decide) (g_in (g_m4 (List.mem_of_getElem? (i := 223) rfl)) rfl) (g_inN (g_m4 (List.mem_of_getElem? (i := 233) rfl)) rfl) (Or.inl ⟨(g_at ck_L_gone 10 rfl), rfl⟩) (by decide) (fun u _ hu => by cases hu; decide) ?_
      refine tz_iconst (n := 18) (g_at ck_L_gone 11 rfl) rfl ?_
      exact tz_iret (g_at ck_L_gone 12 rfl) rfl (rI_mk (Or.inl ⟨h9.symm, Or.inl h9, rfl, rfl⟩))
    · refine tx_catch (i := 5) [_] _ _ rfl (fun z hz => Or.inr (by rw [List.mem_singleton.mp hz]; exact ⟨by decide, (g_in (g_m4 (List.mem_of_getElem? (i := 223) rfl)) rfl), rfl⟩)) rfl (by decide) (g_in (g_m3 (List.mem_of_getElem? (i := 134) rfl)) rfl) (g_inN (g_m3 (List.mem_of_getElem? (i := 141) rfl)) rfl) (Or.inl ⟨(g_at ck_L_gone 13 rfl), rfl⟩) (by decide) (fun u _ hu => by cases hu; decide) ?_
      refine tz_iconst (n := 22) (g_at ck_L_gone 14 rfl) rfl ?_
      exact tz_iret (g_at ck_L_gone 15 rfl) rfl (rI_mk (Or.inl ⟨h9.symm, Or.inr h9, rfl, rfl⟩))
  · refine tz_i2l (n := 11) (g_at ck_L_gone 7 rfl) rfl ?_
    refine tz_last (n := 12) kd_122 (by decide) (g_at ck_L_gone 8 rfl) rfl ?_
    refine tz_goto (tgt := 23) (g_at ck_L_gone 9 rfl) rfl ?_
    refine tz_iconst (n := 24) (g_at ck_L_gone 16 rfl) rfl ?_
    exact tz_iret (g_at ck_L_gone 17 rfl) rfl (rI_mk (Or.inr ⟨rfl, x, m9, hq, rfl⟩))
theorem wl_later {l : Launch} {γ : Gh} {ρ m : Mm} {d mc ms : Nat} {a b cd : Int} {Q : Int → Mm → Mm → Prop} (hE : gE l γ μX10_later d mc ms (rI KK Q) (xC ρ m cd) KK ρ m [vR 1, vI a, vI b])  : gE l γ μL_later (d + 1) mc ms (rI KK (wQ cd ρ m Q)) xN KK ρ m [vR 1, vI a, vI b, vR 122] := by
  refine gE.ofwH cl_L.2 ?_ rfl rfl (Nat.le_of_ble_eq_true rfl)
  show gT l γ μL_later (d + 1) mc ms _ _ KK ρ m 0 [some (vR 1), some (vI a), some (vI b), some (vR 122), none] []
  refine tz_aload3 (n := 1) (g_at ck_L_later 0 rfl) rfl (g_ne kd_122) ?_
  refine tz_iconst (n := 2) (g_at ck_L_later 1 rfl) rfl ?_
  refine tz_aload0 (n := 3) (g_at ck_L_later 2 rfl) rfl (g_ne kd_1) ?_
  refine tz_iload1 (n := 4) (g_at ck_L_later 3 rfl) rfl ?_
  refine tz_iload2 (n := 5) (g_at ck_L_later 4 rfl) rfl ?_
  refine tz_cvxI2 (n := 8) (μ' := μX10_later) (cb' := 0) (sb' := 0) ml_L_59 mo_X10_later mv_X10_later np_X10_later kd_1 (g_at ck_L_later 5 rfl) hE rfl rfl rfl ⟨Nat.le_refl _, by decide⟩ (by decide) (Nat.le_refl _) (Nat.le_refl _) (g_in (g_m5 (List.mem_of_getElem? (i := 185) rfl)) rfl) (fun E9 ρ9 m9 h9 => ?_) (fun x ρ9 m9 hq => ?_)
  · obtain ⟨rfl, rfl, h9⟩ := h9
    rcases h9 with ⟨rfl, h9⟩ | ⟨rfl, h9⟩
    · refine tx_catch (i := 4) [] _ _ rfl (fun z hz => nomatch hz) rfl (by decide) (g_in (g_m4 (List.mem_of_getElem? (i := 223) rfl)) rfl) (g_inN (g_m4 (List.mem_of_getElem? (i := 233) rfl)) rfl) (Or.inl ⟨(g_at ck_L_later 9 rfl), rfl⟩) (by decide) (fun u _ hu => by cases hu; decide) ?_
      refine tz_iconst (n := 16) (g_at ck_L_later 10 rfl) rfl ?_
      exact tz_iret (g_at ck_L_later 11 rfl) rfl (rI_mk (Or.inl ⟨h9.symm, Or.inl h9, rfl, rfl⟩))
    · refine tx_catch (i := 4) [_] _ _ rfl (fun z hz => Or.inr (by rw [List.mem_singleton.mp hz]; exact ⟨by decide, (g_in (g_m4 (List.mem_of_getElem? (i := 223) rfl)) rfl), rfl⟩)) rfl (by decide) (g_in (g_m3 (List.mem_of_getElem? (i := 134) rfl)) rfl) (g_inN (g_m3 (List.mem_of_getElem? (i := 141) rfl)) rfl) (Or.inl ⟨(g_at ck_L_later 12 rfl), rfl⟩) (by decide) (fun u _ hu => by cases hu; decide) ?_
      refine tz_iconst (n := 20) (g_at ck_L_later 13 rfl) rfl ?_
      exact tz_iret (g_at ck_L_later 14 rfl) rfl (rI_mk (Or.inl ⟨h9.symm, Or.inr h9, rfl, rfl⟩))
  · refine tz_i2l (n := 9) (g_at ck_L_later 6 rfl) rfl ?_
    refine tz_last (n := 10) kd_122 (by decide) (g_at ck_L_later 7 rfl) rfl ?_
    refine tz_goto (tgt := 21) (g_at ck_L_later 8 rfl) rfl ?_
    refine tz_iconst (n := 22) (g_at ck_L_later 15 rfl) rfl ?_
    exact tz_iret (g_at ck_L_later 16 rfl) rfl (rI_mk (Or.inr ⟨rfl, x, m9, hq, rfl⟩))
theorem wl_way {l : Launch} {γ : Gh} {ρ m : Mm} {d mc ms : Nat} {a b c cd : Int} {Q : Int → Mm → Mm → Prop} (hE : gE l γ μX10_way d mc ms (rI KK Q) (xC ρ m cd) KK ρ m [vR 1, vI a, vI b, vI c]) (hcd : cd ≠ 2) : gE l γ μL_way (d + 1) mc ms (rI KK (wQ cd ρ m Q)) xN KK ρ m [vR 1, vI a, vI b, vI c, vR 122] := by
  refine gE.ofwH cl_L.2 ?_ rfl rfl (Nat.le_of_ble_eq_true rfl)
  show gT l γ μL_way (d + 1) mc ms _ _ KK ρ m 0 [some (vR 1), some (vI a), some (vI b), some (vI c), some (vR 122), none] []
  refine tz_aload4 (n := 2) (g_at ck_L_way 0 rfl) rfl (g_ne kd_122) ?_
  refine tz_iconst (n := 3) (g_at ck_L_way 1 rfl) rfl ?_
  refine tz_aload0 (n := 4) (g_at ck_L_way 2 rfl) rfl (g_ne kd_1) ?_
  refine tz_iload1 (n := 5) (g_at ck_L_way 3 rfl) rfl ?_
  refine tz_iload2 (n := 6) (g_at ck_L_way 4 rfl) rfl ?_
  refine tz_iload3 (n := 7) (g_at ck_L_way 5 rfl) rfl ?_
  refine tz_cvxI3 (n := 10) (μ' := μX10_way) (cb' := 0) (sb' := 0) ml_L_62 mo_X10_way mv_X10_way np_X10_way kd_1 (g_at ck_L_way 6 rfl) hE rfl rfl rfl ⟨Nat.le_refl _, by decide⟩ (by decide) (Nat.le_refl _) (Nat.le_refl _) (g_in (g_m5 (List.mem_of_getElem? (i := 209) rfl)) rfl) (fun E9 ρ9 m9 h9 => ?_) (fun x ρ9 m9 hq => ?_)
  · obtain ⟨rfl, rfl, h9⟩ := h9
    rcases h9 with ⟨rfl, h9⟩ | ⟨rfl, h9⟩
    · refine tx_catch (i := 5) [] _ _ rfl (fun z hz => nomatch hz) rfl (by decide) (g_in (g_m4 (List.mem_of_getElem? (i := 223) rfl)) rfl) (g_inN (g_m4 (List.mem_of_getElem? (i := 233) rfl)) rfl) (Or.inl ⟨(g_at ck_L_way 10 rfl), rfl⟩) (by decide) (fun u _ hu => by cases hu; decide) ?_
      refine tz_iconst (n := 18) (g_at ck_L_way 11 rfl) rfl ?_
      exact tz_iret (g_at ck_L_way 12 rfl) rfl (rI_mk (Or.inl ⟨h9.symm, Or.inl h9, rfl, rfl⟩))
    · exact absurd h9 hcd
  · refine tz_i2l (n := 11) (g_at ck_L_way 7 rfl) rfl ?_
    refine tz_last (n := 12) kd_122 (by decide) (g_at ck_L_way 8 rfl) rfl ?_
    refine tz_goto (tgt := 19) (g_at ck_L_way 9 rfl) rfl ?_
    refine tz_iconst (n := 20) (g_at ck_L_way 13 rfl) rfl ?_
    exact tz_iret (g_at ck_L_way 14 rfl) rfl (rI_mk (Or.inr ⟨rfl, x, m9, hq, rfl⟩))
theorem wl_best {l : Launch} {γ : Gh} {ρ m : Mm} {d mc ms : Nat} {a cd : Int} {Q : Int → Mm → Mm → Prop} (hE : gE l γ μX10_best d mc ms (rI KK Q) (xC ρ m cd) KK ρ m [vR 1, vI a]) (hcd : cd ≠ 2) : gE l γ μL_best (d + 1) mc ms (rI KK (wQ cd ρ m Q)) xN KK ρ m [vR 1, vI a, vR 122] := by
  refine gE.ofwH cl_L.2 ?_ rfl rfl (Nat.le_of_ble_eq_true rfl)
  show gT l γ μL_best (d + 1) mc ms _ _ KK ρ m 0 [some (vR 1), some (vI a), some (vR 122), none] []
  refine tz_aload2 (n := 1) (g_at ck_L_best 0 rfl) rfl (g_ne kd_122) ?_
  refine tz_iconst (n := 2) (g_at ck_L_best 1 rfl) rfl ?_
  refine tz_aload0 (n := 3) (g_at ck_L_best 2 rfl) rfl (g_ne kd_1) ?_
  refine tz_iload1 (n := 4) (g_at ck_L_best 3 rfl) rfl ?_
  refine tz_cvxI1 (n := 7) (μ' := μX10_best) (cb' := 0) (sb' := 0) ml_L_65 mo_X10_best mv_X10_best np_X10_best kd_1 (g_at ck_L_best 4 rfl) hE rfl rfl rfl ⟨Nat.le_refl _, by decide⟩ (by decide) (Nat.le_refl _) (Nat.le_refl _) (g_in (g_m5 (List.mem_of_getElem? (i := 221) rfl)) rfl) (fun E9 ρ9 m9 h9 => ?_) (fun x ρ9 m9 hq => ?_)
  · obtain ⟨rfl, rfl, h9⟩ := h9
    rcases h9 with ⟨rfl, h9⟩ | ⟨rfl, h9⟩
    · refine tx_catch (i := 3) [] _ _ rfl (fun z hz => nomatch hz) rfl (by decide) (g_in (g_m4 (List.mem_of_getElem? (i := 223) rfl)) rfl) (g_inN (g_m4 (List.mem_of_getElem? (i := 233) rfl)) rfl) (Or.inr ⟨3, rfl, (g_at ck_L_best 8 rfl), rfl⟩) (by decide) (fun u _ hu => by cases hu; decide) ?_
      refine tz_iconst (n := 14) (g_at ck_L_best 9 rfl) rfl ?_
      exact tz_iret (g_at ck_L_best 10 rfl) rfl (rI_mk (Or.inl ⟨h9.symm, Or.inl h9, rfl, rfl⟩))
    · exact absurd h9 hcd
  · refine tz_i2l (n := 8) (g_at ck_L_best 5 rfl) rfl ?_
    refine tz_last (n := 9) kd_122 (by decide) (g_at ck_L_best 6 rfl) rfl ?_
    refine tz_goto (tgt := 15) (g_at ck_L_best 7 rfl) rfl ?_
    refine tz_iconst (n := 16) (g_at ck_L_best 11 rfl) rfl ?_
    exact tz_iret (g_at ck_L_best 12 rfl) rfl (rI_mk (Or.inr ⟨rfl, x, m9, hq, rfl⟩))
theorem wl_lodged {l : Launch} {γ : Gh} {ρ m : Mm} {d mc ms : Nat} {a cd : Int} {Q : Int → Mm → Mm → Prop} (hE : gE l γ μX10_lodged d mc ms (rI KK Q) (xC ρ m cd) KK ρ m [vR 1, vI a]) (hcd : cd ≠ 2) : gE l γ μL_lodged (d + 1) mc ms (rI KK (wQ cd ρ m Q)) xN KK ρ m [vR 1, vI a, vR 122] := by
  refine gE.ofwH cl_L.2 ?_ rfl rfl (Nat.le_of_ble_eq_true rfl)
  show gT l γ μL_lodged (d + 1) mc ms _ _ KK ρ m 0 [some (vR 1), some (vI a), some (vR 122), none] []
  refine tz_aload2 (n := 1) (g_at ck_L_lodged 0 rfl) rfl (g_ne kd_122) ?_
  refine tz_iconst (n := 2) (g_at ck_L_lodged 1 rfl) rfl ?_
  refine tz_aload0 (n := 3) (g_at ck_L_lodged 2 rfl) rfl (g_ne kd_1) ?_
  refine tz_iload1 (n := 4) (g_at ck_L_lodged 3 rfl) rfl ?_
  refine tz_cvxI1 (n := 7) (μ' := μX10_lodged) (cb' := 0) (sb' := 0) ml_L_68 mo_X10_lodged mv_X10_lodged np_X10_lodged kd_1 (g_at ck_L_lodged 4 rfl) hE rfl rfl rfl ⟨Nat.le_refl _, by decide⟩ (by decide) (Nat.le_refl _) (Nat.le_refl _) (g_in (g_m5 (List.mem_of_getElem? (i := 236) rfl)) rfl) (fun E9 ρ9 m9 h9 => ?_) (fun x ρ9 m9 hq => ?_)
  · obtain ⟨rfl, rfl, h9⟩ := h9
    rcases h9 with ⟨rfl, h9⟩ | ⟨rfl, h9⟩
    · refine tx_catch (i := 3) [] _ _ rfl (fun z hz => nomatch hz) rfl (by decide) (g_in (g_m4 (List.mem_of_getElem? (i := 223) rfl)) rfl) (g_inN (g_m4 (List.mem_of_getElem? (i := 233) rfl)) rfl) (Or.inr ⟨3, rfl, (g_at ck_L_lodged 8 rfl), rfl⟩) (by decide) (fun u _ hu => by cases hu; decide) ?_
      refine tz_iconst (n := 14) (g_at ck_L_lodged 9 rfl) rfl ?_
      exact tz_iret (g_at ck_L_lodged 10 rfl) rfl (rI_mk (Or.inl ⟨h9.symm, Or.inl h9, rfl, rfl⟩))
    · exact absurd h9 hcd
  · refine tz_i2l (n := 8) (g_at ck_L_lodged 5 rfl) rfl ?_
    refine tz_last (n := 9) kd_122 (by decide) (g_at ck_L_lodged 6 rfl) rfl ?_
    refine tz_goto (tgt := 15) (g_at ck_L_lodged 7 rfl) rfl ?_
    refine tz_iconst (n := 16) (g_at ck_L_lodged 11 rfl) rfl ?_
    exact tz_iret (g_at ck_L_lodged 12 rfl) rfl (rI_mk (Or.inr ⟨rfl, x, m9, hq, rfl⟩))
theorem wl_see {l : Launch} {γ : Gh} {ρ m : Mm} {d mc ms : Nat} {a b c cd : Int} {Q : Int → Mm → Mm → Prop} (hE : gE l γ μX10_see d mc ms (rI KK Q) (xC ρ m cd) KK ρ m [vR 1, vI a, vI b, vI c]) (hcd : cd ≠ 2) : gE l γ μL_see (d + 1) mc ms (rI KK (wQ cd ρ m Q)) xN KK ρ m [vR 1, vI a, vI b, vI c, vR 122] := by
  refine gE.ofwH cl_L.2 ?_ rfl rfl (Nat.le_of_ble_eq_true rfl)
  show gT l γ μL_see (d + 1) mc ms _ _ KK ρ m 0 [some (vR 1), some (vI a), some (vI b), some (vI c), some (vR 122), none] []
  refine tz_aload4 (n := 2) (g_at ck_L_see 0 rfl) rfl (g_ne kd_122) ?_
  refine tz_iconst (n := 3) (g_at ck_L_see 1 rfl) rfl ?_
  refine tz_aload0 (n := 4) (g_at ck_L_see 2 rfl) rfl (g_ne kd_1) ?_
  refine tz_iload1 (n := 5) (g_at ck_L_see 3 rfl) rfl ?_
  refine tz_iload2 (n := 6) (g_at ck_L_see 4 rfl) rfl ?_
  refine tz_iload3 (n := 7) (g_at ck_L_see 5 rfl) rfl ?_
  refine tz_cvxI3 (n := 10) (μ' := μX10_see) (cb' := 0) (sb' := 0) ml_L_71 mo_X10_see mv_X10_see np_X10_see kd_1 (g_at ck_L_see 6 rfl) hE rfl rfl rfl ⟨Nat.le_refl _, by decide⟩ (by decide) (Nat.le_refl _) (Nat.le_refl _) (g_in (g_m6 (List.mem_of_getElem? (i := 3) rfl)) rfl) (fun E9 ρ9 m9 h9 => ?_) (fun x ρ9 m9 hq => ?_)
  · obtain ⟨rfl, rfl, h9⟩ := h9
    rcases h9 with ⟨rfl, h9⟩ | ⟨rfl, h9⟩
    · refine tx_catch (i := 5) [] _ _ rfl (fun z hz => nomatch hz) rfl (by decide) (g_in (g_m4 (List.mem_of_getElem? (i := 223) rfl)) rfl) (g_inN (g_m4 (List.mem_of_getElem? (i := 233) rfl)) rfl) (Or.inl ⟨(g_at ck_L_see 10 rfl), rfl⟩) (by decide) (fun u _ hu => by cases hu; decide) ?_
      refine tz_iconst (n := 18) (g_at ck_L_see 11 rfl) rfl ?_
      exact tz_iret (g_at ck_L_see 12 rfl) rfl (rI_mk (Or.inl ⟨h9.symm, Or.inl h9, rfl, rfl⟩))
    · exact absurd h9 hcd
  · refine tz_i2l (n := 11) (g_at ck_L_see 7 rfl) rfl ?_
    refine tz_last (n := 12) kd_122 (by decide) (g_at ck_L_see 8 rfl) rfl ?_
    refine tz_goto (tgt := 19) (g_at ck_L_see 9 rfl) rfl ?_
    refine tz_iconst (n := 20) (g_at ck_L_see 13 rfl) rfl ?_
    exact tz_iret (g_at ck_L_see 14 rfl) rfl (rI_mk (Or.inr ⟨rfl, x, m9, hq, rfl⟩))
theorem wl_turned {l : Launch} {γ : Gh} {ρ m : Mm} {d mc ms : Nat} {a cd : Int} {Q : Int → Mm → Mm → Prop} (hE : gE l γ μX10_turned d mc ms (rI KK Q) (xC ρ m cd) KK ρ m [vR 1, vI a]) (hcd : cd ≠ 2) : gE l γ μL_turned (d + 1) mc ms (rI KK (wQ cd ρ m Q)) xN KK ρ m [vR 1, vI a, vR 122] := by
  refine gE.ofwH cl_L.2 ?_ rfl rfl (Nat.le_of_ble_eq_true rfl)
  show gT l γ μL_turned (d + 1) mc ms _ _ KK ρ m 0 [some (vR 1), some (vI a), some (vR 122), none] []
  refine tz_aload2 (n := 1) (g_at ck_L_turned 0 rfl) rfl (g_ne kd_122) ?_
  refine tz_iconst (n := 2) (g_at ck_L_turned 1 rfl) rfl ?_
  refine tz_aload0 (n := 3) (g_at ck_L_turned 2 rfl) rfl (g_ne kd_1) ?_
  refine tz_iload1 (n := 4) (g_at ck_L_turned 3 rfl) rfl ?_
  refine tz_cvxI1 (n := 7) (μ' := μX10_turned) (cb' := 0) (sb' := 0) ml_L_74 mo_X10_turned mv_X10_turned np_X10_turned kd_1 (g_at ck_L_turned 4 rfl) hE rfl rfl rfl ⟨Nat.le_refl _, by decide⟩ (by decide) (Nat.le_refl _) (Nat.le_refl _) (g_in (g_m6 (List.mem_of_getElem? (i := 14) rfl)) rfl) (fun E9 ρ9 m9 h9 => ?_) (fun x ρ9 m9 hq => ?_)
  · obtain ⟨rfl, rfl, h9⟩ := h9
    rcases h9 with ⟨rfl, h9⟩ | ⟨rfl, h9⟩
    · refine tx_catch (i := 3) [] _ _ rfl (fun z hz => nomatch hz) rfl (by decide) (g_in (g_m4 (List.mem_of_getElem? (i := 223) rfl)) rfl) (g_inN (g_m4 (List.mem_of_getElem? (i := 233) rfl)) rfl) (Or.inr ⟨3, rfl, (g_at ck_L_turned 8 rfl), rfl⟩) (by decide) (fun u _ hu => by cases hu; decide) ?_
      refine tz_iconst (n := 14) (g_at ck_L_turned 9 rfl) rfl ?_
      exact tz_iret (g_at ck_L_turned 10 rfl) rfl (rI_mk (Or.inl ⟨h9.symm, Or.inl h9, rfl, rfl⟩))
    · exact absurd h9 hcd
  · refine tz_i2l (n := 8) (g_at ck_L_turned 5 rfl) rfl ?_
    refine tz_last (n := 9) kd_122 (by decide) (g_at ck_L_turned 6 rfl) rfl ?_
    refine tz_goto (tgt := 15) (g_at ck_L_turned 7 rfl) rfl ?_
    refine tz_iconst (n := 16) (g_at ck_L_turned 11 rfl) rfl ?_
    exact tz_iret (g_at ck_L_turned 12 rfl) rfl (rI_mk (Or.inr ⟨rfl, x, m9, hq, rfl⟩))
theorem wl_look {l : Launch} {γ : Gh} {ρ m : Mm} {d mc ms : Nat} {a cd : Int} {Q : Int → Mm → Mm → Prop} (hE : gE l γ μX10_look d mc ms (rI KK Q) (xC ρ m cd) KK ρ m [vR 1, vI a]) (hcd : cd ≠ 2) : gE l γ μL_look (d + 1) mc ms (rI KK (wQ cd ρ m Q)) xN KK ρ m [vR 1, vI a, vR 122] := by
  refine gE.ofwH cl_L.2 ?_ rfl rfl (Nat.le_of_ble_eq_true rfl)
  show gT l γ μL_look (d + 1) mc ms _ _ KK ρ m 0 [some (vR 1), some (vI a), some (vR 122), none] []
  refine tz_aload2 (n := 1) (g_at ck_L_look 0 rfl) rfl (g_ne kd_122) ?_
  refine tz_iconst (n := 2) (g_at ck_L_look 1 rfl) rfl ?_
  refine tz_aload0 (n := 3) (g_at ck_L_look 2 rfl) rfl (g_ne kd_1) ?_
  refine tz_iload1 (n := 4) (g_at ck_L_look 3 rfl) rfl ?_
  refine tz_cvxI1 (n := 7) (μ' := μX10_look) (cb' := 0) (sb' := 0) ml_L_77 mo_X10_look mv_X10_look np_X10_look kd_1 (g_at ck_L_look 4 rfl) hE rfl rfl rfl ⟨Nat.le_refl _, by decide⟩ (by decide) (Nat.le_refl _) (Nat.le_refl _) (g_in (g_m6 (List.mem_of_getElem? (i := 39) rfl)) rfl) (fun E9 ρ9 m9 h9 => ?_) (fun x ρ9 m9 hq => ?_)
  · obtain ⟨rfl, rfl, h9⟩ := h9
    rcases h9 with ⟨rfl, h9⟩ | ⟨rfl, h9⟩
    · refine tx_catch (i := 3) [] _ _ rfl (fun z hz => nomatch hz) rfl (by decide) (g_in (g_m4 (List.mem_of_getElem? (i := 223) rfl)) rfl) (g_inN (g_m4 (List.mem_of_getElem? (i := 233) rfl)) rfl) (Or.inr ⟨3, rfl, (g_at ck_L_look 8 rfl), rfl⟩) (by decide) (fun u _ hu => by cases hu; decide) ?_
      refine tz_iconst (n := 14) (g_at ck_L_look 9 rfl) rfl ?_
      exact tz_iret (g_at ck_L_look 10 rfl) rfl (rI_mk (Or.inl ⟨h9.symm, Or.inl h9, rfl, rfl⟩))
    · exact absurd h9 hcd
  · refine tz_i2l (n := 8) (g_at ck_L_look 5 rfl) rfl ?_
    refine tz_last (n := 9) kd_122 (by decide) (g_at ck_L_look 6 rfl) rfl ?_
    refine tz_goto (tgt := 15) (g_at ck_L_look 7 rfl) rfl ?_
    refine tz_iconst (n := 16) (g_at ck_L_look 11 rfl) rfl ?_
    exact tz_iret (g_at ck_L_look 12 rfl) rfl (rI_mk (Or.inr ⟨rfl, x, m9, hq, rfl⟩))
theorem wl_wind {l : Launch} {γ : Gh} {ρ m : Mm} {d mc ms : Nat} {a b c cd : Int} {Q : Int → Mm → Mm → Prop} (hE : gE l γ μX10_wind d mc ms (rI KK Q) (xC ρ m cd) KK ρ m [vR 1, vI a, vI b, vI c])  : gE l γ μL_wind (d + 1) mc ms (rI KK (wQ cd ρ m Q)) xN KK ρ m [vR 1, vI a, vI b, vI c, vR 122] := by
  refine gE.ofwH cl_L.2 ?_ rfl rfl (Nat.le_of_ble_eq_true rfl)
  show gT l γ μL_wind (d + 1) mc ms _ _ KK ρ m 0 [some (vR 1), some (vI a), some (vI b), some (vI c), some (vR 122), none] []
  refine tz_aload4 (n := 2) (g_at ck_L_wind 0 rfl) rfl (g_ne kd_122) ?_
  refine tz_iconst (n := 3) (g_at ck_L_wind 1 rfl) rfl ?_
  refine tz_aload0 (n := 4) (g_at ck_L_wind 2 rfl) rfl (g_ne kd_1) ?_
  refine tz_iload1 (n := 5) (g_at ck_L_wind 3 rfl) rfl ?_
  refine tz_iload2 (n := 6) (g_at ck_L_wind 4 rfl) rfl ?_
  refine tz_iload3 (n := 7) (g_at ck_L_wind 5 rfl) rfl ?_
  refine tz_cvxI3 (n := 10) (μ' := μX10_wind) (cb' := 0) (sb' := 0) ml_L_80 mo_X10_wind mv_X10_wind np_X10_wind kd_1 (g_at ck_L_wind 6 rfl) hE rfl rfl rfl ⟨Nat.le_refl _, by decide⟩ (by decide) (Nat.le_refl _) (Nat.le_refl _) (g_in (g_m6 (List.mem_of_getElem? (i := 50) rfl)) rfl) (fun E9 ρ9 m9 h9 => ?_) (fun x ρ9 m9 hq => ?_)
  · obtain ⟨rfl, rfl, h9⟩ := h9
    rcases h9 with ⟨rfl, h9⟩ | ⟨rfl, h9⟩
    · refine tx_catch (i := 5) [] _ _ rfl (fun z hz => nomatch hz) rfl (by decide) (g_in (g_m4 (List.mem_of_getElem? (i := 223) rfl)) rfl) (g_inN (g_m4 (List.mem_of_getElem? (i := 233) rfl)) rfl) (Or.inl ⟨(g_at ck_L_wind 10 rfl), rfl⟩) (by decide) (fun u _ hu => by cases hu; decide) ?_
      refine tz_iconst (n := 18) (g_at ck_L_wind 11 rfl) rfl ?_
      exact tz_iret (g_at ck_L_wind 12 rfl) rfl (rI_mk (Or.inl ⟨h9.symm, Or.inl h9, rfl, rfl⟩))
    · refine tx_catch (i := 5) [_] _ _ rfl (fun z hz => Or.inr (by rw [List.mem_singleton.mp hz]; exact ⟨by decide, (g_in (g_m4 (List.mem_of_getElem? (i := 223) rfl)) rfl), rfl⟩)) rfl (by decide) (g_in (g_m3 (List.mem_of_getElem? (i := 134) rfl)) rfl) (g_inN (g_m3 (List.mem_of_getElem? (i := 141) rfl)) rfl) (Or.inl ⟨(g_at ck_L_wind 13 rfl), rfl⟩) (by decide) (fun u _ hu => by cases hu; decide) ?_
      refine tz_iconst (n := 22) (g_at ck_L_wind 14 rfl) rfl ?_
      exact tz_iret (g_at ck_L_wind 15 rfl) rfl (rI_mk (Or.inl ⟨h9.symm, Or.inr h9, rfl, rfl⟩))
  · refine tz_i2l (n := 11) (g_at ck_L_wind 7 rfl) rfl ?_
    refine tz_last (n := 12) kd_122 (by decide) (g_at ck_L_wind 8 rfl) rfl ?_
    refine tz_goto (tgt := 23) (g_at ck_L_wind 9 rfl) rfl ?_
    refine tz_iconst (n := 24) (g_at ck_L_wind 16 rfl) rfl ?_
    exact tz_iret (g_at ck_L_wind 17 rfl) rfl (rI_mk (Or.inr ⟨rfl, x, m9, hq, rfl⟩))
theorem wl_game {l : Launch} {γ : Gh} {ρ m : Mm} {d mc ms : Nat} {a b c cd : Int} {Q : Int → Mm → Mm → Prop} (hE : gE l γ μX10_game d mc ms (rI KK Q) (xC ρ m cd) KK ρ m [vR 1, vI a, vI b, vI c])  : gE l γ μL_game (d + 1) mc ms (rI KK (wQ cd ρ m Q)) xN KK ρ m [vR 1, vI a, vI b, vI c, vR 122] := by
  refine gE.ofwH cl_L.2 ?_ rfl rfl (Nat.le_of_ble_eq_true rfl)
  show gT l γ μL_game (d + 1) mc ms _ _ KK ρ m 0 [some (vR 1), some (vI a), some (vI b), some (vI c), some (vR 122), none] []
  refine tz_aload4 (n := 2) (g_at ck_L_game 0 rfl) rfl (g_ne kd_122) ?_
  refine tz_iconst (n := 3) (g_at ck_L_game 1 rfl) rfl ?_
  refine tz_aload0 (n := 4) (g_at ck_L_game 2 rfl) rfl (g_ne kd_1) ?_
  refine tz_iload1 (n := 5) (g_at ck_L_game 3 rfl) rfl ?_
  refine tz_iload2 (n := 6) (g_at ck_L_game 4 rfl) rfl ?_
  refine tz_iload3 (n := 7) (g_at ck_L_game 5 rfl) rfl ?_
  refine tz_cvxI3 (n := 10) (μ' := μX10_game) (cb' := 0) (sb' := 0) ml_L_83 mo_X10_game mv_X10_game np_X10_game kd_1 (g_at ck_L_game 6 rfl) hE rfl rfl rfl ⟨Nat.le_refl _, by decide⟩ (by decide) (Nat.le_refl _) (Nat.le_refl _) (g_in (g_m6 (List.mem_of_getElem? (i := 62) rfl)) rfl) (fun E9 ρ9 m9 h9 => ?_) (fun x ρ9 m9 hq => ?_)
  · obtain ⟨rfl, rfl, h9⟩ := h9
    rcases h9 with ⟨rfl, h9⟩ | ⟨rfl, h9⟩
    · refine tx_catch (i := 5) [] _ _ rfl (fun z hz => nomatch hz) rfl (by decide) (g_in (g_m4 (List.mem_of_getElem? (i := 223) rfl)) rfl) (g_inN (g_m4 (List.mem_of_getElem? (i := 233) rfl)) rfl) (Or.inl ⟨(g_at ck_L_game 10 rfl), rfl⟩) (by decide) (fun u _ hu => by cases hu; decide) ?_
      refine tz_iconst (n := 18) (g_at ck_L_game 11 rfl) rfl ?_
      exact tz_iret (g_at ck_L_game 12 rfl) rfl (rI_mk (Or.inl ⟨h9.symm, Or.inl h9, rfl, rfl⟩))
    · refine tx_catch (i := 5) [_] _ _ rfl (fun z hz => Or.inr (by rw [List.mem_singleton.mp hz]; exact ⟨by decide, (g_in (g_m4 (List.mem_of_getElem? (i := 223) rfl)) rfl), rfl⟩)) rfl (by decide) (g_in (g_m3 (List.mem_of_getElem? (i := 134) rfl)) rfl) (g_inN (g_m3 (List.mem_of_getElem? (i := 141) rfl)) rfl) (Or.inl ⟨(g_at ck_L_game 13 rfl), rfl⟩) (by decide) (fun u _ hu => by cases hu; decide) ?_
      refine tz_iconst (n := 22) (g_at ck_L_game 14 rfl) rfl ?_
      exact tz_iret (g_at ck_L_game 15 rfl) rfl (rI_mk (Or.inl ⟨h9.symm, Or.inr h9, rfl, rfl⟩))
  · refine tz_i2l (n := 11) (g_at ck_L_game 7 rfl) rfl ?_
    refine tz_last (n := 12) kd_122 (by decide) (g_at ck_L_game 8 rfl) rfl ?_
    refine tz_goto (tgt := 23) (g_at ck_L_game 9 rfl) rfl ?_
    refine tz_iconst (n := 24) (g_at ck_L_game 16 rfl) rfl ?_
    exact tz_iret (g_at ck_L_game 17 rfl) rfl (rI_mk (Or.inr ⟨rfl, x, m9, hq, rfl⟩))
theorem wl_years {l : Launch} {γ : Gh} {ρ m : Mm} {d mc ms : Nat} {a b c cd : Int} {Q : Int → Mm → Mm → Prop} (hE : gE l γ μX10_years d mc ms (rI KK Q) (xC ρ m cd) KK ρ m [vR 1, vI a, vI b, vI c])  : gE l γ μL_years (d + 1) mc ms (rI KK (wQ cd ρ m Q)) xN KK ρ m [vR 1, vI a, vI b, vI c, vR 122] := by
  refine gE.ofwH cl_L.2 ?_ rfl rfl (Nat.le_of_ble_eq_true rfl)
  show gT l γ μL_years (d + 1) mc ms _ _ KK ρ m 0 [some (vR 1), some (vI a), some (vI b), some (vI c), some (vR 122), none] []
  refine tz_aload4 (n := 2) (g_at ck_L_years 0 rfl) rfl (g_ne kd_122) ?_
  refine tz_iconst (n := 3) (g_at ck_L_years 1 rfl) rfl ?_
  refine tz_aload0 (n := 4) (g_at ck_L_years 2 rfl) rfl (g_ne kd_1) ?_
  refine tz_iload1 (n := 5) (g_at ck_L_years 3 rfl) rfl ?_
  refine tz_iload2 (n := 6) (g_at ck_L_years 4 rfl) rfl ?_
  refine tz_iload3 (n := 7) (g_at ck_L_years 5 rfl) rfl ?_
  refine tz_cvxI3 (n := 10) (μ' := μX10_years) (cb' := 0) (sb' := 0) ml_L_86 mo_X10_years mv_X10_years np_X10_years kd_1 (g_at ck_L_years 6 rfl) hE rfl rfl rfl ⟨Nat.le_refl _, by decide⟩ (by decide) (Nat.le_refl _) (Nat.le_refl _) (g_in (g_m6 (List.mem_of_getElem? (i := 79) rfl)) rfl) (fun E9 ρ9 m9 h9 => ?_) (fun x ρ9 m9 hq => ?_)
  · obtain ⟨rfl, rfl, h9⟩ := h9
    rcases h9 with ⟨rfl, h9⟩ | ⟨rfl, h9⟩
    · refine tx_catch (i := 5) [] _ _ rfl (fun z hz => nomatch hz) rfl (by decide) (g_in (g_m4 (List.mem_of_getElem? (i := 223) rfl)) rfl) (g_inN (g_m4 (List.mem_of_getElem? (i := 233) rfl)) rfl) (Or.inl ⟨(g_at ck_L_years 10 rfl), rfl⟩) (by decide) (fun u _ hu => by cases hu; decide) ?_
      refine tz_iconst (n := 18) (g_at ck_L_years 11 rfl) rfl ?_
      exact tz_iret (g_at ck_L_years 12 rfl) rfl (rI_mk (Or.inl ⟨h9.symm, Or.inl h9, rfl, rfl⟩))
    · refine tx_catch (i := 5) [_] _ _ rfl (fun z hz => Or.inr (by rw [List.mem_singleton.mp hz]; exact ⟨by decide, (g_in (g_m4 (List.mem_of_getElem? (i := 223) rfl)) rfl), rfl⟩)) rfl (by decide) (g_in (g_m3 (List.mem_of_getElem? (i := 134) rfl)) rfl) (g_inN (g_m3 (List.mem_of_getElem? (i := 141) rfl)) rfl) (Or.inl ⟨(g_at ck_L_years 13 rfl), rfl⟩) (by decide) (fun u _ hu => by cases hu; decide) ?_
      refine tz_iconst (n := 22) (g_at ck_L_years 14 rfl) rfl ?_
      exact tz_iret (g_at ck_L_years 15 rfl) rfl (rI_mk (Or.inl ⟨h9.symm, Or.inr h9, rfl, rfl⟩))
  · refine tz_i2l (n := 11) (g_at ck_L_years 7 rfl) rfl ?_
    refine tz_last (n := 12) kd_122 (by decide) (g_at ck_L_years 8 rfl) rfl ?_
    refine tz_goto (tgt := 23) (g_at ck_L_years 9 rfl) rfl ?_
    refine tz_iconst (n := 24) (g_at ck_L_years 16 rfl) rfl ?_
    exact tz_iret (g_at ck_L_years 17 rfl) rfl (rI_mk (Or.inr ⟨rfl, x, m9, hq, rfl⟩))
theorem wl_visited {l : Launch} {γ : Gh} {ρ m : Mm} {d mc ms : Nat} {a b cd : Int} {Q : Int → Mm → Mm → Prop} (hE : gE l γ μX10_visited d mc ms (rI KK Q) (xC ρ m cd) KK ρ m [vR 1, vI a, vI b])  : gE l γ μL_visited (d + 1) mc ms (rI KK (wQ cd ρ m Q)) xN KK ρ m [vR 1, vI a, vI b, vR 122] := by
  refine gE.ofwH cl_L.2 ?_ rfl rfl (Nat.le_of_ble_eq_true rfl)
  show gT l γ μL_visited (d + 1) mc ms _ _ KK ρ m 0 [some (vR 1), some (vI a), some (vI b), some (vR 122), none] []
  refine tz_aload3 (n := 1) (g_at ck_L_visited 0 rfl) rfl (g_ne kd_122) ?_
  refine tz_iconst (n := 2) (g_at ck_L_visited 1 rfl) rfl ?_
  refine tz_aload0 (n := 3) (g_at ck_L_visited 2 rfl) rfl (g_ne kd_1) ?_
  refine tz_iload1 (n := 4) (g_at ck_L_visited 3 rfl) rfl ?_
  refine tz_iload2 (n := 5) (g_at ck_L_visited 4 rfl) rfl ?_
  refine tz_cvxI2 (n := 8) (μ' := μX10_visited) (cb' := 0) (sb' := 0) ml_L_89 mo_X10_visited mv_X10_visited np_X10_visited kd_1 (g_at ck_L_visited 5 rfl) hE rfl rfl rfl ⟨Nat.le_refl _, by decide⟩ (by decide) (Nat.le_refl _) (Nat.le_refl _) (g_in (g_m6 (List.mem_of_getElem? (i := 99) rfl)) rfl) (fun E9 ρ9 m9 h9 => ?_) (fun x ρ9 m9 hq => ?_)
  · obtain ⟨rfl, rfl, h9⟩ := h9
    rcases h9 with ⟨rfl, h9⟩ | ⟨rfl, h9⟩
    · refine tx_catch (i := 4) [] _ _ rfl (fun z hz => nomatch hz) rfl (by decide) (g_in (g_m4 (List.mem_of_getElem? (i := 223) rfl)) rfl) (g_inN (g_m4 (List.mem_of_getElem? (i := 233) rfl)) rfl) (Or.inl ⟨(g_at ck_L_visited 9 rfl), rfl⟩) (by decide) (fun u _ hu => by cases hu; decide) ?_
      refine tz_iconst (n := 16) (g_at ck_L_visited 10 rfl) rfl ?_
      exact tz_iret (g_at ck_L_visited 11 rfl) rfl (rI_mk (Or.inl ⟨h9.symm, Or.inl h9, rfl, rfl⟩))
    · refine tx_catch (i := 4) [_] _ _ rfl (fun z hz => Or.inr (by rw [List.mem_singleton.mp hz]; exact ⟨by decide, (g_in (g_m4 (List.mem_of_getElem? (i := 223) rfl)) rfl), rfl⟩)) rfl (by decide) (g_in (g_m3 (List.mem_of_getElem? (i := 134) rfl)) rfl) (g_inN (g_m3 (List.mem_of_getElem? (i := 141) rfl)) rfl) (Or.inl ⟨(g_at ck_L_visited 12 rfl), rfl⟩) (by decide) (fun u _ hu => by cases hu; decide) ?_
      refine tz_iconst (n := 20) (g_at ck_L_visited 13 rfl) rfl ?_
      exact tz_iret (g_at ck_L_visited 14 rfl) rfl (rI_mk (Or.inl ⟨h9.symm, Or.inr h9, rfl, rfl⟩))
  · refine tz_i2l (n := 9) (g_at ck_L_visited 6 rfl) rfl ?_
    refine tz_last (n := 10) kd_122 (by decide) (g_at ck_L_visited 7 rfl) rfl ?_
    refine tz_goto (tgt := 21) (g_at ck_L_visited 8 rfl) rfl ?_
    refine tz_iconst (n := 22) (g_at ck_L_visited 15 rfl) rfl ?_
    exact tz_iret (g_at ck_L_visited 16 rfl) rfl (rI_mk (Or.inr ⟨rfl, x, m9, hq, rfl⟩))
theorem wl_uneven {l : Launch} {γ : Gh} {ρ m : Mm} {d mc ms : Nat} {a b cd : Int} {Q : Int → Mm → Mm → Prop} (hE : gE l γ μX10_uneven d mc ms (rI KK Q) (xC ρ m cd) KK ρ m [vR 1, vI a, vI b])  : gE l γ μL_uneven (d + 1) mc ms (rI KK (wQ cd ρ m Q)) xN KK ρ m [vR 1, vI a, vI b, vR 122] := by
  refine gE.ofwH cl_L.2 ?_ rfl rfl (Nat.le_of_ble_eq_true rfl)
  show gT l γ μL_uneven (d + 1) mc ms _ _ KK ρ m 0 [some (vR 1), some (vI a), some (vI b), some (vR 122), none] []
  refine tz_aload3 (n := 1) (g_at ck_L_uneven 0 rfl) rfl (g_ne kd_122) ?_
  refine tz_iconst (n := 2) (g_at ck_L_uneven 1 rfl) rfl ?_
  refine tz_aload0 (n := 3) (g_at ck_L_uneven 2 rfl) rfl (g_ne kd_1) ?_
  refine tz_iload1 (n := 4) (g_at ck_L_uneven 3 rfl) rfl ?_
  refine tz_iload2 (n := 5) (g_at ck_L_uneven 4 rfl) rfl ?_
  refine tz_cvxI2 (n := 8) (μ' := μX10_uneven) (cb' := 0) (sb' := 0) ml_L_92 mo_X10_uneven mv_X10_uneven np_X10_uneven kd_1 (g_at ck_L_uneven 5 rfl) hE rfl rfl rfl ⟨Nat.le_refl _, by decide⟩ (by decide) (Nat.le_refl _) (Nat.le_refl _) (g_in (g_m6 (List.mem_of_getElem? (i := 106) rfl)) rfl) (fun E9 ρ9 m9 h9 => ?_) (fun x ρ9 m9 hq => ?_)
  · obtain ⟨rfl, rfl, h9⟩ := h9
    rcases h9 with ⟨rfl, h9⟩ | ⟨rfl, h9⟩
    · refine tx_catch (i := 4) [] _ _ rfl (fun z hz => nomatch hz) rfl (by decide) (g_in (g_m4 (List.mem_of_getElem? (i := 223) rfl)) rfl) (g_inN (g_m4 (List.mem_of_getElem? (i := 233) rfl)) rfl) (Or.inl ⟨(g_at ck_L_uneven 9 rfl), rfl⟩) (by decide) (fun u _ hu => by cases hu; decide) ?_
      refine tz_iconst (n := 16) (g_at ck_L_uneven 10 rfl) rfl ?_
      exact tz_iret (g_at ck_L_uneven 11 rfl) rfl (rI_mk (Or.inl ⟨h9.symm, Or.inl h9, rfl, rfl⟩))
    · refine tx_catch (i := 4) [_] _ _ rfl (fun z hz => Or.inr (by rw [List.mem_singleton.mp hz]; exact ⟨by decide, (g_in (g_m4 (List.mem_of_getElem? (i := 223) rfl)) rfl), rfl⟩)) rfl (by decide) (g_in (g_m3 (List.mem_of_getElem? (i := 134) rfl)) rfl) (g_inN (g_m3 (List.mem_of_getElem? (i := 141) rfl)) rfl) (Or.inl ⟨(g_at ck_L_uneven 12 rfl), rfl⟩) (by decide) (fun u _ hu => by cases hu; decide) ?_
      refine tz_iconst (n := 20) (g_at ck_L_uneven 13 rfl) rfl ?_
      exact tz_iret (g_at ck_L_uneven 14 rfl) rfl (rI_mk (Or.inl ⟨h9.symm, Or.inr h9, rfl, rfl⟩))
  · refine tz_i2l (n := 9) (g_at ck_L_uneven 6 rfl) rfl ?_
    refine tz_last (n := 10) kd_122 (by decide) (g_at ck_L_uneven 7 rfl) rfl ?_
    refine tz_goto (tgt := 21) (g_at ck_L_uneven 8 rfl) rfl ?_
    refine tz_iconst (n := 22) (g_at ck_L_uneven 15 rfl) rfl ?_
    exact tz_iret (g_at ck_L_uneven 16 rfl) rfl (rI_mk (Or.inr ⟨rfl, x, m9, hq, rfl⟩))
theorem wl_together {l : Launch} {γ : Gh} {ρ m : Mm} {d mc ms : Nat} {a b c cd : Int} {Q : Int → Mm → Mm → Prop} (hE : gE l γ μX10_together d mc ms (rI KK Q) (xC ρ m cd) KK ρ m [vR 1, vI a, vI b, vI c])  : gE l γ μL_together (d + 1) mc ms (rI KK (wQ cd ρ m Q)) xN KK ρ m [vR 1, vI a, vI b, vI c, vR 122] := by
  refine gE.ofwH cl_L.2 ?_ rfl rfl (Nat.le_of_ble_eq_true rfl)
  show gT l γ μL_together (d + 1) mc ms _ _ KK ρ m 0 [some (vR 1), some (vI a), some (vI b), some (vI c), some (vR 122), none] []
  refine tz_aload4 (n := 2) (g_at ck_L_together 0 rfl) rfl (g_ne kd_122) ?_
  refine tz_iconst (n := 3) (g_at ck_L_together 1 rfl) rfl ?_
  refine tz_aload0 (n := 4) (g_at ck_L_together 2 rfl) rfl (g_ne kd_1) ?_
  refine tz_iload1 (n := 5) (g_at ck_L_together 3 rfl) rfl ?_
  refine tz_iload2 (n := 6) (g_at ck_L_together 4 rfl) rfl ?_
  refine tz_iload3 (n := 7) (g_at ck_L_together 5 rfl) rfl ?_
  refine tz_cvxI3 (n := 10) (μ' := μX10_together) (cb' := 0) (sb' := 0) ml_L_95 mo_X10_together mv_X10_together np_X10_together kd_1 (g_at ck_L_together 6 rfl) hE rfl rfl rfl ⟨Nat.le_refl _, by decide⟩ (by decide) (Nat.le_refl _) (Nat.le_refl _) (g_in (g_m6 (List.mem_of_getElem? (i := 115) rfl)) rfl) (fun E9 ρ9 m9 h9 => ?_) (fun x ρ9 m9 hq => ?_)
  · obtain ⟨rfl, rfl, h9⟩ := h9
    rcases h9 with ⟨rfl, h9⟩ | ⟨rfl, h9⟩
    · refine tx_catch (i := 5) [] _ _ rfl (fun z hz => nomatch hz) rfl (by decide) (g_in (g_m4 (List.mem_of_getElem? (i := 223) rfl)) rfl) (g_inN (g_m4 (List.mem_of_getElem? (i := 233) rfl)) rfl) (Or.inl ⟨(g_at ck_L_together 10 rfl), rfl⟩) (by decide) (fun u _ hu => by cases hu; decide) ?_
      refine tz_iconst (n := 18) (g_at ck_L_together 11 rfl) rfl ?_
      exact tz_iret (g_at ck_L_together 12 rfl) rfl (rI_mk (Or.inl ⟨h9.symm, Or.inl h9, rfl, rfl⟩))
    · refine tx_catch (i := 5) [_] _ _ rfl (fun z hz => Or.inr (by rw [List.mem_singleton.mp hz]; exact ⟨by decide, (g_in (g_m4 (List.mem_of_getElem? (i := 223) rfl)) rfl), rfl⟩)) rfl (by decide) (g_in (g_m3 (List.mem_of_getElem? (i := 134) rfl)) rfl) (g_inN (g_m3 (List.mem_of_getElem? (i := 141) rfl)) rfl) (Or.inl ⟨(g_at ck_L_together 13 rfl), rfl⟩) (by decide) (fun u _ hu => by cases hu; decide) ?_
      refine tz_iconst (n := 22) (g_at ck_L_together 14 rfl) rfl ?_
      exact tz_iret (g_at ck_L_together 15 rfl) rfl (rI_mk (Or.inl ⟨h9.symm, Or.inr h9, rfl, rfl⟩))
  · refine tz_i2l (n := 11) (g_at ck_L_together 7 rfl) rfl ?_
    refine tz_last (n := 12) kd_122 (by decide) (g_at ck_L_together 8 rfl) rfl ?_
    refine tz_goto (tgt := 23) (g_at ck_L_together 9 rfl) rfl ?_
    refine tz_iconst (n := 24) (g_at ck_L_together 16 rfl) rfl ?_
    exact tz_iret (g_at ck_L_together 17 rfl) rfl (rI_mk (Or.inr ⟨rfl, x, m9, hq, rfl⟩))
theorem wl_taken {l : Launch} {γ : Gh} {ρ m : Mm} {d mc ms : Nat} {a b cd : Int} {Q : Int → Mm → Mm → Prop} (hE : gE l γ μX10_taken d mc ms (rI KK Q) (xC ρ m cd) KK ρ m [vR 1, vI a, vI b])  : gE l γ μL_taken (d + 1) mc ms (rI KK (wQ cd ρ m Q)) xN KK ρ m [vR 1, vI a, vI b, vR 122] := by
  refine gE.ofwH cl_L.2 ?_ rfl rfl (Nat.le_of_ble_eq_true rfl)
  show gT l γ μL_taken (d + 1) mc ms _ _ KK ρ m 0 [some (vR 1), some (vI a), some (vI b), some (vR 122), none] []
  refine tz_aload3 (n := 1) (g_at ck_L_taken 0 rfl) rfl (g_ne kd_122) ?_
  refine tz_iconst (n := 2) (g_at ck_L_taken 1 rfl) rfl ?_
  refine tz_aload0 (n := 3) (g_at ck_L_taken 2 rfl) rfl (g_ne kd_1) ?_
  refine tz_iload1 (n := 4) (g_at ck_L_taken 3 rfl) rfl ?_
  refine tz_iload2 (n := 5) (g_at ck_L_taken 4 rfl) rfl ?_
  refine tz_cvxI2 (n := 8) (μ' := μX10_taken) (cb' := 0) (sb' := 0) ml_L_98 mo_X10_taken mv_X10_taken np_X10_taken kd_1 (g_at ck_L_taken 5 rfl) hE rfl rfl rfl ⟨Nat.le_refl _, by decide⟩ (by decide) (Nat.le_refl _) (Nat.le_refl _) (g_in (g_m6 (List.mem_of_getElem? (i := 122) rfl)) rfl) (fun E9 ρ9 m9 h9 => ?_) (fun x ρ9 m9 hq => ?_)
  · obtain ⟨rfl, rfl, h9⟩ := h9
    rcases h9 with ⟨rfl, h9⟩ | ⟨rfl, h9⟩
    · refine tx_catch (i := 4) [] _ _ rfl (fun z hz => nomatch hz) rfl (by decide) (g_in (g_m4 (List.mem_of_getElem? (i := 223) rfl)) rfl) (g_inN (g_m4 (List.mem_of_getElem? (i := 233) rfl)) rfl) (Or.inl ⟨(g_at ck_L_taken 9 rfl), rfl⟩) (by decide) (fun u _ hu => by cases hu; decide) ?_
      refine tz_iconst (n := 16) (g_at ck_L_taken 10 rfl) rfl ?_
      exact tz_iret (g_at ck_L_taken 11 rfl) rfl (rI_mk (Or.inl ⟨h9.symm, Or.inl h9, rfl, rfl⟩))
    · refine tx_catch (i := 4) [_] _ _ rfl (fun z hz => Or.inr (by rw [List.mem_singleton.mp hz]; exact ⟨by decide, (g_in (g_m4 (List.mem_of_getElem? (i := 223) rfl)) rfl), rfl⟩)) rfl (by decide) (g_in (g_m3 (List.mem_of_getElem? (i := 134) rfl)) rfl) (g_inN (g_m3 (List.mem_of_getElem? (i := 141) rfl)) rfl) (Or.inl ⟨(g_at ck_L_taken 12 rfl), rfl⟩) (by decide) (fun u _ hu => by cases hu; decide) ?_
      refine tz_iconst (n := 20) (g_at ck_L_taken 13 rfl) rfl ?_
      exact tz_iret (g_at ck_L_taken 14 rfl) rfl (rI_mk (Or.inl ⟨h9.symm, Or.inr h9, rfl, rfl⟩))
  · refine tz_i2l (n := 9) (g_at ck_L_taken 6 rfl) rfl ?_
    refine tz_last (n := 10) kd_122 (by decide) (g_at ck_L_taken 7 rfl) rfl ?_
    refine tz_goto (tgt := 21) (g_at ck_L_taken 8 rfl) rfl ?_
    refine tz_iconst (n := 22) (g_at ck_L_taken 15 rfl) rfl ?_
    exact tz_iret (g_at ck_L_taken 16 rfl) rfl (rI_mk (Or.inr ⟨rfl, x, m9, hq, rfl⟩))
theorem wl_covered {l : Launch} {γ : Gh} {ρ m : Mm} {d mc ms : Nat} {a cd : Int} {Q : Int → Mm → Mm → Prop} (hE : gE l γ μX10_covered d mc ms (rI KK Q) (xC ρ m cd) KK ρ m [vR 1, vI a]) (hcd : cd ≠ 2) : gE l γ μL_covered (d + 1) mc ms (rI KK (wQ cd ρ m Q)) xN KK ρ m [vR 1, vI a, vR 122] := by
  refine gE.ofwH cl_L.2 ?_ rfl rfl (Nat.le_of_ble_eq_true rfl)
  show gT l γ μL_covered (d + 1) mc ms _ _ KK ρ m 0 [some (vR 1), some (vI a), some (vR 122), none] []
  refine tz_aload2 (n := 1) (g_at ck_L_covered 0 rfl) rfl (g_ne kd_122) ?_
  refine tz_iconst (n := 2) (g_at ck_L_covered 1 rfl) rfl ?_
  refine tz_aload0 (n := 3) (g_at ck_L_covered 2 rfl) rfl (g_ne kd_1) ?_
  refine tz_iload1 (n := 4) (g_at ck_L_covered 3 rfl) rfl ?_
  refine tz_cvxI1 (n := 7) (μ' := μX10_covered) (cb' := 0) (sb' := 0) ml_L_101 mo_X10_covered mv_X10_covered np_X10_covered kd_1 (g_at ck_L_covered 4 rfl) hE rfl rfl rfl ⟨Nat.le_refl _, by decide⟩ (by decide) (Nat.le_refl _) (Nat.le_refl _) (g_in (g_m6 (List.mem_of_getElem? (i := 129) rfl)) rfl) (fun E9 ρ9 m9 h9 => ?_) (fun x ρ9 m9 hq => ?_)
  · obtain ⟨rfl, rfl, h9⟩ := h9
    rcases h9 with ⟨rfl, h9⟩ | ⟨rfl, h9⟩
    · refine tx_catch (i := 3) [] _ _ rfl (fun z hz => nomatch hz) rfl (by decide) (g_in (g_m4 (List.mem_of_getElem? (i := 223) rfl)) rfl) (g_inN (g_m4 (List.mem_of_getElem? (i := 233) rfl)) rfl) (Or.inr ⟨3, rfl, (g_at ck_L_covered 8 rfl), rfl⟩) (by decide) (fun u _ hu => by cases hu; decide) ?_
      refine tz_iconst (n := 14) (g_at ck_L_covered 9 rfl) rfl ?_
      exact tz_iret (g_at ck_L_covered 10 rfl) rfl (rI_mk (Or.inl ⟨h9.symm, Or.inl h9, rfl, rfl⟩))
    · exact absurd h9 hcd
  · refine tz_i2l (n := 8) (g_at ck_L_covered 5 rfl) rfl ?_
    refine tz_last (n := 9) kd_122 (by decide) (g_at ck_L_covered 6 rfl) rfl ?_
    refine tz_goto (tgt := 15) (g_at ck_L_covered 7 rfl) rfl ?_
    refine tz_iconst (n := 16) (g_at ck_L_covered 11 rfl) rfl ?_
    exact tz_iret (g_at ck_L_covered 12 rfl) rfl (rI_mk (Or.inr ⟨rfl, x, m9, hq, rfl⟩))
theorem wl_parting {l : Launch} {γ : Gh} {ρ m : Mm} {d mc ms : Nat} {a b cd : Int} {Q : Int → Mm → Mm → Prop} (hE : gE l γ μX10_parting d mc ms (rI KK Q) (xC ρ m cd) KK ρ m [vR 1, vI a, vI b]) (hcd : cd ≠ 2) : gE l γ μL_parting (d + 1) mc ms (rI KK (wQ cd ρ m Q)) xN KK ρ m [vR 1, vI a, vI b, vR 122] := by
  refine gE.ofwH cl_L.2 ?_ rfl rfl (Nat.le_of_ble_eq_true rfl)
  show gT l γ μL_parting (d + 1) mc ms _ _ KK ρ m 0 [some (vR 1), some (vI a), some (vI b), some (vR 122), none] []
  refine tz_aload3 (n := 1) (g_at ck_L_parting 0 rfl) rfl (g_ne kd_122) ?_
  refine tz_iconst (n := 2) (g_at ck_L_parting 1 rfl) rfl ?_
  refine tz_aload0 (n := 3) (g_at ck_L_parting 2 rfl) rfl (g_ne kd_1) ?_
  refine tz_iload1 (n := 4) (g_at ck_L_parting 3 rfl) rfl ?_
  refine tz_iload2 (n := 5) (g_at ck_L_parting 4 rfl) rfl ?_
  refine tz_cvxI2 (n := 8) (μ' := μX10_parting) (cb' := 0) (sb' := 0) ml_L_104 mo_X10_parting mv_X10_parting np_X10_parting kd_1 (g_at ck_L_parting 5 rfl) hE rfl rfl rfl ⟨Nat.le_refl _, by decide⟩ (by decide) (Nat.le_refl _) (Nat.le_refl _) (g_in (g_m6 (List.mem_of_getElem? (i := 136) rfl)) rfl) (fun E9 ρ9 m9 h9 => ?_) (fun x ρ9 m9 hq => ?_)
  · obtain ⟨rfl, rfl, h9⟩ := h9
    rcases h9 with ⟨rfl, h9⟩ | ⟨rfl, h9⟩
    · refine tx_catch (i := 4) [] _ _ rfl (fun z hz => nomatch hz) rfl (by decide) (g_in (g_m4 (List.mem_of_getElem? (i := 223) rfl)) rfl) (g_inN (g_m4 (List.mem_of_getElem? (i := 233) rfl)) rfl) (Or.inl ⟨(g_at ck_L_parting 9 rfl), rfl⟩) (by decide) (fun u _ hu => by cases hu; decide) ?_
      refine tz_iconst (n := 16) (g_at ck_L_parting 10 rfl) rfl ?_
      exact tz_iret (g_at ck_L_parting 11 rfl) rfl (rI_mk (Or.inl ⟨h9.symm, Or.inl h9, rfl, rfl⟩))
    · exact absurd h9 hcd
  · refine tz_i2l (n := 9) (g_at ck_L_parting 6 rfl) rfl ?_
    refine tz_last (n := 10) kd_122 (by decide) (g_at ck_L_parting 7 rfl) rfl ?_
    refine tz_goto (tgt := 17) (g_at ck_L_parting 8 rfl) rfl ?_
    refine tz_iconst (n := 18) (g_at ck_L_parting 12 rfl) rfl ?_
    exact tz_iret (g_at ck_L_parting 13 rfl) rfl (rI_mk (Or.inr ⟨rfl, x, m9, hq, rfl⟩))
theorem wl_purse {l : Launch} {γ : Gh} {ρ m : Mm} {d mc ms : Nat} {a cd : Int} {Q : Int → Mm → Mm → Prop} (hE : gE l γ μX10_purse d mc ms (rI KK Q) (xC ρ m cd) KK ρ m [vR 1, vI a]) (hcd : cd ≠ 2) : gE l γ μL_purse (d + 1) mc ms (rI KK (wQ cd ρ m Q)) xN KK ρ m [vR 1, vI a, vR 122] := by
  refine gE.ofwH cl_L.2 ?_ rfl rfl (Nat.le_of_ble_eq_true rfl)
  show gT l γ μL_purse (d + 1) mc ms _ _ KK ρ m 0 [some (vR 1), some (vI a), some (vR 122), none] []
  refine tz_aload2 (n := 1) (g_at ck_L_purse 0 rfl) rfl (g_ne kd_122) ?_
  refine tz_iconst (n := 2) (g_at ck_L_purse 1 rfl) rfl ?_
  refine tz_aload0 (n := 3) (g_at ck_L_purse 2 rfl) rfl (g_ne kd_1) ?_
  refine tz_iload1 (n := 4) (g_at ck_L_purse 3 rfl) rfl ?_
  refine tz_cvxI1 (n := 7) (μ' := μX10_purse) (cb' := 0) (sb' := 0) ml_L_107 mo_X10_purse mv_X10_purse np_X10_purse kd_1 (g_at ck_L_purse 4 rfl) hE rfl rfl rfl ⟨Nat.le_refl _, by decide⟩ (by decide) (Nat.le_refl _) (Nat.le_refl _) (g_in (g_m6 (List.mem_of_getElem? (i := 143) rfl)) rfl) (fun E9 ρ9 m9 h9 => ?_) (fun x ρ9 m9 hq => ?_)
  · obtain ⟨rfl, rfl, h9⟩ := h9
    rcases h9 with ⟨rfl, h9⟩ | ⟨rfl, h9⟩
    · refine tx_catch (i := 3) [] _ _ rfl (fun z hz => nomatch hz) rfl (by decide) (g_in (g_m4 (List.mem_of_getElem? (i := 223) rfl)) rfl) (g_inN (g_m4 (List.mem_of_getElem? (i := 233) rfl)) rfl) (Or.inr ⟨3, rfl, (g_at ck_L_purse 8 rfl), rfl⟩) (by decide) (fun u _ hu => by cases hu; decide) ?_
      refine tz_iconst (n := 14) (g_at ck_L_purse 9 rfl) rfl ?_
      exact tz_iret (g_at ck_L_purse 10 rfl) rfl (rI_mk (Or.inl ⟨h9.symm, Or.inl h9, rfl, rfl⟩))
    · exact absurd h9 hcd
  · refine tz_i2l (n := 8) (g_at ck_L_purse 5 rfl) rfl ?_
    refine tz_last (n := 9) kd_122 (by decide) (g_at ck_L_purse 6 rfl) rfl ?_
    refine tz_goto (tgt := 15) (g_at ck_L_purse 7 rfl) rfl ?_
    refine tz_iconst (n := 16) (g_at ck_L_purse 11 rfl) rfl ?_
    exact tz_iret (g_at ck_L_purse 12 rfl) rfl (rI_mk (Or.inr ⟨rfl, x, m9, hq, rfl⟩))
theorem wl_cuts {l : Launch} {γ : Gh} {ρ m : Mm} {d mc ms : Nat} {a b cd : Int} {Q : Int → Mm → Mm → Prop} (hE : gE l γ μX10_cuts d mc ms (rI KK Q) (xC ρ m cd) KK ρ m [vR 1, vI a, vI b]) (hcd : cd ≠ 2) : gE l γ μL_cuts (d + 1) mc ms (rI KK (wQ cd ρ m Q)) xN KK ρ m [vR 1, vI a, vI b, vR 122] := by
  refine gE.ofwH cl_L.2 ?_ rfl rfl (Nat.le_of_ble_eq_true rfl)
  show gT l γ μL_cuts (d + 1) mc ms _ _ KK ρ m 0 [some (vR 1), some (vI a), some (vI b), some (vR 122), none] []
  refine tz_aload3 (n := 1) (g_at ck_L_cuts 0 rfl) rfl (g_ne kd_122) ?_
  refine tz_iconst (n := 2) (g_at ck_L_cuts 1 rfl) rfl ?_
  refine tz_aload0 (n := 3) (g_at ck_L_cuts 2 rfl) rfl (g_ne kd_1) ?_
  refine tz_iload1 (n := 4) (g_at ck_L_cuts 3 rfl) rfl ?_
  refine tz_iload2 (n := 5) (g_at ck_L_cuts 4 rfl) rfl ?_
  refine tz_cvxI2 (n := 8) (μ' := μX10_cuts) (cb' := 0) (sb' := 0) ml_L_110 mo_X10_cuts mv_X10_cuts np_X10_cuts kd_1 (g_at ck_L_cuts 5 rfl) hE rfl rfl rfl ⟨Nat.le_refl _, by decide⟩ (by decide) (Nat.le_refl _) (Nat.le_refl _) (g_in (g_m6 (List.mem_of_getElem? (i := 150) rfl)) rfl) (fun E9 ρ9 m9 h9 => ?_) (fun x ρ9 m9 hq => ?_)
  · obtain ⟨rfl, rfl, h9⟩ := h9
    rcases h9 with ⟨rfl, h9⟩ | ⟨rfl, h9⟩
    · refine tx_catch (i := 4) [] _ _ rfl (fun z hz => nomatch hz) rfl (by decide) (g_in (g_m4 (List.mem_of_getElem? (i := 223) rfl)) rfl) (g_inN (g_m4 (List.mem_of_getElem? (i := 233) rfl)) rfl) (Or.inl ⟨(g_at ck_L_cuts 9 rfl), rfl⟩) (by decide) (fun u _ hu => by cases hu; decide) ?_
      refine tz_iconst (n := 16) (g_at ck_L_cuts 10 rfl) rfl ?_
      exact tz_iret (g_at ck_L_cuts 11 rfl) rfl (rI_mk (Or.inl ⟨h9.symm, Or.inl h9, rfl, rfl⟩))
    · exact absurd h9 hcd
  · refine tz_i2l (n := 9) (g_at ck_L_cuts 6 rfl) rfl ?_
    refine tz_last (n := 10) kd_122 (by decide) (g_at ck_L_cuts 7 rfl) rfl ?_
    refine tz_goto (tgt := 17) (g_at ck_L_cuts 8 rfl) rfl ?_
    refine tz_iconst (n := 18) (g_at ck_L_cuts 12 rfl) rfl ?_
    exact tz_iret (g_at ck_L_cuts 13 rfl) rfl (rI_mk (Or.inr ⟨rfl, x, m9, hq, rfl⟩))
theorem wl_gather {l : Launch} {γ : Gh} {ρ m : Mm} {d mc ms : Nat} {a cd : Int} {Q : Int → Mm → Mm → Prop} (hE : gE l γ μX10_gather d mc ms (rI KK Q) (xC ρ m cd) KK ρ m [vR 1, vI a]) (hcd : cd ≠ 2) : gE l γ μL_gather (d + 1) mc ms (rI KK (wQ cd ρ m Q)) xN KK ρ m [vR 1, vI a, vR 122] := by
  refine gE.ofwH cl_L.2 ?_ rfl rfl (Nat.le_of_ble_eq_true rfl)
  show gT l γ μL_gather (d + 1) mc ms _ _ KK ρ m 0 [some (vR 1), some (vI a), some (vR 122), none] []
  refine tz_aload2 (n := 1) (g_at ck_L_gather 0 rfl) rfl (g_ne kd_122) ?_
  refine tz_iconst (n := 2) (g_at ck_L_gather 1 rfl) rfl ?_
  refine tz_aload0 (n := 3) (g_at ck_L_gather 2 rfl) rfl (g_ne kd_1) ?_
  refine tz_iload1 (n := 4) (g_at ck_L_gather 3 rfl) rfl ?_
  refine tz_cvxI1 (n := 7) (μ' := μX10_gather) (cb' := 0) (sb' := 0) ml_L_113 mo_X10_gather mv_X10_gather np_X10_gather kd_1 (g_at ck_L_gather 4 rfl) hE rfl rfl rfl ⟨Nat.le_refl _, by decide⟩ (by decide) (Nat.le_refl _) (Nat.le_refl _) (g_in (g_m6 (List.mem_of_getElem? (i := 161) rfl)) rfl) (fun E9 ρ9 m9 h9 => ?_) (fun x ρ9 m9 hq => ?_)
  · obtain ⟨rfl, rfl, h9⟩ := h9
    rcases h9 with ⟨rfl, h9⟩ | ⟨rfl, h9⟩
    · refine tx_catch (i := 3) [] _ _ rfl (fun z hz => nomatch hz) rfl (by decide) (g_in (g_m4 (List.mem_of_getElem? (i := 223) rfl)) rfl) (g_inN (g_m4 (List.mem_of_getElem? (i := 233) rfl)) rfl) (Or.inr ⟨3, rfl, (g_at ck_L_gather 8 rfl), rfl⟩) (by decide) (fun u _ hu => by cases hu; decide) ?_
      refine tz_iconst (n := 14) (g_at ck_L_gather 9 rfl) rfl ?_
      exact tz_iret (g_at ck_L_gather 10 rfl) rfl (rI_mk (Or.inl ⟨h9.symm, Or.inl h9, rfl, rfl⟩))
    · exact absurd h9 hcd
  · refine tz_i2l (n := 8) (g_at ck_L_gather 5 rfl) rfl ?_
    refine tz_last (n := 9) kd_122 (by decide) (g_at ck_L_gather 6 rfl) rfl ?_
    refine tz_goto (tgt := 15) (g_at ck_L_gather 7 rfl) rfl ?_
    refine tz_iconst (n := 16) (g_at ck_L_gather 11 rfl) rfl ?_
    exact tz_iret (g_at ck_L_gather 12 rfl) rfl (rI_mk (Or.inr ⟨rfl, x, m9, hq, rfl⟩))
theorem wl_walk {l : Launch} {γ : Gh} {ρ m : Mm} {d mc ms : Nat} {a b cd : Int} {Q : Int → Mm → Mm → Prop} (hE : gE l γ μX10_walk d mc ms (rI KK Q) (xC ρ m cd) KK ρ m [vR 1, vI a, vI b]) (hcd : cd ≠ 2) : gE l γ μL_walk (d + 1) mc ms (rI KK (wQ cd ρ m Q)) xN KK ρ m [vR 1, vI a, vI b, vR 122] := by
  refine gE.ofwH cl_L.2 ?_ rfl rfl (Nat.le_of_ble_eq_true rfl)
  show gT l γ μL_walk (d + 1) mc ms _ _ KK ρ m 0 [some (vR 1), some (vI a), some (vI b), some (vR 122), none] []
  refine tz_aload3 (n := 1) (g_at ck_L_walk 0 rfl) rfl (g_ne kd_122) ?_
  refine tz_iconst (n := 2) (g_at ck_L_walk 1 rfl) rfl ?_
  refine tz_aload0 (n := 3) (g_at ck_L_walk 2 rfl) rfl (g_ne kd_1) ?_
  refine tz_iload1 (n := 4) (g_at ck_L_walk 3 rfl) rfl ?_
  refine tz_iload2 (n := 5) (g_at ck_L_walk 4 rfl) rfl ?_
  refine tz_cvxI2 (n := 8) (μ' := μX10_walk) (cb' := 0) (sb' := 0) ml_L_116 mo_X10_walk mv_X10_walk np_X10_walk kd_1 (g_at ck_L_walk 5 rfl) hE rfl rfl rfl ⟨Nat.le_refl _, by decide⟩ (by decide) (Nat.le_refl _) (Nat.le_refl _) (g_in (g_m6 (List.mem_of_getElem? (i := 176) rfl)) rfl) (fun E9 ρ9 m9 h9 => ?_) (fun x ρ9 m9 hq => ?_)
  · obtain ⟨rfl, rfl, h9⟩ := h9
    rcases h9 with ⟨rfl, h9⟩ | ⟨rfl, h9⟩
    · refine tx_catch (i := 4) [] _ _ rfl (fun z hz => nomatch hz) rfl (by decide) (g_in (g_m4 (List.mem_of_getElem? (i := 223) rfl)) rfl) (g_inN (g_m4 (List.mem_of_getElem? (i := 233) rfl)) rfl) (Or.inl ⟨(g_at ck_L_walk 9 rfl), rfl⟩) (by decide) (fun u _ hu => by cases hu; decide) ?_
      refine tz_iconst (n := 16) (g_at ck_L_walk 10 rfl) rfl ?_
      exact tz_iret (g_at ck_L_walk 11 rfl) rfl (rI_mk (Or.inl ⟨h9.symm, Or.inl h9, rfl, rfl⟩))
    · exact absurd h9 hcd
  · refine tz_i2l (n := 9) (g_at ck_L_walk 6 rfl) rfl ?_
    refine tz_last (n := 10) kd_122 (by decide) (g_at ck_L_walk 7 rfl) rfl ?_
    refine tz_goto (tgt := 17) (g_at ck_L_walk 8 rfl) rfl ?_
    refine tz_iconst (n := 18) (g_at ck_L_walk 12 rfl) rfl ?_
    exact tz_iret (g_at ck_L_walk 13 rfl) rfl (rI_mk (Or.inr ⟨rfl, x, m9, hq, rfl⟩))
theorem wl_tour {l : Launch} {γ : Gh} {ρ m : Mm} {d mc ms : Nat} {a cd : Int} {Q : Int → Mm → Mm → Prop} (hE : gE l γ μX10_tour d mc ms (rI KK Q) (xC ρ m cd) KK ρ m [vR 1, vI a]) (hcd : cd ≠ 2) : gE l γ μL_tour (d + 1) mc ms (rI KK (wQ cd ρ m Q)) xN KK ρ m [vR 1, vI a, vR 122] := by
  refine gE.ofwH cl_L.2 ?_ rfl rfl (Nat.le_of_ble_eq_true rfl)
  show gT l γ μL_tour (d + 1) mc ms _ _ KK ρ m 0 [some (vR 1), some (vI a), some (vR 122), none] []
  refine tz_aload2 (n := 1) (g_at ck_L_tour 0 rfl) rfl (g_ne kd_122) ?_
  refine tz_iconst (n := 2) (g_at ck_L_tour 1 rfl) rfl ?_
  refine tz_aload0 (n := 3) (g_at ck_L_tour 2 rfl) rfl (g_ne kd_1) ?_
  refine tz_iload1 (n := 4) (g_at ck_L_tour 3 rfl) rfl ?_
  refine tz_cvxI1 (n := 7) (μ' := μX10_tour) (cb' := 0) (sb' := 0) ml_L_119 mo_X10_tour mv_X10_tour np_X10_tour kd_1 (g_at ck_L_tour 4 rfl) hE rfl rfl rfl ⟨Nat.le_refl _, by decide⟩ (by decide) (Nat.le_refl _) (Nat.le_refl _) (g_in (g_m6 (List.mem_of_getElem? (i := 196) rfl)) rfl) (fun E9 ρ9 m9 h9 => ?_) (fun x ρ9 m9 hq => ?_)
  · obtain ⟨rfl, rfl, h9⟩ := h9
    rcases h9 with ⟨rfl, h9⟩ | ⟨rfl, h9⟩
    · refine tx_catch (i := 3) [] _ _ rfl (fun z hz => nomatch hz) rfl (by decide) (g_in (g_m4 (List.mem_of_getElem? (i := 223) rfl)) rfl) (g_inN (g_m4 (List.mem_of_getElem? (i := 233) rfl)) rfl) (Or.inr ⟨3, rfl, (g_at ck_L_tour 8 rfl), rfl⟩) (by decide) (fun u _ hu => by cases hu; decide) ?_
      refine tz_iconst (n := 14) (g_at ck_L_tour 9 rfl) rfl ?_
      exact tz_iret (g_at ck_L_tour 10 rfl) rfl (rI_mk (Or.inl ⟨h9.symm, Or.inl h9, rfl, rfl⟩))
    · exact absurd h9 hcd
  · refine tz_i2l (n := 8) (g_at ck_L_tour 5 rfl) rfl ?_
    refine tz_last (n := 9) kd_122 (by decide) (g_at ck_L_tour 6 rfl) rfl ?_
    refine tz_goto (tgt := 15) (g_at ck_L_tour 7 rfl) rfl ?_
    refine tz_iconst (n := 16) (g_at ck_L_tour 11 rfl) rfl ?_
    exact tz_iret (g_at ck_L_tour 12 rfl) rfl (rI_mk (Or.inr ⟨rfl, x, m9, hq, rfl⟩))
