/-! Rule.value; Moment, Shire, Acts, Seen to their end. -/
def stepV (c : Int) (V : Int → Int) (q : Int × (Int → Int)) : Int × (Int → Int) :=
  if c < -5 then
    if c = -8 then
      if q.1 ≤ 0 then q else (q.1, up q.2 (q.1 - 1) (if q.2 (q.1 - 1) = 0 then 1 else 0))
    else if q.1 ≤ 1 then q else (q.1 + -1, up q.2 (q.1 + -1 - 1) (joinF c (q.2 (q.1 + -1 - 1)) (q.2 (q.1 + -1))))
  else if q.1 ≥ 40 then q else (q.1 + 1, up q.2 q.1 (if c < 0 then V (-1 - c) else c))
def valS (code V s0 : Int → Int) (n : Nat) : Int × (Int → Int) := fd (fun i q => stepV (code (i : Int)) V q) (0, s0) n
def valR (q : Int × (Int → Int)) : Int := if q.1 ≤ 0 then 0 else q.2 (q.1 - 1)
theorem stepV_top (c : Int) (V : Int → Int) (q : Int × (Int → Int)) (h : 0 ≤ q.1 ∧ q.1 ≤ 40) : 0 ≤ (stepV c V q).1 ∧ (stepV c V q).1 ≤ 40 := by
  unfold stepV
  repeat' split
  all_goals (first | omega | (simp only []; omega))
theorem valS_top (code V s0 : Int → Int) : ∀ n, 0 ≤ (valS code V s0 n).1 ∧ (valS code V s0 n).1 ≤ 40
  | 0 => by show (0 : Int) ≤ 0 ∧ (0 : Int) ≤ 40; decide
  | n + 1 => stepV_top _ _ _ (valS_top code V s0 n)
theorem stepV_rg {c : Int} {V : Int → Int} {q : Int × (Int → Int)} (hc : -2147483648 ≤ c ∧ c < 2147483648) (hV : ∀ j, -2147483648 ≤ V j ∧ V j < 2147483648) (h : ∀ j, -2147483648 ≤ q.2 j ∧ q.2 j < 2147483648) : ∀ j, -2147483648 ≤ (stepV c V q).2 j ∧ (stepV c V q).2 j < 2147483648 := by
  unfold stepV
  split
  · split
    · split
      · exact h
      · exact up_rg h (by split <;> decide)
    · split
      · exact h
      · exact up_rg h (joinF_rg _ _ _)
  · split
    · exact h
    · refine up_rg h ?_
      split
      · exact hV _
      · exact hc
theorem valS_rg {code V s0 : Int → Int} (hc : ∀ j, -2147483648 ≤ code j ∧ code j < 2147483648) (hV : ∀ j, -2147483648 ≤ V j ∧ V j < 2147483648) (h : ∀ j, -2147483648 ≤ s0 j ∧ s0 j < 2147483648) : ∀ n j, -2147483648 ≤ (valS code V s0 n).2 j ∧ (valS code V s0 n).2 j < 2147483648
  | 0 => h
  | n + 1 => stepV_rg (hc _) hV (valS_rg hc hV h n)
theorem sp_value {l : Launch} {γ : Gh} {ρ m : Mm} {u va : Int} (hU : isU ρ u) (hk : g_k KK va = some (.inr (0, 5))) (hva : va ≠ u + 2) (hR : MR m) (hl : 0 ≤ m u 2 ∧ m u 2 ≤ 700) : gE l γ μX4_value 1 0 0 (rI KK fun x ρ9 m9 => ρ = ρ9 ∧ MR m9 ∧ valR (valS (m (u + 1)) (m va) (m (u + 2)) (m u 2).toNat) = x ∧ upA m (u + 2) (valS (m (u + 1)) (m va) (m (u + 2)) (m u 2).toNat).2 = m9) xN KK ρ m [vR u, vR va] := by
  refine gE.ofw cl_X4.2 ?_ rfl rfl (Nat.le_of_ble_eq_true rfl)
  show gT l γ μX4_value 1 0 0 _ _ KK ρ m 0 [some (vR u), some (vR va), none, none, none] []
  refine tz_iconst (n := 1) (g_at ck_X4_value 0 rfl) rfl ?_
  refine tz_istore2 (n := 2) (g_at ck_X4_value 1 rfl) rfl (by decide) g_hpR ?_
  refine tz_iconst (n := 3) (g_at ck_X4_value 2 rfl) rfl ?_
  refine tz_istore3 (n := 4) (g_at ck_X4_value 3 rfl) rfl (by decide) g_hpI ?_
  suffices hlp : ∀ i : Nat, i ≤ (m u 2).toNat → gT l γ μX4_value 1 0 0 _ _ KK ρ (upA m (u + 2) (valS (m (u + 1)) (m va) (m (u + 2)) i).2) 4 [some (vR u), some (vR va), some (vI (valS (m (u + 1)) (m va) (m (u + 2)) i).1), some (vI (i : Int)), none] [] by
    have h0 := hlp 0 (Nat.zero_le _)
    have e : upA m (u + 2) (valS (m (u + 1)) (m va) (m (u + 2)) 0).2 = m := upA_self
    rw [e] at h0
    exact h0
  refine g_for (fun i : Nat => gT l γ μX4_value 1 0 0 _ _ KK ρ (upA m (u + 2) (valS (m (u + 1)) (m va) (m (u + 2)) i).2) 4 [some (vR u), some (vR va), some (vI (valS (m (u + 1)) (m va) (m (u + 2)) i).1), some (vI (i : Int)), none] []) (m u 2).toNat ?_ (fun i hi ihi => ?_)
  · skip
    have hq := valS_top (m (u + 1)) (m va) (m (u + 2)) (m u 2).toNat
    have hV := valS_rg (hR (u + 1)) (hR va) (hR (u + 2)) (m u 2).toNat
    refine tz_iload3 (n := 5) (g_at ck_X4_value 4 rfl) rfl ?_
    refine tz_aload0 (n := 6) (g_at ck_X4_value 5 rfl) rfl (g_ne hU.k0) ?_
    refine tz_getIw (n := 9) (kz := 2) fk_X4_18 hU.k0 (g_at ck_X4_value 6 rfl) rfl rfl ?_
    rw [upA_ne (show u ≠ u + 2 by omega)]
    refine tz_icmp_ge (n := 12) (tgt := 152) (g_at ck_X4_value 7 rfl) rfl rfl ⟨(by omega), (by omega), (hR _ _).1, (hR _ _).2⟩ (fun h9 => ?_) (fun h9 => absurd h9 (by omega))
    refine tz_iload2 (n := 153) (g_at ck_X4_value 87 rfl) rfl ?_
    refine tz_if_le (n := 156) (tgt := 167) (g_at ck_X4_value 88 rfl) rfl rfl ⟨(by omega), (by omega)⟩ (fun h153 => ?_) (fun h153 => ?_)
    · skip
      refine tz_iconst (n := 168) (g_at ck_X4_value 96 rfl) rfl ?_
      exact tz_iret (g_at ck_X4_value 97 rfl) rfl (rI_mk ⟨rfl, (hR.upA (valS_rg (hR _) (hR _) (hR _) (m u 2).toNat)), by simp (disch := omega) only [valR, if_pos, if_neg], rfl⟩)
    · skip
      refine tz_aload0 (n := 157) (g_at ck_X4_value 89 rfl) rfl (g_ne hU.k0) ?_
      refine tz_getAv (n := 160) (a := (u + 2)) fk_X4_15 hU.k0 hU.r0_1 (g_at ck_X4_value 90 rfl) rfl ?_
      refine tz_iload2 (n := 161) (g_at ck_X4_value 91 rfl) rfl ?_
      refine tz_iconst (n := 162) (g_at ck_X4_value 92 rfl) rfl ?_
      refine tz_isub (n := 163) (g_at ck_X4_value 93 rfl) rfl ?_
      refine tz_iald (n := 164) hU.k2 (by omega) (g_at ck_X4_value 94 rfl) rfl ?_
      rw [upA_at]
      refine tz_goto (tgt := 168) (g_at ck_X4_value 95 rfl) rfl ?_
      exact tz_iret (g_at ck_X4_value 97 rfl) rfl (rI_mk ⟨rfl, (hR.upA (valS_rg (hR _) (hR _) (hR _) (m u 2).toNat)), by simp (disch := omega) only [valR, if_pos, if_neg], rfl⟩)
  · skip
    have hq := valS_top (m (u + 1)) (m va) (m (u + 2)) i
    have hV := valS_rg (hR (u + 1)) (hR va) (hR (u + 2)) i
    refine tz_iload3 (n := 5) (g_at ck_X4_value 4 rfl) rfl ?_
    refine tz_aload0 (n := 6) (g_at ck_X4_value 5 rfl) rfl (g_ne hU.k0) ?_
    refine tz_getIw (n := 9) (kz := 2) fk_X4_18 hU.k0 (g_at ck_X4_value 6 rfl) rfl rfl ?_
    rw [upA_ne (show u ≠ u + 2 by omega)]
    refine tz_icmp_ge (n := 12) (tgt := 152) (g_at ck_X4_value 7 rfl) rfl rfl ⟨(by omega), (by omega), (hR _ _).1, (hR _ _).2⟩ (fun h9 => absurd h9 (by omega)) (fun h9 => ?_)
    refine tz_iload3 (n := 13) (g_at ck_X4_value 8 rfl) rfl ?_
    refine tz_aload0 (n := 14) (g_at ck_X4_value 9 rfl) rfl (g_ne hU.k0) ?_
    refine tz_getAv (n := 17) (a := (u + 1)) fk_X4_9 hU.k0 hU.r0_0 (g_at ck_X4_value 10 rfl) rfl ?_
    refine tz_alen (n := 18) hU.k1 (g_at ck_X4_value 11 rfl) rfl ?_
    refine tz_icmp_ge (n := 21) (tgt := 152) (g_at ck_X4_value 12 rfl) rfl rfl ⟨(by omega), (by omega), (by decide), (by decide)⟩ (fun h18 => absurd h18 (by omega)) (fun h18 => ?_)
    refine tz_aload0 (n := 22) (g_at ck_X4_value 13 rfl) rfl (g_ne hU.k0) ?_
    refine tz_getAv (n := 25) (a := (u + 1)) fk_X4_9 hU.k0 hU.r0_0 (g_at ck_X4_value 14 rfl) rfl ?_
    refine tz_iload3 (n := 26) (g_at ck_X4_value 15 rfl) rfl ?_
    refine tz_iald (n := 27) hU.k1 (by omega) (g_at ck_X4_value 16 rfl) rfl ?_
    rw [upA_ne (show u + 1 ≠ u + 2 by omega)]
    refine tz_istore4 (n := 29) (g_at ck_X4_value 17 rfl) rfl (by decide) g_hpI ?_
    refine tz_iload4 (n := 31) (g_at ck_X4_value 18 rfl) rfl ?_
    refine tz_bipush (n := 33) (g_at ck_X4_value 19 rfl) rfl rfl ?_
    refine tz_icmp_lt (n := 36) (tgt := 73) (g_at ck_X4_value 20 rfl) rfl rfl ⟨(hR _ _).1, (hR _ _).2, by decide, by decide⟩ (fun h33 => ?_) (fun h33 => ?_)
    · skip
      refine tz_iload4 (n := 75) (g_at ck_X4_value 41 rfl) rfl ?_
      refine tz_bipush (n := 77) (g_at ck_X4_value 42 rfl) rfl rfl ?_
      refine tz_icmp_ne (n := 80) (tgt := 111) (g_at ck_X4_value 43 rfl) rfl rfl ⟨(hR _ _).1, (hR _ _).2, by decide, by decide⟩ (fun h77 => ?_) (fun h77 => ?_)
      · skip
        refine tz_iload2 (n := 112) (g_at ck_X4_value 63 rfl) rfl ?_
        refine tz_iconst (n := 113) (g_at ck_X4_value 64 rfl) rfl ?_
        refine tz_icmp_le (n := 116) (tgt := 146) (g_at ck_X4_value 65 rfl) rfl rfl ⟨(by omega), (by omega), (by decide), (by decide)⟩ (fun h113 => ?_) (fun h113 => ?_)
        · skip
          refine tz_iinc3 (n := 149) (g_at ck_X4_value 85 rfl) rfl (by decide) g_hpI ?_
          refine tz_goto (tgt := 4) (g_at ck_X4_value 86 rfl) rfl ?_
          refine tz_drop4 ?_
          refine gT_eq ihi ?_ ?_
          · show upA m (u + 2) (stepV (m (u + 1) (i : Int)) (m va) (valS (m (u + 1)) (m va) (m (u + 2)) i)).2 = _
            simp (disch := omega) only [stepV, if_pos, if_neg, wr_upA]
          · show [some (vR u), some (vR va), some (vI (stepV (m (u + 1) (i : Int)) (m va) (valS (m (u + 1)) (m va) (m (u + 2)) i)).1), some (vI ((i : Int) + 1)), none] = _
            simp (disch := omega) only [stepV, if_pos, if_neg]
        · skip
          refine tz_iinc2 (n := 119) (g_at ck_X4_value 66 rfl) rfl (by decide) g_hpR ?_
          refine tz_aload0 (n := 120) (g_at ck_X4_value 67 rfl) rfl (g_ne hU.k0) ?_
          refine tz_getAv (n := 123) (a := (u + 2)) fk_X4_15 hU.k0 hU.r0_1 (g_at ck_X4_value 68 rfl) rfl ?_
          refine tz_iload2 (n := 124) (g_at ck_X4_value 69 rfl) rfl ?_
          refine tz_iconst (n := 125) (g_at ck_X4_value 70 rfl) rfl ?_
          refine tz_isub (n := 126) (g_at ck_X4_value 71 rfl) rfl ?_
          refine tz_iload4 (n := 128) (g_at ck_X4_value 72 rfl) rfl ?_
          refine tz_aload0 (n := 129) (g_at ck_X4_value 73 rfl) rfl (g_ne hU.k0) ?_
          refine tz_getAv (n := 132) (a := (u + 2)) fk_X4_15 hU.k0 hU.r0_1 (g_at ck_X4_value 74 rfl) rfl ?_
          refine tz_iload2 (n := 133) (g_at ck_X4_value 75 rfl) rfl ?_
          refine tz_iconst (n := 134) (g_at ck_X4_value 76 rfl) rfl ?_
          refine tz_isub (n := 135) (g_at ck_X4_value 77 rfl) rfl ?_
          refine tz_iald (n := 136) hU.k2 (by omega) (g_at ck_X4_value 78 rfl) rfl ?_
          rw [upA_at]
          refine tz_aload0 (n := 137) (g_at ck_X4_value 79 rfl) rfl (g_ne hU.k0) ?_
          refine tz_getAv (n := 140) (a := (u + 2)) fk_X4_15 hU.k0 hU.r0_1 (g_at ck_X4_value 80 rfl) rfl ?_
          refine tz_iload2 (n := 141) (g_at ck_X4_value 81 rfl) rfl ?_
          refine tz_iald (n := 142) hU.k2 (by omega) (g_at ck_X4_value 82 rfl) rfl ?_
          rw [upA_at]
          refine tz_csI3 (n := 145) (μ' := μX4_join) (cb' := 0) (sb' := 0) ml_X4_26 mo_X4_join ms_X4_join np_X4_join (g_at ck_X4_value 83 rfl) (sp_join (hR.upA hV) (hR _ _) (hV _) (hV _)) rfl rfl ⟨by decide, by decide⟩ (Nat.le_of_ble_eq_true rfl) (by decide) (by decide) (fun x142 ρ9 m142 hq => ?_)
          obtain ⟨rfl, hR1, rfl, rfl⟩ := hq
          refine tz_iastr (n := 146) hU.k2 (by omega) (g_at ck_X4_value 84 rfl) rfl hR1 (joinF_rg _ _ _) (fun hR2 => ?_)
          refine tz_iinc3 (n := 149) (g_at ck_X4_value 85 rfl) rfl (by decide) g_hpI ?_
          refine tz_goto (tgt := 4) (g_at ck_X4_value 86 rfl) rfl ?_
          refine tz_drop4 ?_
          refine gT_eq ihi ?_ ?_
          · show upA m (u + 2) (stepV (m (u + 1) (i : Int)) (m va) (valS (m (u + 1)) (m va) (m (u + 2)) i)).2 = _
            simp (disch := omega) only [stepV, if_pos, if_neg, wr_upA]
          · show [some (vR u), some (vR va), some (vI (stepV (m (u + 1) (i : Int)) (m va) (valS (m (u + 1)) (m va) (m (u + 2)) i)).1), some (vI ((i : Int) + 1)), none] = _
            simp (disch := omega) only [stepV, if_pos, if_neg]
      · skip
        refine tz_iload2 (n := 81) (g_at ck_X4_value 44 rfl) rfl ?_
        refine tz_if_le (n := 84) (tgt := 146) (g_at ck_X4_value 45 rfl) rfl rfl ⟨(by omega), (by omega)⟩ (fun h81 => ?_) (fun h81 => ?_)
        · skip
          refine tz_iinc3 (n := 149) (g_at ck_X4_value 85 rfl) rfl (by decide) g_hpI ?_
          refine tz_goto (tgt := 4) (g_at ck_X4_value 86 rfl) rfl ?_
          refine tz_drop4 ?_
          refine gT_eq ihi ?_ ?_
          · show upA m (u + 2) (stepV (m (u + 1) (i : Int)) (m va) (valS (m (u + 1)) (m va) (m (u + 2)) i)).2 = _
            simp (disch := omega) only [stepV, if_pos, if_neg, wr_upA]
          · show [some (vR u), some (vR va), some (vI (stepV (m (u + 1) (i : Int)) (m va) (valS (m (u + 1)) (m va) (m (u + 2)) i)).1), some (vI ((i : Int) + 1)), none] = _
            simp (disch := omega) only [stepV, if_pos, if_neg]
        · skip
          refine tz_aload0 (n := 85) (g_at ck_X4_value 46 rfl) rfl (g_ne hU.k0) ?_
          refine tz_getAv (n := 88) (a := (u + 2)) fk_X4_15 hU.k0 hU.r0_1 (g_at ck_X4_value 47 rfl) rfl ?_
          refine tz_iload2 (n := 89) (g_at ck_X4_value 48 rfl) rfl ?_
          refine tz_iconst (n := 90) (g_at ck_X4_value 49 rfl) rfl ?_
          refine tz_isub (n := 91) (g_at ck_X4_value 50 rfl) rfl ?_
          refine tz_aload0 (n := 92) (g_at ck_X4_value 51 rfl) rfl (g_ne hU.k0) ?_
          refine tz_getAv (n := 95) (a := (u + 2)) fk_X4_15 hU.k0 hU.r0_1 (g_at ck_X4_value 52 rfl) rfl ?_
          refine tz_iload2 (n := 96) (g_at ck_X4_value 53 rfl) rfl ?_
          refine tz_iconst (n := 97) (g_at ck_X4_value 54 rfl) rfl ?_
          refine tz_isub (n := 98) (g_at ck_X4_value 55 rfl) rfl ?_
          refine tz_iald (n := 99) hU.k2 (by omega) (g_at ck_X4_value 56 rfl) rfl ?_
          rw [upA_at]
          refine tz_if_ne (n := 102) (tgt := 106) (g_at ck_X4_value 57 rfl) rfl rfl (hV _) (fun h99 => ?_) (fun h99 => ?_)
          · skip
            refine tz_iconst (n := 107) (g_at ck_X4_value 60 rfl) rfl ?_
            refine tz_iastr (n := 108) hU.k2 (by omega) (g_at ck_X4_value 61 rfl) rfl (hR.upA hV) ⟨(by decide), (by decide)⟩ (fun hR3 => ?_)
            refine tz_goto (tgt := 146) (g_at ck_X4_value 62 rfl) rfl ?_
            refine tz_iinc3 (n := 149) (g_at ck_X4_value 85 rfl) rfl (by decide) g_hpI ?_
            refine tz_goto (tgt := 4) (g_at ck_X4_value 86 rfl) rfl ?_
            refine tz_drop4 ?_
            refine gT_eq ihi ?_ ?_
            · show upA m (u + 2) (stepV (m (u + 1) (i : Int)) (m va) (valS (m (u + 1)) (m va) (m (u + 2)) i)).2 = _
              simp (disch := omega) only [stepV, if_pos, if_neg, wr_upA]
            · show [some (vR u), some (vR va), some (vI (stepV (m (u + 1) (i : Int)) (m va) (valS (m (u + 1)) (m va) (m (u + 2)) i)).1), some (vI ((i : Int) + 1)), none] = _
              simp (disch := omega) only [stepV, if_pos, if_neg]
          · skip
            refine tz_iconst (n := 103) (g_at ck_X4_value 58 rfl) rfl ?_
            refine tz_goto (tgt := 107) (g_at ck_X4_value 59 rfl) rfl ?_
            refine tz_iastr (n := 108) hU.k2 (by omega) (g_at ck_X4_value 61 rfl) rfl (hR.upA hV) ⟨(by decide), (by decide)⟩ (fun hR4 => ?_)
            refine tz_goto (tgt := 146) (g_at ck_X4_value 62 rfl) rfl ?_
            refine tz_iinc3 (n := 149) (g_at ck_X4_value 85 rfl) rfl (by decide) g_hpI ?_
            refine tz_goto (tgt := 4) (g_at ck_X4_value 86 rfl) rfl ?_
            refine tz_drop4 ?_
            refine gT_eq ihi ?_ ?_
            · show upA m (u + 2) (stepV (m (u + 1) (i : Int)) (m va) (valS (m (u + 1)) (m va) (m (u + 2)) i)).2 = _
              simp (disch := omega) only [stepV, if_pos, if_neg, wr_upA]
            · show [some (vR u), some (vR va), some (vI (stepV (m (u + 1) (i : Int)) (m va) (valS (m (u + 1)) (m va) (m (u + 2)) i)).1), some (vI ((i : Int) + 1)), none] = _
              simp (disch := omega) only [stepV, if_pos, if_neg]
    · skip
      refine tz_iload2 (n := 37) (g_at ck_X4_value 21 rfl) rfl ?_
      refine tz_aload0 (n := 38) (g_at ck_X4_value 22 rfl) rfl (g_ne hU.k0) ?_
      refine tz_getAv (n := 41) (a := (u + 2)) fk_X4_15 hU.k0 hU.r0_1 (g_at ck_X4_value 23 rfl) rfl ?_
      refine tz_alen (n := 42) hU.k2 (g_at ck_X4_value 24 rfl) rfl ?_
      refine tz_icmp_ge (n := 45) (tgt := 146) (g_at ck_X4_value 25 rfl) rfl rfl ⟨(by omega), (by omega), (by decide), (by decide)⟩ (fun h42 => ?_) (fun h42 => ?_)
      · skip
        refine tz_iinc3 (n := 149) (g_at ck_X4_value 85 rfl) rfl (by decide) g_hpI ?_
        refine tz_goto (tgt := 4) (g_at ck_X4_value 86 rfl) rfl ?_
        refine tz_drop4 ?_
        refine gT_eq ihi ?_ ?_
        · show upA m (u + 2) (stepV (m (u + 1) (i : Int)) (m va) (valS (m (u + 1)) (m va) (m (u + 2)) i)).2 = _
          simp (disch := omega) only [stepV, if_pos, if_neg, wr_upA]
        · show [some (vR u), some (vR va), some (vI (stepV (m (u + 1) (i : Int)) (m va) (valS (m (u + 1)) (m va) (m (u + 2)) i)).1), some (vI ((i : Int) + 1)), none] = _
          simp (disch := omega) only [stepV, if_pos, if_neg]
      · skip
        refine tz_aload0 (n := 46) (g_at ck_X4_value 26 rfl) rfl (g_ne hU.k0) ?_
        refine tz_getAv (n := 49) (a := (u + 2)) fk_X4_15 hU.k0 hU.r0_1 (g_at ck_X4_value 27 rfl) rfl ?_
        refine tz_iload2 (n := 50) (g_at ck_X4_value 28 rfl) rfl ?_
        refine tz_iload4 (n := 52) (g_at ck_X4_value 29 rfl) rfl ?_
        refine tz_if_lt (n := 55) (tgt := 60) (g_at ck_X4_value 30 rfl) rfl rfl ⟨(hR _ _).1, (hR _ _).2⟩ (fun h52 => ?_) (fun h52 => ?_)
        · skip
          refine tz_aload1 (n := 61) (g_at ck_X4_value 33 rfl) rfl (g_ne hk) ?_
          refine tz_iconst (n := 62) (g_at ck_X4_value 34 rfl) rfl ?_
          refine tz_iload4 (n := 64) (g_at ck_X4_value 35 rfl) rfl ?_
          refine tz_isub (n := 65) (g_at ck_X4_value 36 rfl) rfl ?_
          refine tz_iald (n := 66) hk (by omega) (g_at ck_X4_value 37 rfl) rfl ?_
          first | rw [upA_ne hva] | skip
          refine tz_iastr (n := 67) hU.k2 (by omega) (g_at ck_X4_value 38 rfl) rfl (hR.upA hV) ⟨(hR _ _).1, (hR _ _).2⟩ (fun hR5 => ?_)
          refine tz_iinc2 (n := 70) (g_at ck_X4_value 39 rfl) rfl (by decide) g_hpR ?_
          refine tz_goto (tgt := 146) (g_at ck_X4_value 40 rfl) rfl ?_
          refine tz_iinc3 (n := 149) (g_at ck_X4_value 85 rfl) rfl (by decide) g_hpI ?_
          refine tz_goto (tgt := 4) (g_at ck_X4_value 86 rfl) rfl ?_
          refine tz_drop4 ?_
          refine gT_eq ihi ?_ ?_
          · show upA m (u + 2) (stepV (m (u + 1) (i : Int)) (m va) (valS (m (u + 1)) (m va) (m (u + 2)) i)).2 = _
            simp (disch := omega) only [stepV, if_pos, if_neg, wr_upA]
          · show [some (vR u), some (vR va), some (vI (stepV (m (u + 1) (i : Int)) (m va) (valS (m (u + 1)) (m va) (m (u + 2)) i)).1), some (vI ((i : Int) + 1)), none] = _
            simp (disch := omega) only [stepV, if_pos, if_neg]
        · skip
          refine tz_iload4 (n := 57) (g_at ck_X4_value 31 rfl) rfl ?_
          refine tz_goto (tgt := 66) (g_at ck_X4_value 32 rfl) rfl ?_
          first | rw [upA_ne hva] | skip
          refine tz_iastr (n := 67) hU.k2 (by omega) (g_at ck_X4_value 38 rfl) rfl (hR.upA hV) ⟨(hR _ _).1, (hR _ _).2⟩ (fun hR6 => ?_)
          refine tz_iinc2 (n := 70) (g_at ck_X4_value 39 rfl) rfl (by decide) g_hpR ?_
          refine tz_goto (tgt := 146) (g_at ck_X4_value 40 rfl) rfl ?_
          refine tz_iinc3 (n := 149) (g_at ck_X4_value 85 rfl) rfl (by decide) g_hpI ?_
          refine tz_goto (tgt := 4) (g_at ck_X4_value 86 rfl) rfl ?_
          refine tz_drop4 ?_
          refine gT_eq ihi ?_ ?_
          · show upA m (u + 2) (stepV (m (u + 1) (i : Int)) (m va) (valS (m (u + 1)) (m va) (m (u + 2)) i)).2 = _
            simp (disch := omega) only [stepV, if_pos, if_neg, wr_upA]
          · show [some (vR u), some (vR va), some (vI (stepV (m (u + 1) (i : Int)) (m va) (valS (m (u + 1)) (m va) (m (u + 2)) i)).1), some (vI ((i : Int) + 1)), none] = _
            simp (disch := omega) only [stepV, if_pos, if_neg]
theorem sp_like {l : Launch} {γ : Gh} {ρ m : Mm} {mo o : Int} (hM : isM ρ mo) (hO : isM ρ o) (hR : MR m) : gE l γ μX2_standsLike 0 0 0 (rI KK fun x ρ9 m9 => ρ = ρ9 ∧ MR m9 ∧ likeM m mo o = x ∧ m = m9) xN KK ρ m [vR mo, vR o] := by
  refine gE.ofw cl_X2.2 ?_ rfl rfl (Nat.le_of_ble_eq_true rfl)
  show gT l γ μX2_standsLike 0 0 0 _ _ KK ρ m 0 [some (vR mo), some (vR o), none] []
  refine tz_iconst (n := 1) (g_at ck_X2_standsLike 0 rfl) rfl ?_
  refine tz_istore2 (n := 2) (g_at ck_X2_standsLike 1 rfl) rfl (by decide) g_hpR ?_
  refine g_for (fun i : Nat => (∀ c : Nat, c < i → m (mo + 3) c = m (o + 3) c) → gT l γ μX2_standsLike 0 0 0 _ _ KK ρ m 2 [some (vR mo), some (vR o), some (vI (i : Int))] []) 9 ?_ (fun i hi ihi => ?_) 0 (Nat.zero_le _) (fun c hc => absurd hc (Nat.not_lt_zero c))
  · intro hinv
    refine tz_iload2 (n := 3) (g_at ck_X2_standsLike 2 rfl) rfl ?_
    refine tz_bipush (n := 5) (g_at ck_X2_standsLike 3 rfl) rfl rfl ?_
    refine tz_icmp_ge (n := 8) (tgt := 31) (g_at ck_X2_standsLike 4 rfl) rfl rfl ⟨(by omega), (by omega), (by decide), (by decide)⟩ (fun h5 => ?_) (fun h5 => absurd h5 (by omega))
    refine tz_iconst (n := 32) (g_at ck_X2_standsLike 18 rfl) rfl ?_
    refine tz_istore2 (n := 33) (g_at ck_X2_standsLike 19 rfl) rfl (by decide) g_hpR ?_
    refine g_for (fun j : Nat => ((∀ c : Nat, c < 9 → m (mo + 3) c = m (o + 3) c) ∧ ∀ p : Nat, p < j → m (mo + 1) p = m (o + 1) p) → gT l γ μX2_standsLike 0 0 0 _ _ KK ρ m 33 [some (vR mo), some (vR o), some (vI (j : Int))] []) 8 ?_ (fun j hj ihj => ?_) 0 (Nat.zero_le _) ⟨hinv, fun p hp => absurd hp (Nat.not_lt_zero p)⟩
    · intro hinv
      refine tz_iload2 (n := 34) (g_at ck_X2_standsLike 20 rfl) rfl ?_
      refine tz_bipush (n := 36) (g_at ck_X2_standsLike 21 rfl) rfl rfl ?_
      refine tz_icmp_ge (n := 39) (tgt := 62) (g_at ck_X2_standsLike 22 rfl) rfl rfl ⟨(by omega), (by omega), (by decide), (by decide)⟩ (fun h36 => ?_) (fun h36 => absurd h36 (by omega))
      refine tz_iconst (n := 63) (g_at ck_X2_standsLike 36 rfl) rfl ?_
      exact tz_bret (g_at ck_X2_standsLike 37 rfl) rfl (by decide) (rI_mk ⟨rfl, hR, if_pos hinv, rfl⟩)
    · intro hinv
      refine tz_iload2 (n := 34) (g_at ck_X2_standsLike 20 rfl) rfl ?_
      refine tz_bipush (n := 36) (g_at ck_X2_standsLike 21 rfl) rfl rfl ?_
      refine tz_icmp_ge (n := 39) (tgt := 62) (g_at ck_X2_standsLike 22 rfl) rfl rfl ⟨(by omega), (by omega), (by decide), (by decide)⟩ (fun h36 => absurd h36 (by omega)) (fun h36 => ?_)
      refine tz_aload0 (n := 40) (g_at ck_X2_standsLike 23 rfl) rfl (g_ne hM.k0) ?_
      refine tz_getAv (n := 43) (a := (mo + 1)) fk_X2_9 hM.k0 hM.r0_1 (g_at ck_X2_standsLike 24 rfl) rfl ?_
      refine tz_iload2 (n := 44) (g_at ck_X2_standsLike 25 rfl) rfl ?_
      refine tz_iald (n := 45) hM.k1 (by omega) (g_at ck_X2_standsLike 26 rfl) rfl ?_
      refine tz_aload1 (n := 46) (g_at ck_X2_standsLike 27 rfl) rfl (g_ne hO.k0) ?_
      refine tz_getAv (n := 49) (a := (o + 1)) fk_X2_9 hO.k0 hO.r0_1 (g_at ck_X2_standsLike 28 rfl) rfl ?_
      refine tz_iload2 (n := 50) (g_at ck_X2_standsLike 29 rfl) rfl ?_
      refine tz_iald (n := 51) hO.k1 (by omega) (g_at ck_X2_standsLike 30 rfl) rfl ?_
      refine tz_icmp_eq (n := 54) (tgt := 56) (g_at ck_X2_standsLike 31 rfl) rfl rfl ⟨(hR _ _).1, (hR _ _).2, (hR _ _).1, (hR _ _).2⟩ (fun h51 => ?_) (fun h51 => ?_)
      · skip
        refine tz_iinc2 (n := 59) (g_at ck_X2_standsLike 34 rfl) rfl (by decide) g_hpR ?_
        refine tz_goto (tgt := 33) (g_at ck_X2_standsLike 35 rfl) rfl ?_
        exact ihj ⟨hinv.1, fun p hp => by
          by_cases hpj : p = j
          · rw [hpj]; exact h51
          · exact hinv.2 p (by omega)⟩
      · skip
        refine tz_iconst (n := 55) (g_at ck_X2_standsLike 32 rfl) rfl ?_
        exact tz_bret (g_at ck_X2_standsLike 33 rfl) rfl (by decide) (rI_mk ⟨rfl, hR, if_neg (fun h => h51 (h.2 j (by omega))), rfl⟩)
  · intro hinv
    refine tz_iload2 (n := 3) (g_at ck_X2_standsLike 2 rfl) rfl ?_
    refine tz_bipush (n := 5) (g_at ck_X2_standsLike 3 rfl) rfl rfl ?_
    refine tz_icmp_ge (n := 8) (tgt := 31) (g_at ck_X2_standsLike 4 rfl) rfl rfl ⟨(by omega), (by omega), (by decide), (by decide)⟩ (fun h5 => absurd h5 (by omega)) (fun h5 => ?_)
    refine tz_aload0 (n := 9) (g_at ck_X2_standsLike 5 rfl) rfl (g_ne hM.k0) ?_
    refine tz_getAv (n := 12) (a := (mo + 3)) fk_X2_18 hM.k0 hM.r0_3 (g_at ck_X2_standsLike 6 rfl) rfl ?_
    refine tz_iload2 (n := 13) (g_at ck_X2_standsLike 7 rfl) rfl ?_
    refine tz_iald (n := 14) hM.k3 (by omega) (g_at ck_X2_standsLike 8 rfl) rfl ?_
    refine tz_aload1 (n := 15) (g_at ck_X2_standsLike 9 rfl) rfl (g_ne hO.k0) ?_
    refine tz_getAv (n := 18) (a := (o + 3)) fk_X2_18 hO.k0 hO.r0_3 (g_at ck_X2_standsLike 10 rfl) rfl ?_
    refine tz_iload2 (n := 19) (g_at ck_X2_standsLike 11 rfl) rfl ?_
    refine tz_iald (n := 20) hO.k3 (by omega) (g_at ck_X2_standsLike 12 rfl) rfl ?_
    refine tz_icmp_eq (n := 23) (tgt := 25) (g_at ck_X2_standsLike 13 rfl) rfl rfl ⟨(hR _ _).1, (hR _ _).2, (hR _ _).1, (hR _ _).2⟩ (fun h20 => ?_) (fun h20 => ?_)
    · skip
      refine tz_iinc2 (n := 28) (g_at ck_X2_standsLike 16 rfl) rfl (by decide) g_hpR ?_
      refine tz_goto (tgt := 2) (g_at ck_X2_standsLike 17 rfl) rfl ?_
      exact ihi (fun c hc => by
        by_cases hci : c = i
        · rw [hci]; exact h20
        · exact hinv c (by omega))
    · skip
      refine tz_iconst (n := 24) (g_at ck_X2_standsLike 14 rfl) rfl ?_
      exact tz_bret (g_at ck_X2_standsLike 15 rfl) rfl (by decide) (rI_mk ⟨rfl, hR, if_neg (fun h => h20 (h.1 i (by omega))), rfl⟩)
def shclr (m : Mm) (ld : Int) : Mm := momclr (wr (wr (fil (wr (wr m ld 0 0) ld 1 0) (ld + 3) 9 0) (ld + 6) 2 0) (ld + 9) 2 0) (ld + 12)
theorem momwr_ne {m : Mm} {o a t r : Int} (h : r ≠ a) : momwr m o a t r = m r := by
  unfold momwr
  rw [cpy_ne h, cpy_ne h, cpy_ne h, cpy_ne h, wr_ne h]
def actKeep (m : Mm) (q mo : Int) : Mm := if m q 2 ≥ 40 then wr (momwr m mo (q + 1) ((m q 1 + m q 2) % 40 * 35)) q 1 ((m q 1 + 1) % 40) else wr (momwr m mo (q + 1) ((m q 1 + m q 2) % 40 * 35)) q 2 (m q 2 + 1)
def actBack (m : Mm) (q mo : Int) : Mm := if m q 2 ≤ 0 then m else momrd (wr m q 2 (m q 2 - 1)) mo (q + 1) ((m q 1 + (m q 2 - 1)) % 40 * 35)
def lastD (m : Mm) (e : Int) (n : Nat) : Int := fd (fun i v => if v < m (e + 3) (i : Int) then m (e + 3) (i : Int) else v) 0 n
theorem lastD_rg {m : Mm} (hR : MR m) (e : Int) : ∀ n, -2147483648 ≤ lastD m e n ∧ lastD m e n < 2147483648
  | 0 => by show (-2147483648 : Int) ≤ 0 ∧ (0 : Int) < 2147483648; decide
  | n + 1 => by
    show -2147483648 ≤ (if lastD m e n < m (e + 3) (n : Int) then m (e + 3) (n : Int) else lastD m e n) ∧ (if lastD m e n < m (e + 3) (n : Int) then m (e + 3) (n : Int) else lastD m e n) < 2147483648
    split
    · exact hR _ _
    · exact lastD_rg hR e n
def soOn (m : Mm) (e mo d : Int) : Int := if ∀ i : Nat, i < (m e 3).toNat → m (e + 3) i = d → m (mo + 1) (m (e + 1) i) = m (e + 2) i then 1 else 0
theorem sp_shClear {l : Launch} {γ : Gh} {ρ m : Mm} {ld : Int} (hS : isS ρ ld) (hR : MR m) : gE l γ μX6_clear 2 0 0 (rV KK fun ρ9 m9 => ρ = ρ9 ∧ MR m9 ∧ shclr m ld = m9) xN KK ρ m [vR ld] := by
  refine gE.ofw cl_X6.2 ?_ rfl rfl (Nat.le_of_ble_eq_true rfl)
  show gT l γ μX6_clear 2 0 0 _ _ KK ρ m 0 [some (vR ld)] []
  refine tz_aload0 (n := 1) (g_at ck_X6_clear 0 rfl) rfl (g_ne hS.k0) ?_
  refine tz_iconst (n := 2) (g_at ck_X6_clear 1 rfl) rfl ?_
  refine tz_putIr (n := 5) (kz := 0) fk_X6_44 hS.k0 (g_at ck_X6_clear 2 rfl) rfl hR ⟨(by decide), (by decide)⟩ rfl (fun hR1 => ?_)
  refine tz_aload0 (n := 6) (g_at ck_X6_clear 3 rfl) rfl (g_ne hS.k0) ?_
  refine tz_iconst (n := 7) (g_at ck_X6_clear 4 rfl) rfl ?_
  refine tz_putIr (n := 10) (kz := 1) fk_X6_48 hS.k0 (g_at ck_X6_clear 5 rfl) rfl hR1 ⟨(by decide), (by decide)⟩ rfl (fun hR2 => ?_)
  refine tz_aload0 (n := 11) (g_at ck_X6_clear 6 rfl) rfl (g_ne hS.k0) ?_
  refine tz_getAv (n := 14) (a := (ld + 3)) fk_X6_18 hS.k0 hS.r0_4 (g_at ck_X6_clear 7 rfl) rfl ?_
  refine tz_iconst (n := 15) (g_at ck_X6_clear 8 rfl) rfl ?_
  refine tz_csV2 (n := 18) (μ' := μJ7_fill_53178) (cb' := 0) (sb' := 0) ml_X6_51 mo_J7_fill_53178 ms_J7_fill_53178 np_J7_fill_53178 (g_at ck_X6_clear 9 rfl) (sp_fill hS.k3 (by decide) hR2 ⟨(by decide), (by decide)⟩) rfl rfl ⟨by decide, by decide⟩ (Nat.le_of_ble_eq_true rfl) (by decide) (by decide) (fun ρ9 m15 hq => ?_)
  obtain ⟨rfl, hR3, rfl⟩ := hq
  refine tz_aload0 (n := 19) (g_at ck_X6_clear 10 rfl) rfl (g_ne hS.k0) ?_
  refine tz_getOv (n := 22) (a := (ld + 6)) fk_X6_30 hS.k0 hS.r0_7 (g_at ck_X6_clear 11 rfl) rfl ?_
  refine tz_iconst (n := 23) (g_at ck_X6_clear 12 rfl) rfl ?_
  refine tz_putIr (n := 26) (kz := 2) fk_X6_57 hS.hee.k0 (g_at ck_X6_clear 13 rfl) rfl hR3 ⟨(by decide), (by decide)⟩ rfl (fun hR4 => ?_)
  refine tz_aload0 (n := 27) (g_at ck_X6_clear 14 rfl) rfl (g_ne hS.k0) ?_
  refine tz_getOv (n := 30) (a := (ld + 9)) fk_X6_34 hS.k0 hS.r0_8 (g_at ck_X6_clear 15 rfl) rfl ?_
  refine tz_iconst (n := 31) (g_at ck_X6_clear 16 rfl) rfl ?_
  refine tz_putIr (n := 34) (kz := 2) fk_X6_57 hS.tur.k0 (g_at ck_X6_clear 17 rfl) rfl hR4 ⟨(by decide), (by decide)⟩ rfl (fun hR5 => ?_)
  refine tz_aload0 (n := 35) (g_at ck_X6_clear 18 rfl) rfl (g_ne hS.k0) ?_
  refine tz_getOv (n := 38) (a := (ld + 12)) fk_X6_40 hS.k0 hS.r0_9 (g_at ck_X6_clear 19 rfl) rfl ?_
  refine tz_cvV0 (n := 41) (μ' := μX2_clear) (cb' := 0) (sb' := 0) ml_X6_60 mo_X2_clear mv_X2_clear np_X2_clear hS.mom.k0 (g_at ck_X6_clear 20 rfl) (sp_momClear hS.mom hR5) rfl rfl rfl ⟨by decide, by decide⟩ (Nat.le_of_ble_eq_true rfl) (by decide) (by decide) (fun ρ9 m38 hq => ?_)
  obtain ⟨rfl, hR6, rfl⟩ := hq
  exact tz_vret (g_at ck_X6_clear 21 rfl) rfl (rV_mk ⟨rfl, hR6, rfl⟩)
theorem sp_keep {l : Launch} {γ : Gh} {ρ m : Mm} {q mo : Int} (hA : isA ρ q) (hM : isM ρ mo) (hR : MR m) (h1 : 0 ≤ m q 1 ∧ m q 1 < 40) (h2 : 0 ≤ m q 2 ∧ m q 2 ≤ 40) : gE l γ μX0_keep 3 0 0 (rV KK fun ρ9 m9 => ρ = ρ9 ∧ MR m9 ∧ actKeep m q mo = m9) xN KK ρ m [vR q, vR mo] := by
  refine gE.ofw cl_X0.2 ?_ rfl rfl (Nat.le_of_ble_eq_true rfl)
  show gT l γ μX0_keep 3 0 0 _ _ KK ρ m 0 [some (vR q), some (vR mo)] []
  refine tz_aload1 (n := 1) (g_at ck_X0_keep 0 rfl) rfl (g_ne hM.k0) ?_
  refine tz_aload0 (n := 2) (g_at ck_X0_keep 1 rfl) rfl (g_ne hA.k0) ?_
  refine tz_getAv (n := 5) (a := (q + 1)) fk_X0_11 hA.k0 hA.r0_0 (g_at ck_X0_keep 2 rfl) rfl ?_
  refine tz_aload0 (n := 6) (g_at ck_X0_keep 3 rfl) rfl (g_ne hA.k0) ?_
  refine tz_getIw (n := 9) (kz := 1) fk_X0_17 hA.k0 (g_at ck_X0_keep 4 rfl) rfl rfl ?_
  refine tz_aload0 (n := 10) (g_at ck_X0_keep 5 rfl) rfl (g_ne hA.k0) ?_
  refine tz_getIw (n := 13) (kz := 2) fk_X0_21 hA.k0 (g_at ck_X0_keep 6 rfl) rfl rfl ?_
  refine tz_iadd (n := 14) (g_at ck_X0_keep 7 rfl) rfl ?_
  refine tz_bipush (n := 16) (g_at ck_X0_keep 8 rfl) rfl rfl ?_
  refine tz_irem (n := 17) (g_at ck_X0_keep 9 rfl) rfl (by omega) ?_
  rw [bRem_40 (by omega)]
  refine tz_bipush (n := 19) (g_at ck_X0_keep 10 rfl) rfl rfl ?_
  refine tz_imul (n := 20) (g_at ck_X0_keep 11 rfl) rfl ?_
  refine tz_cvV2 (n := 23) (μ' := μX2_write) (cb' := 0) (sb' := 0) ml_X0_24 mo_X2_write mv_X2_write np_X2_write hM.k0 (g_at ck_X0_keep 12 rfl) (sp_momWrite hM hA.k1 hR (by omega)) rfl rfl rfl ⟨by decide, by decide⟩ (Nat.le_of_ble_eq_true rfl) (by decide) (by decide) (fun ρ9 m20 hq => ?_)
  obtain ⟨rfl, hR1, rfl⟩ := hq
  refine tz_aload0 (n := 24) (g_at ck_X0_keep 13 rfl) rfl (g_ne hA.k0) ?_
  refine tz_getIw (n := 27) (kz := 2) fk_X0_21 hA.k0 (g_at ck_X0_keep 14 rfl) rfl rfl ?_
  refine tz_bipush (n := 29) (g_at ck_X0_keep 15 rfl) rfl rfl ?_
  rw [momwr_ne (show q ≠ q + 1 by omega)]
  refine tz_icmp_ge (n := 32) (tgt := 45) (g_at ck_X0_keep 16 rfl) rfl rfl ⟨(hR _ _).1, (hR _ _).2, by decide, by decide⟩ (fun h29 => ?_) (fun h29 => ?_)
  · skip
    refine tz_aload0 (n := 46) (g_at ck_X0_keep 24 rfl) rfl (g_ne hA.k0) ?_
    refine tz_aload0 (n := 47) (g_at ck_X0_keep 25 rfl) rfl (g_ne hA.k0) ?_
    refine tz_getIw (n := 50) (kz := 1) fk_X0_17 hA.k0 (g_at ck_X0_keep 26 rfl) rfl rfl ?_
    rw [momwr_ne (show q ≠ q + 1 by omega)]
    refine tz_iconst (n := 51) (g_at ck_X0_keep 27 rfl) rfl ?_
    refine tz_iadd (n := 52) (g_at ck_X0_keep 28 rfl) rfl ?_
    refine tz_bipush (n := 54) (g_at ck_X0_keep 29 rfl) rfl rfl ?_
    refine tz_irem (n := 55) (g_at ck_X0_keep 30 rfl) rfl (by omega) ?_
    rw [bRem_40 (by omega)]
    refine tz_putIr (n := 58) (kz := 1) fk_X0_17 hA.k0 (g_at ck_X0_keep 31 rfl) rfl hR1 (by omega) rfl (fun hR2 => ?_)
    exact tz_vret (g_at ck_X0_keep 32 rfl) rfl (rV_mk ⟨rfl, hR2, by simp (disch := omega) only [actKeep, if_pos, if_neg]⟩)
  · skip
    refine tz_aload0 (n := 33) (g_at ck_X0_keep 17 rfl) rfl (g_ne hA.k0) ?_
    refine tz_dupR (n := 34) (g_at ck_X0_keep 18 rfl) rfl ?_
    refine tz_getIw (n := 37) (kz := 2) fk_X0_21 hA.k0 (g_at ck_X0_keep 19 rfl) rfl rfl ?_
    rw [momwr_ne (show q ≠ q + 1 by omega)]
    refine tz_iconst (n := 38) (g_at ck_X0_keep 20 rfl) rfl ?_
    refine tz_iadd (n := 39) (g_at ck_X0_keep 21 rfl) rfl ?_
    refine tz_putIr (n := 42) (kz := 2) fk_X0_21 hA.k0 (g_at ck_X0_keep 22 rfl) rfl hR1 (by omega) rfl (fun hR3 => ?_)
    refine tz_goto (tgt := 58) (g_at ck_X0_keep 23 rfl) rfl ?_
    exact tz_vret (g_at ck_X0_keep 32 rfl) rfl (rV_mk ⟨rfl, hR3, by simp (disch := omega) only [actKeep, if_pos, if_neg]⟩)
theorem sp_takeBack {l : Launch} {γ : Gh} {ρ m : Mm} {q mo : Int} (hA : isA ρ q) (hM : isM ρ mo) (hR : MR m) (h1 : 0 ≤ m q 1 ∧ m q 1 < 40) (h2 : 0 ≤ m q 2 ∧ m q 2 ≤ 40) : gE l γ μX0_takeBack 3 0 0 (rV KK fun ρ9 m9 => ρ = ρ9 ∧ MR m9 ∧ actBack m q mo = m9) xN KK ρ m [vR q, vR mo] := by
  refine gE.ofw cl_X0.2 ?_ rfl rfl (Nat.le_of_ble_eq_true rfl)
  show gT l γ μX0_takeBack 3 0 0 _ _ KK ρ m 0 [some (vR q), some (vR mo)] []
  refine tz_aload0 (n := 1) (g_at ck_X0_takeBack 0 rfl) rfl (g_ne hA.k0) ?_
  refine tz_getIw (n := 4) (kz := 2) fk_X0_21 hA.k0 (g_at ck_X0_takeBack 1 rfl) rfl rfl ?_
  refine tz_if_le (n := 7) (tgt := 40) (g_at ck_X0_takeBack 2 rfl) rfl rfl ⟨(hR _ _).1, (hR _ _).2⟩ (fun h4 => ?_) (fun h4 => ?_)
  · skip
    exact tz_vret (g_at ck_X0_takeBack 22 rfl) rfl (rV_mk ⟨rfl, hR, by simp (disch := omega) only [actBack, if_pos, if_neg]⟩)
  · skip
    refine tz_aload0 (n := 8) (g_at ck_X0_takeBack 3 rfl) rfl (g_ne hA.k0) ?_
    refine tz_dupR (n := 9) (g_at ck_X0_takeBack 4 rfl) rfl ?_
    refine tz_getIw (n := 12) (kz := 2) fk_X0_21 hA.k0 (g_at ck_X0_takeBack 5 rfl) rfl rfl ?_
    refine tz_iconst (n := 13) (g_at ck_X0_takeBack 6 rfl) rfl ?_
    refine tz_isub (n := 14) (g_at ck_X0_takeBack 7 rfl) rfl ?_
    refine tz_putIr (n := 17) (kz := 2) fk_X0_21 hA.k0 (g_at ck_X0_takeBack 8 rfl) rfl hR ⟨(by omega), (by omega)⟩ rfl (fun hR1 => ?_)
    refine tz_aload1 (n := 18) (g_at ck_X0_takeBack 9 rfl) rfl (g_ne hM.k0) ?_
    refine tz_aload0 (n := 19) (g_at ck_X0_takeBack 10 rfl) rfl (g_ne hA.k0) ?_
    refine tz_getAv (n := 22) (a := (q + 1)) fk_X0_11 hA.k0 hA.r0_0 (g_at ck_X0_takeBack 11 rfl) rfl ?_
    refine tz_aload0 (n := 23) (g_at ck_X0_takeBack 12 rfl) rfl (g_ne hA.k0) ?_
    refine tz_getIw (n := 26) (kz := 1) fk_X0_17 hA.k0 (g_at ck_X0_takeBack 13 rfl) rfl rfl ?_
    rw [wr_at, if_neg (by decide)]
    refine tz_aload0 (n := 27) (g_at ck_X0_takeBack 14 rfl) rfl (g_ne hA.k0) ?_
    refine tz_getIw (n := 30) (kz := 2) fk_X0_21 hA.k0 (g_at ck_X0_takeBack 15 rfl) rfl rfl ?_
    rw [wr_same]
    refine tz_iadd (n := 31) (g_at ck_X0_takeBack 16 rfl) rfl ?_
    refine tz_bipush (n := 33) (g_at ck_X0_takeBack 17 rfl) rfl rfl ?_
    refine tz_irem (n := 34) (g_at ck_X0_takeBack 18 rfl) rfl (by omega) ?_
    rw [bRem_40 (by omega)]
    refine tz_bipush (n := 36) (g_at ck_X0_takeBack 19 rfl) rfl rfl ?_
    refine tz_imul (n := 37) (g_at ck_X0_takeBack 20 rfl) rfl ?_
    refine tz_cvV2 (n := 40) (μ' := μX2_readBack) (cb' := 0) (sb' := 0) ml_X0_28 mo_X2_readBack mv_X2_readBack np_X2_readBack hM.k0 (g_at ck_X0_takeBack 21 rfl) (sp_momRead hM hA.k1 hR1 (by omega)) rfl rfl rfl ⟨by decide, by decide⟩ (Nat.le_of_ble_eq_true rfl) (by decide) (by decide) (fun ρ9 m37 hq => ?_)
    obtain ⟨rfl, hR2, rfl⟩ := hq
    exact tz_vret (g_at ck_X0_takeBack 22 rfl) rfl (rV_mk ⟨rfl, hR2, by simp (disch := omega) only [actBack, if_pos, if_neg]⟩)
theorem sp_seenAdd {l : Launch} {γ : Gh} {ρ m : Mm} {e x y z : Int} (hE : isE ρ e) (hR : MR m) (h0 : 0 ≤ m e 3 ∧ m e 3 < 8) (h1 : -2147483648 ≤ x ∧ x < 2147483648) (h2 : -2147483648 ≤ y ∧ y < 2147483648) (h3 : -2147483648 ≤ z ∧ z < 2147483648) : gE l γ μX5_add 0 0 0 (rV KK fun ρ9 m9 => ρ = ρ9 ∧ MR m9 ∧ wr (wr (wr (wr m (e + 1) (m e 3) x) (e + 2) (m e 3) y) (e + 3) (m e 3) z) e 3 (m e 3 + 1) = m9) xN KK ρ m [vR e, vI x, vI y, vI z] := by
  refine gE.ofw cl_X5.2 ?_ rfl rfl (Nat.le_of_ble_eq_true rfl)
  show gT l γ μX5_add 0 0 0 _ _ KK ρ m 0 [some (vR e), some (vI x), some (vI y), some (vI z)] []
  refine tz_aload0 (n := 1) (g_at ck_X5_add 0 rfl) rfl (g_ne hE.k0) ?_
  refine tz_getIw (n := 4) (kz := 3) fk_X5_21 hE.k0 (g_at ck_X5_add 1 rfl) rfl rfl ?_
  refine tz_bipush (n := 6) (g_at ck_X5_add 2 rfl) rfl rfl ?_
  refine tz_icmp_ge (n := 9) (tgt := 49) (g_at ck_X5_add 3 rfl) rfl rfl ⟨(hR _ _).1, (hR _ _).2, (by decide), (by decide)⟩ (fun h6 => absurd h6 (by omega)) (fun h6 => ?_)
  refine tz_aload0 (n := 10) (g_at ck_X5_add 4 rfl) rfl (g_ne hE.k0) ?_
  refine tz_getAv (n := 13) (a := (e + 1)) fk_X5_9 hE.k0 hE.r0_0 (g_at ck_X5_add 5 rfl) rfl ?_
  refine tz_aload0 (n := 14) (g_at ck_X5_add 6 rfl) rfl (g_ne hE.k0) ?_
  refine tz_getIw (n := 17) (kz := 3) fk_X5_21 hE.k0 (g_at ck_X5_add 7 rfl) rfl rfl ?_
  refine tz_iload1 (n := 18) (g_at ck_X5_add 8 rfl) rfl ?_
  refine tz_iastr (n := 19) hE.k1 (by omega) (g_at ck_X5_add 9 rfl) rfl hR ⟨h1.1, h1.2⟩ (fun hR1 => ?_)
  refine tz_aload0 (n := 20) (g_at ck_X5_add 10 rfl) rfl (g_ne hE.k0) ?_
  refine tz_getAv (n := 23) (a := (e + 2)) fk_X5_15 hE.k0 hE.r0_1 (g_at ck_X5_add 11 rfl) rfl ?_
  refine tz_aload0 (n := 24) (g_at ck_X5_add 12 rfl) rfl (g_ne hE.k0) ?_
  refine tz_getIw (n := 27) (kz := 3) fk_X5_21 hE.k0 (g_at ck_X5_add 13 rfl) rfl rfl ?_
  rw [wr_ne (show e ≠ e + 1 by omega)]
  refine tz_iload2 (n := 28) (g_at ck_X5_add 14 rfl) rfl ?_
  refine tz_iastr (n := 29) hE.k2 (by omega) (g_at ck_X5_add 15 rfl) rfl hR1 ⟨h2.1, h2.2⟩ (fun hR2 => ?_)
  refine tz_aload0 (n := 30) (g_at ck_X5_add 16 rfl) rfl (g_ne hE.k0) ?_
  refine tz_getAv (n := 33) (a := (e + 3)) fk_X5_18 hE.k0 hE.r0_2 (g_at ck_X5_add 17 rfl) rfl ?_
  refine tz_aload0 (n := 34) (g_at ck_X5_add 18 rfl) rfl (g_ne hE.k0) ?_
  refine tz_getIw (n := 37) (kz := 3) fk_X5_21 hE.k0 (g_at ck_X5_add 19 rfl) rfl rfl ?_
  rw [wr_ne (show e ≠ e + 2 by omega), wr_ne (show e ≠ e + 1 by omega)]
  refine tz_iload3 (n := 38) (g_at ck_X5_add 20 rfl) rfl ?_
  refine tz_iastr (n := 39) hE.k3 (by omega) (g_at ck_X5_add 21 rfl) rfl hR2 ⟨h3.1, h3.2⟩ (fun hR3 => ?_)
  refine tz_aload0 (n := 40) (g_at ck_X5_add 22 rfl) rfl (g_ne hE.k0) ?_
  refine tz_dupR (n := 41) (g_at ck_X5_add 23 rfl) rfl ?_
  refine tz_getIw (n := 44) (kz := 3) fk_X5_21 hE.k0 (g_at ck_X5_add 24 rfl) rfl rfl ?_
  rw [wr_ne (show e ≠ e + 3 by omega), wr_ne (show e ≠ e + 2 by omega), wr_ne (show e ≠ e + 1 by omega)]
  refine tz_iconst (n := 45) (g_at ck_X5_add 25 rfl) rfl ?_
  refine tz_iadd (n := 46) (g_at ck_X5_add 26 rfl) rfl ?_
  refine tz_putIr (n := 49) (kz := 3) fk_X5_21 hE.k0 (g_at ck_X5_add 27 rfl) rfl hR3 (by omega) rfl (fun hR4 => ?_)
  exact tz_vret (g_at ck_X5_add 28 rfl) rfl (rV_mk ⟨rfl, hR4, rfl⟩)
theorem sp_lastDay {l : Launch} {γ : Gh} {ρ m : Mm} {e : Int} (hE : isE ρ e) (hR : MR m) (h0 : 0 ≤ m e 3 ∧ m e 3 ≤ 8) : gE l γ μX5_lastDay 2 0 0 (rI KK fun x ρ9 m9 => ρ = ρ9 ∧ MR m9 ∧ lastD m e (m e 3).toNat = x ∧ m = m9) xN KK ρ m [vR e] := by
  refine gE.ofw cl_X5.2 ?_ rfl rfl (Nat.le_of_ble_eq_true rfl)
  show gT l γ μX5_lastDay 2 0 0 _ _ KK ρ m 0 [some (vR e), none, none] []
  refine tz_iconst (n := 1) (g_at ck_X5_lastDay 0 rfl) rfl ?_
  refine tz_istore1 (n := 2) (g_at ck_X5_lastDay 1 rfl) rfl (by decide) g_hpR ?_
  refine tz_iconst (n := 3) (g_at ck_X5_lastDay 2 rfl) rfl ?_
  refine tz_istore2 (n := 4) (g_at ck_X5_lastDay 3 rfl) rfl (by decide) g_hpI ?_
  refine g_for (fun i : Nat => gT l γ μX5_lastDay 2 0 0 _ _ KK ρ m 4 [some (vR e), some (vI (lastD m e i)), some (vI (i : Int))] []) (m e 3).toNat ?_ (fun i hi ihi => ?_) 0 (Nat.zero_le _)
  · skip
    refine tz_iload2 (n := 5) (g_at ck_X5_lastDay 4 rfl) rfl ?_
    refine tz_aload0 (n := 6) (g_at ck_X5_lastDay 5 rfl) rfl (g_ne hE.k0) ?_
    refine tz_getIw (n := 9) (kz := 3) fk_X5_21 hE.k0 (g_at ck_X5_lastDay 6 rfl) rfl rfl ?_
    refine tz_icmp_ge (n := 12) (tgt := 29) (g_at ck_X5_lastDay 7 rfl) rfl rfl ⟨(by omega), (by omega), (hR _ _).1, (hR _ _).2⟩ (fun h9 => ?_) (fun h9 => absurd h9 (by omega))
    refine tz_iload1 (n := 30) (g_at ck_X5_lastDay 17 rfl) rfl ?_
    exact tz_iret (g_at ck_X5_lastDay 18 rfl) rfl (rI_mk ⟨rfl, hR, rfl, rfl⟩)
  · skip
    refine tz_iload2 (n := 5) (g_at ck_X5_lastDay 4 rfl) rfl ?_
    refine tz_aload0 (n := 6) (g_at ck_X5_lastDay 5 rfl) rfl (g_ne hE.k0) ?_
    refine tz_getIw (n := 9) (kz := 3) fk_X5_21 hE.k0 (g_at ck_X5_lastDay 6 rfl) rfl rfl ?_
    refine tz_icmp_ge (n := 12) (tgt := 29) (g_at ck_X5_lastDay 7 rfl) rfl rfl ⟨(by omega), (by omega), (hR _ _).1, (hR _ _).2⟩ (fun h9 => absurd h9 (by omega)) (fun h9 => ?_)
    refine tz_iload1 (n := 13) (g_at ck_X5_lastDay 8 rfl) rfl ?_
    refine tz_aload0 (n := 14) (g_at ck_X5_lastDay 9 rfl) rfl (g_ne hE.k0) ?_
    refine tz_getAv (n := 17) (a := (e + 3)) fk_X5_18 hE.k0 hE.r0_2 (g_at ck_X5_lastDay 10 rfl) rfl ?_
    refine tz_iload2 (n := 18) (g_at ck_X5_lastDay 11 rfl) rfl ?_
    refine tz_iald (n := 19) hE.k3 (by omega) (g_at ck_X5_lastDay 12 rfl) rfl ?_
    refine tz_mmax (n := 22) mm_X5_49 mmax_1 mm_i mmax_2 ⟨(lastD_rg hR e i).1, (lastD_rg hR e i).2, (hR _ _).1, (hR _ _).2⟩ (g_at ck_X5_lastDay 13 rfl) rfl (by decide) (Nat.le_of_ble_eq_true rfl) ?_
    refine tz_istore1 (n := 23) (g_at ck_X5_lastDay 14 rfl) rfl (by decide) g_hpR ?_
    refine tz_iinc2 (n := 26) (g_at ck_X5_lastDay 15 rfl) rfl (by decide) g_hpI ?_
    refine tz_goto (tgt := 4) (g_at ck_X5_lastDay 16 rfl) rfl ?_
    exact ihi
theorem sp_isSoOn {l : Launch} {γ : Gh} {ρ m : Mm} {e mo d : Int} (hE : isE ρ e) (hM : isM ρ mo) (hR : MR m) (h0 : 0 ≤ m e 3 ∧ m e 3 ≤ 8) (hd : -2147483648 ≤ d ∧ d < 2147483648) (hw : ∀ i : Nat, (i : Int) < m e 3 → 0 ≤ m (e + 1) i ∧ m (e + 1) i < 8) : gE l γ μX5_isSoOn 0 0 0 (rI KK fun x ρ9 m9 => ρ = ρ9 ∧ MR m9 ∧ soOn m e mo d = x ∧ m = m9) xN KK ρ m [vR e, vI d, vR mo] := by
  refine gE.ofw cl_X5.2 ?_ rfl rfl (Nat.le_of_ble_eq_true rfl)
  show gT l γ μX5_isSoOn 0 0 0 _ _ KK ρ m 0 [some (vR e), some (vI d), some (vR mo), none] []
  refine tz_iconst (n := 1) (g_at ck_X5_isSoOn 0 rfl) rfl ?_
  refine tz_istore3 (n := 2) (g_at ck_X5_isSoOn 1 rfl) rfl (by decide) g_hpR ?_
  refine g_for (fun i : Nat => (∀ k : Nat, k < i → m (e + 3) k = d → m (mo + 1) (m (e + 1) k) = m (e + 2) k) → gT l γ μX5_isSoOn 0 0 0 _ _ KK ρ m 2 [some (vR e), some (vI d), some (vR mo), some (vI (i : Int))] []) (m e 3).toNat ?_ (fun i hi ihi => ?_) 0 (Nat.zero_le _) (fun k hk => absurd hk (Nat.not_lt_zero k))
  · intro hinv
    refine tz_iload3 (n := 3) (g_at ck_X5_isSoOn 2 rfl) rfl ?_
    refine tz_aload0 (n := 4) (g_at ck_X5_isSoOn 3 rfl) rfl (g_ne hE.k0) ?_
    refine tz_getIw (n := 7) (kz := 3) fk_X5_21 hE.k0 (g_at ck_X5_isSoOn 4 rfl) rfl rfl ?_
    refine tz_icmp_ge (n := 10) (tgt := 48) (g_at ck_X5_isSoOn 5 rfl) rfl rfl ⟨(by omega), (by omega), (hR _ _).1, (hR _ _).2⟩ (fun h7 => ?_) (fun h7 => absurd h7 (by omega))
    refine tz_iconst (n := 49) (g_at ck_X5_isSoOn 28 rfl) rfl ?_
    exact tz_bret (g_at ck_X5_isSoOn 29 rfl) rfl (by decide) (rI_mk ⟨rfl, hR, if_pos hinv, rfl⟩)
  · intro hinv
    have hwi := hw i (by omega)
    refine tz_iload3 (n := 3) (g_at ck_X5_isSoOn 2 rfl) rfl ?_
    refine tz_aload0 (n := 4) (g_at ck_X5_isSoOn 3 rfl) rfl (g_ne hE.k0) ?_
    refine tz_getIw (n := 7) (kz := 3) fk_X5_21 hE.k0 (g_at ck_X5_isSoOn 4 rfl) rfl rfl ?_
    refine tz_icmp_ge (n := 10) (tgt := 48) (g_at ck_X5_isSoOn 5 rfl) rfl rfl ⟨(by omega), (by omega), (hR _ _).1, (hR _ _).2⟩ (fun h7 => absurd h7 (by omega)) (fun h7 => ?_)
    refine tz_aload0 (n := 11) (g_at ck_X5_isSoOn 6 rfl) rfl (g_ne hE.k0) ?_
    refine tz_getAv (n := 14) (a := (e + 3)) fk_X5_18 hE.k0 hE.r0_2 (g_at ck_X5_isSoOn 7 rfl) rfl ?_
    refine tz_iload3 (n := 15) (g_at ck_X5_isSoOn 8 rfl) rfl ?_
    refine tz_iald (n := 16) hE.k3 (by omega) (g_at ck_X5_isSoOn 9 rfl) rfl ?_
    refine tz_iload1 (n := 17) (g_at ck_X5_isSoOn 10 rfl) rfl ?_
    refine tz_icmp_ne (n := 20) (tgt := 42) (g_at ck_X5_isSoOn 11 rfl) rfl rfl ⟨(hR _ _).1, (hR _ _).2, hd.1, hd.2⟩ (fun h17 => ?_) (fun h17 => ?_)
    · skip
      refine tz_iinc3 (n := 45) (g_at ck_X5_isSoOn 26 rfl) rfl (by decide) g_hpR ?_
      refine tz_goto (tgt := 2) (g_at ck_X5_isSoOn 27 rfl) rfl ?_
      exact ihi (fun k hk => by
        by_cases hki : k = i
        · subst hki
          intro hd9
          first | exact absurd hd9 h17 | exact h37
        · exact hinv k (by omega))
    · skip
      refine tz_aload2 (n := 21) (g_at ck_X5_isSoOn 12 rfl) rfl (g_ne hM.k0) ?_
      refine tz_getAv (n := 24) (a := (mo + 1)) fk_X5_55 hM.k0 hM.r0_1 (g_at ck_X5_isSoOn 13 rfl) rfl ?_
      refine tz_aload0 (n := 25) (g_at ck_X5_isSoOn 14 rfl) rfl (g_ne hE.k0) ?_
      refine tz_getAv (n := 28) (a := (e + 1)) fk_X5_9 hE.k0 hE.r0_0 (g_at ck_X5_isSoOn 15 rfl) rfl ?_
      refine tz_iload3 (n := 29) (g_at ck_X5_isSoOn 16 rfl) rfl ?_
      refine tz_iald (n := 30) hE.k1 (by omega) (g_at ck_X5_isSoOn 17 rfl) rfl ?_
      refine tz_iald (n := 31) hM.k1 (by omega) (g_at ck_X5_isSoOn 18 rfl) rfl ?_
      refine tz_aload0 (n := 32) (g_at ck_X5_isSoOn 19 rfl) rfl (g_ne hE.k0) ?_
      refine tz_getAv (n := 35) (a := (e + 2)) fk_X5_15 hE.k0 hE.r0_1 (g_at ck_X5_isSoOn 20 rfl) rfl ?_
      refine tz_iload3 (n := 36) (g_at ck_X5_isSoOn 21 rfl) rfl ?_
      refine tz_iald (n := 37) hE.k2 (by omega) (g_at ck_X5_isSoOn 22 rfl) rfl ?_
      refine tz_icmp_eq (n := 40) (tgt := 42) (g_at ck_X5_isSoOn 23 rfl) rfl rfl ⟨(hR _ _).1, (hR _ _).2, (hR _ _).1, (hR _ _).2⟩ (fun h37 => ?_) (fun h37 => ?_)
      · skip
        refine tz_iinc3 (n := 45) (g_at ck_X5_isSoOn 26 rfl) rfl (by decide) g_hpR ?_
        refine tz_goto (tgt := 2) (g_at ck_X5_isSoOn 27 rfl) rfl ?_
        exact ihi (fun k hk => by
          by_cases hki : k = i
          · subst hki
            intro hd9
            first | exact absurd hd9 h17 | exact h37
          · exact hinv k (by omega))
      · skip
        refine tz_iconst (n := 41) (g_at ck_X5_isSoOn 24 rfl) rfl ?_
        exact tz_bret (g_at ck_X5_isSoOn 25 rfl) rfl (by decide) (rI_mk ⟨rfl, hR, if_neg (fun h => h37 (h i (by omega) h17)), rfl⟩)
