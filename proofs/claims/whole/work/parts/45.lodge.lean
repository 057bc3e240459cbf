/-! Beds taken. -/
theorem bb_val {x n c : Int} {q : Int × Int} {g : Int → Int} (h : q.1 = -1 ∧ q.2 = x ∨ (0 ≤ q.1 ∧ q.1 < n) ∧ c = 1 ∧ q.2 = g q.1) : (if q.1 = -1 then x else g q.1) = q.2 := by
  rcases h with h | h
  · rw [if_pos h.1, h.2]
  · rw [if_neg (by omega), h.2.2]
theorem sp_takeBeds {l : Launch} {γ : Gh} {ρ m : Mm} {ld : Int} {Λ : Mm} {hl tl : List Int} (hL : LY ρ) (hLw : ρ 71 0 = ld) (hS : isS ρ ld) (hR : MR m) (hW : WL Λ) (hG : LandC m ld Λ hl tl) {s : Int → Int} (hV : SvC m Λ s) (hσ : WS Λ 0 (sig0 s)) (hO : LodgeOK Λ s (m 79)) : gE l γ μX9_takeBeds 4 0 0 (rV KK fun ρ9 m9 => ρ = ρ9 ∧ MR m9 ∧ Fr [71, 78] m m9 ∧ m9 71 8 = (tbN Λ s (m 79) (Λ 0 1).toNat).2.1 ∧ m9 71 9 = (tbN Λ s (m 79) (Λ 0 1).toNat).2.2 ∧ ∀ p, 0 ≤ p → p < Λ 0 1 → m9 78 p = bdP Λ s (m 79) p) xN KK ρ m [vR 71] := by
  refine gE.ofw cl_X9.2 ?_ rfl rfl (Nat.le_of_ble_eq_true rfl)
  show gT l γ μX9_takeBeds 4 0 0 _ _ KK ρ m 0 [some (vR 71), none, none, none] []
  have hn := hW.1
  have hn8 := hW.2.1
  have hld := hG.ld9
  have ha := abI_rg hW
  refine tz_iconst (n := 1) (g_at ck_X9_takeBeds 0 rfl) rfl ?_
  refine tz_istore1 (n := 2) (g_at ck_X9_takeBeds 1 rfl) rfl (by decide) g_hpR ?_
  refine tz_aload0 (n := 3) (g_at ck_X9_takeBeds 2 rfl) rfl (g_ne kd_71) ?_
  refine tz_iconst (n := 4) (g_at ck_X9_takeBeds 3 rfl) rfl ?_
  refine tz_putIr (n := 7) (kz := 8) fk_X9_143 kd_71 (g_at ck_X9_takeBeds 4 rfl) rfl hR ⟨(by decide), (by decide)⟩ rfl (fun hR1 => ?_)
  refine tz_aload0 (n := 8) (g_at ck_X9_takeBeds 5 rfl) rfl (g_ne kd_71) ?_
  refine tz_iconst (n := 9) (g_at ck_X9_takeBeds 6 rfl) rfl ?_
  refine tz_putIr (n := 12) (kz := 9) fk_X9_146 kd_71 (g_at ck_X9_takeBeds 7 rfl) rfl hR1 ⟨(by decide), (by decide)⟩ rfl (fun hR2 => ?_)
  refine tz_iconst (n := 13) (g_at ck_X9_takeBeds 8 rfl) rfl ?_
  refine tz_istore2 (n := 14) (g_at ck_X9_takeBeds 9 rfl) rfl (by decide) g_hpI ?_
  refine g_for (fun i : Nat => ∀ m1 : Mm, (MR m1 ∧ Fr [71, 78] m m1 ∧ m1 71 8 = (tbN Λ s (m 79) i).2.1 ∧ m1 71 9 = (tbN Λ s (m 79) i).2.2 ∧ ∀ p, 0 ≤ p → p < (i : Int) → m1 78 p = bdP Λ s (m 79) p) → gT l γ μX9_takeBeds 4 0 0 _ _ KK ρ m1 14 [some (vR 71), some (vI (tbN Λ s (m 79) i).1), some (vI (i : Int)), none] []) (Λ 0 1).toNat ?_ (fun i hi ihi => ?_) 0 (Nat.zero_le _) _ ⟨hR2, (Fr.rf.wr (by decide)).wr (by decide), by rw [wr_at, if_neg (by decide), wr_same]; rfl, by rw [wr_same]; rfl, fun p h1 h2 => absurd h2 (by omega)⟩
  · intro m1 hinv
    obtain ⟨hR1, hF1, h81, h91, hK1⟩ := hinv
    have hG1 := hG.q (qM_wy (hF1.sub (by decide)))
    refine tz_iload2 (n := 15) (g_at ck_X9_takeBeds 10 rfl) rfl ?_
    refine tz_aload0 (n := 16) (g_at ck_X9_takeBeds 11 rfl) rfl (g_ne kd_71) ?_
    refine tz_getOv (n := 19) (a := ld) fk_X9_36 kd_71 hLw (g_at ck_X9_takeBeds 12 rfl) rfl ?_
    refine tz_getIw (n := 22) (kz := 1) fk_X9_120 hS.k0 (g_at ck_X9_takeBeds 13 rfl) rfl rfl ?_
    rw [hG1.n1]
    refine tz_icmp_ge (n := 25) (tgt := 86) (g_at ck_X9_takeBeds 14 rfl) rfl rfl ⟨by omega, by omega, by omega, by omega⟩ (fun h22 => ?_) (fun h22 => absurd h22 (by omega))
    exact tz_vret (g_at ck_X9_takeBeds 54 rfl) rfl (rV_mk ⟨rfl, hR1, hF1, h81, h91, fun p h1 h2 => hK1 p h1 (by omega)⟩)
  · intro m1 hinv
    obtain ⟨hR1, hF1, h81, h91, hK1⟩ := hinv
    have hG1 := hG.q (qM_wy (hF1.sub (by decide)))
    have hV1 := hV.sam (m9 := m1) (fun a h1 h2 => hF1 a (by simp; omega))
    have e79 : m1 79 = m 79 := hF1 79 (by decide)
    have htb := tbN_rg hW hO i (by omega)
    have hrw := hO.rw (p := (i : Int)) (by omega)
    refine tz_iload2 (n := 15) (g_at ck_X9_takeBeds 10 rfl) rfl ?_
    refine tz_aload0 (n := 16) (g_at ck_X9_takeBeds 11 rfl) rfl (g_ne kd_71) ?_
    refine tz_getOv (n := 19) (a := ld) fk_X9_36 kd_71 hLw (g_at ck_X9_takeBeds 12 rfl) rfl ?_
    refine tz_getIw (n := 22) (kz := 1) fk_X9_120 hS.k0 (g_at ck_X9_takeBeds 13 rfl) rfl rfl ?_
    rw [hG1.n1]
    refine tz_icmp_ge (n := 25) (tgt := 86) (g_at ck_X9_takeBeds 14 rfl) rfl rfl ⟨by omega, by omega, by omega, by omega⟩ (fun h22 => absurd h22 (by omega)) (fun h22 => ?_)
    refine tz_aload0 (n := 26) (g_at ck_X9_takeBeds 15 rfl) rfl (g_ne kd_71) ?_
    refine tz_iload2 (n := 27) (g_at ck_X9_takeBeds 16 rfl) rfl ?_
    refine tz_iload1 (n := 28) (g_at ck_X9_takeBeds 17 rfl) rfl ?_
    refine tz_cvI2 (n := 31) (μ' := μX9_bestBed) (cb' := 0) (sb' := 0) ml_X9_130 mo_X9_bestBed mv_X9_bestBed np_X9_bestBed kd_71 (g_at ck_X9_takeBeds 18 rfl) (sp_bestBed hL hLw hS hR1 hW hG1 hV1 hσ (by omega) htb.1.1 htb.1.2 (by rw [e79]; exact hrw)) rfl rfl rfl ⟨by decide, by decide⟩ (Nat.le_of_ble_eq_true rfl) (by decide) (by decide) (fun x28 ρ9 m28 hq => ?_)
    obtain ⟨rfl, hR3, rfl, rfl⟩ := hq
    rw [e79]
    have hbb := (bbN_rg (s := s) hW hrw htb.1.1 htb.1.2 (Λ 0 0).toNat (by omega)).2
    have hp1 := sig0_WS_n hσ (p := (i : Int)) (by omega)
    refine tz_istore3 (n := 32) (g_at ck_X9_takeBeds 19 rfl) rfl (by decide) g_hpI ?_
    refine tz_aload0 (n := 33) (g_at ck_X9_takeBeds 20 rfl) rfl (g_ne kd_71) ?_
    refine tz_getAv (n := 36) (a := 78) fk_X9_30 kd_71 (ly_71_7 hL) (g_at ck_X9_takeBeds 21 rfl) rfl ?_
    refine tz_iload2 (n := 37) (g_at ck_X9_takeBeds 22 rfl) rfl ?_
    refine tz_iload3 (n := 38) (g_at ck_X9_takeBeds 23 rfl) rfl ?_
    refine tz_iastr (n := 39) kd_78 (by omega) (g_at ck_X9_takeBeds 24 rfl) rfl hR3 (by omega) (fun hR4 => ?_)
    refine tz_iload3 (n := 40) (g_at ck_X9_takeBeds 25 rfl) rfl ?_
    refine tz_iconst (n := 41) (g_at ck_X9_takeBeds 26 rfl) rfl ?_
    refine tz_icmp_eq (n := 44) (tgt := 80) (g_at ck_X9_takeBeds 27 rfl) rfl rfl ⟨by omega, by omega, by decide, by decide⟩ (fun h41 => ?_) (fun h41 => ?_)
    · skip
      refine tz_iinc2 (n := 83) (g_at ck_X9_takeBeds 52 rfl) rfl (by decide) g_hpI ?_
      refine tz_goto (tgt := 14) (g_at ck_X9_takeBeds 53 rfl) rfl ?_
      refine tz_drop3 ?_
      have e9 : tbN Λ s (m 79) (i + 1) = (tbN Λ s (m 79) i) := if_pos h41
      exact gT_eq (ihi _ ⟨hR4, hF1.wr (by decide), by rw [wr_ne (by decide), e9]; exact h81, by rw [wr_ne (by decide), e9]; exact h91, fun p h1 h2 => by
        rw [wr_at]
        split
        · rename_i ep
          rw [ep]; rfl
        · exact hK1 p h1 (by omega)⟩) rfl (by rw [e9]; rfl)
    · skip
      refine tz_iload1 (n := 45) (g_at ck_X9_takeBeds 28 rfl) rfl ?_
      refine tz_iconst (n := 46) (g_at ck_X9_takeBeds 29 rfl) rfl ?_
      refine tz_iload3 (n := 47) (g_at ck_X9_takeBeds 30 rfl) rfl ?_
      refine tz_ishl (n := 48) (g_at ck_X9_takeBeds 31 rfl) rfl ?_
      refine tz_ior (n := 49) (g_at ck_X9_takeBeds 32 rfl) rfl ?_
      refine tz_istore1 (n := 50) (g_at ck_X9_takeBeds 33 rfl) rfl (by decide) g_hpR ?_
      refine tz_aload0 (n := 51) (g_at ck_X9_takeBeds 34 rfl) rfl (g_ne kd_71) ?_
      refine tz_dupR (n := 52) (g_at ck_X9_takeBeds 35 rfl) rfl ?_
      refine tz_getIw (n := 55) (kz := 8) fk_X9_143 kd_71 (g_at ck_X9_takeBeds 36 rfl) rfl rfl ?_
      rw [wr_ne (show (71 : Int) ≠ 78 by decide), h81]
      refine tz_iconst (n := 56) (g_at ck_X9_takeBeds 37 rfl) rfl ?_
      refine tz_iadd (n := 57) (g_at ck_X9_takeBeds 38 rfl) rfl ?_
      refine tz_putIr (n := 60) (kz := 8) fk_X9_143 kd_71 (g_at ck_X9_takeBeds 39 rfl) rfl hR4 (by omega) rfl (fun hR5 => ?_)
      refine tz_aload0 (n := 61) (g_at ck_X9_takeBeds 40 rfl) rfl (g_ne kd_71) ?_
      refine tz_dupR (n := 62) (g_at ck_X9_takeBeds 41 rfl) rfl ?_
      refine tz_getIw (n := 65) (kz := 9) fk_X9_146 kd_71 (g_at ck_X9_takeBeds 42 rfl) rfl rfl ?_
      rw [wr_at, if_neg (by decide), wr_ne (show (71 : Int) ≠ 78 by decide), h91]
      refine tz_aload0 (n := 66) (g_at ck_X9_takeBeds 43 rfl) rfl (g_ne kd_71) ?_
      refine tz_aload0 (n := 67) (g_at ck_X9_takeBeds 44 rfl) rfl (g_ne kd_71) ?_
      refine tz_getAv (n := 70) (a := 77) fk_X9_27 kd_71 (ly_71_6 hL) (g_at ck_X9_takeBeds 45 rfl) rfl ?_
      refine tz_iload2 (n := 71) (g_at ck_X9_takeBeds 46 rfl) rfl ?_
      refine tz_iald (n := 72) kd_77 (by omega) (g_at ck_X9_takeBeds 47 rfl) rfl ?_
      rw [wr_ne (show (77 : Int) ≠ 71 by decide), wr_ne (show (77 : Int) ≠ 78 by decide), hV1.w (i : Int) (by omega)]
      refine tz_iload3 (n := 73) (g_at ck_X9_takeBeds 48 rfl) rfl ?_
      refine tz_cvI2 (n := 76) (μ' := μX9_costFrom) (cb' := 0) (sb' := 0) ml_X9_98 mo_X9_costFrom mv_X9_costFrom np_X9_costFrom kd_71 (g_at ck_X9_takeBeds 49 rfl) (sp_costFrom (v := wyW Λ s 1 (s (1 + (i : Int)) * 9 + (bbN Λ s (m 79) (i : Int) (tbN Λ s (m 79) i).1 (Λ 0 0).toNat).1)) hL hR5 (by omega) (by rw [wr_ne (by decide), wr_ne (by decide)]; exact hV1.c _ (by omega))) rfl rfl rfl ⟨by decide, by decide⟩ (Nat.le_of_ble_eq_true rfl) (by decide) (by decide) (fun x73 ρ9 m73 hq => ?_)
      obtain ⟨rfl, hR6, rfl, rfl⟩ := hq
      have hw9 := (wyW_B hW s).1 (s (1 + (i : Int)) * 9 + (bbN Λ s (m 79) (i : Int) (tbN Λ s (m 79) i).1 (Λ 0 0).toNat).1)
      refine tz_iadd (n := 77) (g_at ck_X9_takeBeds 50 rfl) rfl ?_
      refine tz_putIr (n := 80) (kz := 9) fk_X9_146 kd_71 (g_at ck_X9_takeBeds 51 rfl) rfl hR6 (by omega) rfl (fun hR7 => ?_)
      refine tz_iinc2 (n := 83) (g_at ck_X9_takeBeds 52 rfl) rfl (by decide) g_hpI ?_
      refine tz_goto (tgt := 14) (g_at ck_X9_takeBeds 53 rfl) rfl ?_
      refine tz_drop3 ?_
      have e9 : tbN Λ s (m 79) (i + 1) = (bOr (tbN Λ s (m 79) i).1 (bShl 1 (bbN Λ s (m 79) (i : Int) (tbN Λ s (m 79) i).1 (Λ 0 0).toNat).1), (tbN Λ s (m 79) i).2.1 + 1, (tbN Λ s (m 79) i).2.2 + wyW Λ s 1 (s (1 + (i : Int)) * 9 + (bbN Λ s (m 79) (i : Int) (tbN Λ s (m 79) i).1 (Λ 0 0).toNat).1)) := if_neg h41
      exact gT_eq (ihi _ ⟨hR7, ((hF1.wr (by decide)).wr (by decide)).wr (by decide), by rw [wr_at, if_neg (by decide), wr_same, e9], by rw [wr_same, e9], fun p h1 h2 => by
        rw [wr_ne (by decide), wr_ne (by decide), wr_at]
        split
        · rename_i ep
          rw [ep]; rfl
        · exact hK1 p h1 (by omega)⟩) rfl (by rw [e9]; rfl)
theorem sp_lodge {l : Launch} {γ : Gh} {ρ m : Mm} {ld : Int} {Λ : Mm} {hl tl : List Int} (hL : LY ρ) (hLw : ρ 71 0 = ld) (hS : isS ρ ld) (hR : MR m) (hW : WL Λ) (hG : LandC m ld Λ hl tl) {s : Int → Int} (hV : SvC m Λ s) (hσ : WS Λ 0 (sig0 s)) : gE l γ μX9_lodge 5 0 0 (rV KK fun ρ9 m9 => ρ = ρ9 ∧ MR m9 ∧ Fr [71, 78, 79] m m9 ∧ ∃ T : Int → Int, LodgeOK Λ s T ∧ m9 71 8 = (tbN Λ s T (Λ 0 1).toNat).2.1 ∧ m9 71 9 = (tbN Λ s T (Λ 0 1).toNat).2.2 ∧ ∀ p, 0 ≤ p → p < Λ 0 1 → m9 78 p = bdP Λ s T p) xN KK ρ m [vR 71] := by
  refine gE.ofw cl_X9.2 ?_ rfl rfl (Nat.le_of_ble_eq_true rfl)
  show gT l γ μX9_lodge 5 0 0 _ _ KK ρ m 0 [some (vR 71), none, none, none] []
  have hn := hW.1
  have hn8 := hW.2.1
  have hld := hG.ld9
  have ha := abI_rg hW
  refine tz_aload0 (n := 1) (g_at ck_X9_lodge 0 rfl) rfl (g_ne kd_71) ?_
  refine tz_cvI0 (n := 4) (μ' := μX9_allBeds) (cb' := 0) (sb' := 0) ml_X9_123 mo_X9_allBeds mv_X9_allBeds np_X9_allBeds kd_71 (g_at ck_X9_lodge 1 rfl) (sp_allBeds hL hLw hS hR hW hG) rfl rfl rfl ⟨by decide, by decide⟩ (Nat.le_of_ble_eq_true rfl) (by decide) (by decide) (fun x1 ρ9 m1 hq => ?_)
  obtain ⟨rfl, hR1, rfl, rfl⟩ := hq
  refine tz_istore1 (n := 5) (g_at ck_X9_lodge 2 rfl) rfl (by decide) g_hpR ?_
  refine tz_aload0 (n := 6) (g_at ck_X9_lodge 3 rfl) rfl (g_ne kd_71) ?_
  refine tz_getOv (n := 9) (a := ld) fk_X9_36 kd_71 hLw (g_at ck_X9_lodge 4 rfl) rfl ?_
  refine tz_getIw (n := 12) (kz := 1) fk_X9_120 hS.k0 (g_at ck_X9_lodge 5 rfl) rfl rfl ?_
  rw [hG.n1]
  refine tz_istore2 (n := 13) (g_at ck_X9_lodge 6 rfl) rfl (by decide) g_hpI ?_
  suffices hlp : ∀ i : Nat, i ≤ ((Λ 0 1).toNat + 1) → ∀ m1 : Mm, (MR m1 ∧ Fr [79] m m1 ∧ ∀ p, (Λ 0 1 - (i : Int)) + 1 ≤ p → p ≤ Λ 0 1 → ∀ t, 0 ≤ t → t ≤ (abI Λ (Λ 0 0).toNat) → okS Λ t → LE Λ s (m1 79) p t) → gT l γ μX9_lodge 5 0 0 _ _ KK ρ m1 13 [some (vR 71), some (vI (abI Λ (Λ 0 0).toNat)), some (vI (Λ 0 1 - (i : Int))), none] [] by
    have h0 := hlp 0 (Nat.zero_le _)
    rw [show Λ 0 1 - ((0 : Nat) : Int) = Λ 0 1 by omega] at h0
    exact h0 _ ⟨hR1, Fr.rf, fun p h1 h2 => absurd h2 (by omega)⟩
  refine g_for (fun i : Nat => ∀ m1 : Mm, (MR m1 ∧ Fr [79] m m1 ∧ ∀ p, (Λ 0 1 - (i : Int)) + 1 ≤ p → p ≤ Λ 0 1 → ∀ t, 0 ≤ t → t ≤ (abI Λ (Λ 0 0).toNat) → okS Λ t → LE Λ s (m1 79) p t) → gT l γ μX9_lodge 5 0 0 _ _ KK ρ m1 13 [some (vR 71), some (vI (abI Λ (Λ 0 0).toNat)), some (vI (Λ 0 1 - (i : Int))), none] []) ((Λ 0 1).toNat + 1) ?_ (fun i hi ihi => ?_)
  · intro m1 hinv
    obtain ⟨hR1, hF1, hI1⟩ := hinv
    have hG1 := hG.q (qM_wy (hF1.sub (by decide)))
    have hV1 := hV.sam (m9 := m1) (fun a h1 h2 => hF1 a (by simp; omega))
    have hLO : LodgeOK Λ s (m1 79) := fun p h1 h2 t q1 q2 q3 => hI1 p (by omega) h2 t q1 q2 q3
    refine tz_iload2 (n := 14) (g_at ck_X9_lodge 7 rfl) rfl ?_
    refine tz_if_lt (n := 17) (tgt := 81) (g_at ck_X9_lodge 8 rfl) rfl rfl (by omega) (fun h14 => ?_) (fun h14 => absurd h14 (by omega))
    refine tz_aload0 (n := 82) (g_at ck_X9_lodge 45 rfl) rfl (g_ne kd_71) ?_
    refine tz_cvV0 (n := 85) (μ' := μX9_takeBeds) (cb' := 0) (sb' := 0) ml_X9_137 mo_X9_takeBeds mv_X9_takeBeds np_X9_takeBeds kd_71 (g_at ck_X9_lodge 46 rfl) (sp_takeBeds hL hLw hS hR1 hW hG1 hV1 hσ hLO) rfl rfl rfl ⟨by decide, by decide⟩ (Nat.le_of_ble_eq_true rfl) (by decide) (by decide) (fun ρ9 m82 hq => ?_)
    obtain ⟨rfl, hR2, hF82, h882, h982, hK82⟩ := hq
    exact tz_vret (g_at ck_X9_lodge 47 rfl) rfl (rV_mk ⟨rfl, hR2, (hF1.sub (by decide)).tr (hF82.sub (by decide)), m1 79, hLO, h882, h982, hK82⟩)
  · intro m1 hinv
    obtain ⟨hR1, hF1, hI1⟩ := hinv
    refine tz_iload2 (n := 14) (g_at ck_X9_lodge 7 rfl) rfl ?_
    refine tz_if_lt (n := 17) (tgt := 81) (g_at ck_X9_lodge 8 rfl) rfl rfl (by omega) (fun h14 => absurd h14 (by omega)) (fun h14 => ?_)
    refine tz_iconst (n := 18) (g_at ck_X9_lodge 9 rfl) rfl ?_
    refine tz_istore3 (n := 19) (g_at ck_X9_lodge 10 rfl) rfl (by decide) g_hpI ?_
    refine g_for (fun j : Nat => ∀ m2 : Mm, (MR m2 ∧ Fr [79] m m2 ∧ (∀ p, (Λ 0 1 - (i : Int)) + 1 ≤ p → p ≤ Λ 0 1 → ∀ t, 0 ≤ t → t ≤ (abI Λ (Λ 0 0).toNat) → okS Λ t → LE Λ s (m2 79) p t) ∧ ∀ t, 0 ≤ t → t < (j : Int) → t ≤ (abI Λ (Λ 0 0).toNat) → okS Λ t → LE Λ s (m2 79) (Λ 0 1 - (i : Int)) t) → gT l γ μX9_lodge 5 0 0 _ _ KK ρ m2 19 [some (vR 71), some (vI (abI Λ (Λ 0 0).toNat)), some (vI (Λ 0 1 - (i : Int))), some (vI (j : Int))] []) ((abI Λ (Λ 0 0).toNat) + 1).toNat ?_ (fun j hj ihj => ?_) 0 (Nat.zero_le _) _ ⟨hR1, hF1, hI1, fun t h1 h2 => absurd h2 (by omega)⟩
    · intro m2 hinv
      obtain ⟨hR2, hF2, hI2, hJ2⟩ := hinv
      refine tz_iload3 (n := 20) (g_at ck_X9_lodge 11 rfl) rfl ?_
      refine tz_iload1 (n := 21) (g_at ck_X9_lodge 12 rfl) rfl ?_
      refine tz_icmp_gt (n := 24) (tgt := 75) (g_at ck_X9_lodge 13 rfl) rfl rfl ⟨by omega, by omega, by omega, by omega⟩ (fun h21 => ?_) (fun h21 => absurd h21 (by omega))
      refine tz_iinc2 (n := 78) (g_at ck_X9_lodge 43 rfl) rfl (by decide) g_hpI ?_
      refine tz_goto (tgt := 13) (g_at ck_X9_lodge 44 rfl) rfl ?_
      refine tz_drop3 ?_
      refine gT_eq (ihi _ ⟨hR2, hF2, fun p h1 h2 t q1 q2 q3 => by
        by_cases ep : p = (Λ 0 1 - (i : Int))
        · rw [ep]; exact hJ2 t q1 (by omega) q2 q3
        · exact hI2 p (by omega) h2 t q1 q2 q3⟩) rfl ?_
      rw [show Λ 0 1 - ((i + 1 : Nat) : Int) = Λ 0 1 - (i : Int) + -1 by omega]
    · intro m2 hinv
      obtain ⟨hR2, hF2, hI2, hJ2⟩ := hinv
      have hG2 := hG.q (qM_wy (hF2.sub (by decide)))
      have hV2 := hV.sam (m9 := m2) (fun a h1 h2 => hF2 a (by simp; omega))
      have hrw : (i : Int) ≠ 0 → rwB Λ (m2 79) (Λ 0 1 - (i : Int)) := fun _ t h1 h2 h3 => (hI2 ((Λ 0 1 - (i : Int)) + 1) (by omega) (by omega) t h1 h2 h3).2
      refine tz_iload3 (n := 20) (g_at ck_X9_lodge 11 rfl) rfl ?_
      refine tz_iload1 (n := 21) (g_at ck_X9_lodge 12 rfl) rfl ?_
      refine tz_icmp_gt (n := 24) (tgt := 75) (g_at ck_X9_lodge 13 rfl) rfl rfl ⟨by omega, by omega, by omega, by omega⟩ (fun h21 => absurd h21 (by omega)) (fun h21 => ?_)
      refine tz_iload3 (n := 25) (g_at ck_X9_lodge 14 rfl) rfl ?_
      refine tz_iload1 (n := 26) (g_at ck_X9_lodge 15 rfl) rfl ?_
      refine tz_iconst (n := 27) (g_at ck_X9_lodge 16 rfl) rfl ?_
      refine tz_ixor (n := 28) (g_at ck_X9_lodge 17 rfl) rfl ?_
      refine tz_iand (n := 29) (g_at ck_X9_lodge 18 rfl) rfl ?_
      refine tz_if_ne (n := 32) (tgt := 69) (g_at ck_X9_lodge 19 rfl) rfl rfl (bAnd_rg _ _) (fun h29 => ?_) (fun h29 => ?_)
      · skip
        refine tz_iinc3 (n := 72) (g_at ck_X9_lodge 41 rfl) rfl (by decide) g_hpI ?_
        refine tz_goto (tgt := 19) (g_at ck_X9_lodge 42 rfl) rfl ?_
        exact ihj _ ⟨hR2, hF2, hI2, fun t h1 h2 h3 h4 => by
          by_cases et : t = (j : Int)
          · subst et
            exact absurd h4 h29
          · exact hJ2 t h1 (by omega) h3 h4⟩
      · skip
        refine tz_aload0 (n := 33) (g_at ck_X9_lodge 20 rfl) rfl (g_ne kd_71) ?_
        refine tz_getAv (n := 36) (a := 79) fk_X9_33 kd_71 (ly_71_10 hL) (g_at ck_X9_lodge 21 rfl) rfl ?_
        refine tz_iload2 (n := 37) (g_at ck_X9_lodge 22 rfl) rfl ?_
        refine tz_iload3 (n := 38) (g_at ck_X9_lodge 23 rfl) rfl ?_
        refine tz_csI2 (n := 41) (μ' := μX9_lodging) (cb' := 0) (sb' := 0) ml_X9_127 mo_X9_lodging ms_X9_lodging np_X9_lodging (g_at ck_X9_lodge 24 rfl) (sp_lodging hR2) rfl rfl ⟨by decide, by decide⟩ (Nat.le_of_ble_eq_true rfl) (by decide) (by decide) (fun x38 ρ9 m38 hq => ?_)
        obtain ⟨rfl, hR3, rfl, rfl⟩ := hq
        refine tz_iload2 (n := 42) (g_at ck_X9_lodge 25 rfl) rfl ?_
        refine tz_aload0 (n := 43) (g_at ck_X9_lodge 26 rfl) rfl (g_ne kd_71) ?_
        refine tz_getOv (n := 46) (a := ld) fk_X9_36 kd_71 hLw (g_at ck_X9_lodge 27 rfl) rfl ?_
        refine tz_getIw (n := 49) (kz := 1) fk_X9_120 hS.k0 (g_at ck_X9_lodge 28 rfl) rfl rfl ?_
        rw [hG2.n1]
        refine tz_icmp_ne (n := 52) (tgt := 56) (g_at ck_X9_lodge 29 rfl) rfl rfl ⟨by omega, by omega, by omega, by omega⟩ (fun h49 => ?_) (fun h49 => ?_)
        · skip
          have hrw := hrw (by omega)
          refine tz_aload0 (n := 57) (g_at ck_X9_lodge 32 rfl) rfl (g_ne kd_71) ?_
          refine tz_iload2 (n := 58) (g_at ck_X9_lodge 33 rfl) rfl ?_
          refine tz_iload3 (n := 59) (g_at ck_X9_lodge 34 rfl) rfl ?_
          refine tz_aload0 (n := 60) (g_at ck_X9_lodge 35 rfl) rfl (g_ne kd_71) ?_
          refine tz_iload2 (n := 61) (g_at ck_X9_lodge 36 rfl) rfl ?_
          refine tz_iload3 (n := 62) (g_at ck_X9_lodge 37 rfl) rfl ?_
          refine tz_cvI2 (n := 65) (μ' := μX9_bestBed) (cb' := 0) (sb' := 0) ml_X9_130 mo_X9_bestBed mv_X9_bestBed np_X9_bestBed kd_71 (g_at ck_X9_lodge 38 rfl) (sp_bestBed hL hLw hS hR3 hW hG2 hV2 hσ (by omega) (by omega) h29 hrw) rfl rfl rfl ⟨by decide, by decide⟩ (Nat.le_of_ble_eq_true rfl) (by decide) (by decide) (fun x62 ρ9 m62 hq => ?_)
          obtain ⟨rfl, hR4, rfl, rfl⟩ := hq
          have hbb := bbN_rg (s := s) hW hrw (show 0 ≤ (j : Int) ∧ (j : Int) ≤ (abI Λ (Λ 0 0).toNat) by omega) h29 (Λ 0 0).toNat (by omega)
          refine tz_cvI3 (n := 68) (μ' := μX9_worth) (cb' := 0) (sb' := 0) ml_X9_133 mo_X9_worth mv_X9_worth np_X9_worth kd_71 (g_at ck_X9_lodge 39 rfl) (sp_worth hL hLw hS hR4 hW hG2 hV2 hσ (by omega) (by omega) (by omega)) rfl rfl rfl ⟨by decide, by decide⟩ (Nat.le_of_ble_eq_true rfl) (by decide) (by decide) (fun x65 ρ9 m65 hq => ?_)
          obtain ⟨rfl, hR5, rfl, rfl⟩ := hq
          have hval : (if (bbN Λ s (m2 79) (Λ 0 1 - (i : Int)) (j : Int) (Λ 0 0).toNat).1 = -1 then m2 79 (((Λ 0 1 - (i : Int)) + 1) * 512 + (j : Int)) else bbG Λ s (m2 79) (Λ 0 1 - (i : Int)) (j : Int) (bbN Λ s (m2 79) (Λ 0 1 - (i : Int)) (j : Int) (Λ 0 0).toNat).1) = (bbN Λ s (m2 79) (Λ 0 1 - (i : Int)) (j : Int) (Λ 0 0).toNat).2 := bb_val (g := fun b => bbG Λ s (m2 79) (Λ 0 1 - (i : Int)) (j : Int) b) hbb.2
          rw [hval]
          refine tz_iastr (n := 69) kd_79 (by omega) (g_at ck_X9_lodge 40 rfl) rfl hR5 (by first | (rw [hval]; omega) | omega) (fun hR6 => ?_)
          refine tz_iinc3 (n := 72) (g_at ck_X9_lodge 41 rfl) rfl (by decide) g_hpI ?_
          refine tz_goto (tgt := 19) (g_at ck_X9_lodge 42 rfl) rfl ?_
          exact ihj _ ⟨hR6, hF2.wr (by decide), fun p h1 h2 t q1 q2 q3 => by
            have h := hI2 p h1 h2 t q1 q2 q3
            exact (h.keep hn (by omega) (by rw [wr_at, if_neg (by omega)]) (fun t' q1 q2 => by rw [wr_at, if_neg (by omega)])), fun t h1 h2 h3 h4 => by
            by_cases et : t = (j : Int)
            · subst et
              refine ⟨?_, ?_, ?_⟩
              · rw [wr_same, if_neg h49, bbN_congr (s := s) (p := (Λ 0 1 - (i : Int))) (t := (j : Int)) (T := wr m2 79 (((Λ 0 1 - (i : Int))) * 512 + (j : Int)) (bbN Λ s (m2 79) (Λ 0 1 - (i : Int)) (j : Int) (Λ 0 0).toNat).2 79) (T' := m2 79) hn.2 (fun t' q1 q2 => by rw [wr_at, if_neg (by omega)]) (by omega) (Λ 0 0).toNat (by omega)]
              · rw [wr_same]; exact hbb.1.1
              · rw [wr_same]; exact hbb.1.2
            · have h := hJ2 t h1 (by omega) h3 h4
              exact (h.keep hn (by omega) (by rw [wr_at, if_neg (by omega)]) (fun t' q1 q2 => by rw [wr_at, if_neg (by omega)]))⟩
        · skip
          refine tz_iconst (n := 53) (g_at ck_X9_lodge 30 rfl) rfl ?_
          refine tz_goto (tgt := 68) (g_at ck_X9_lodge 31 rfl) rfl ?_
          refine tz_iastr (n := 69) kd_79 (by omega) (g_at ck_X9_lodge 40 rfl) rfl hR3 (by first | (rw [hval]; omega) | omega) (fun hR7 => ?_)
          refine tz_iinc3 (n := 72) (g_at ck_X9_lodge 41 rfl) rfl (by decide) g_hpI ?_
          refine tz_goto (tgt := 19) (g_at ck_X9_lodge 42 rfl) rfl ?_
          exact ihj _ ⟨hR7, hF2.wr (by decide), fun p h1 h2 t q1 q2 q3 => by
            have h := hI2 p h1 h2 t q1 q2 q3
            exact (h.keep hn (by omega) (by rw [wr_at, if_neg (by omega)]) (fun t' q1 q2 => by rw [wr_at, if_neg (by omega)])), fun t h1 h2 h3 h4 => by
            by_cases et : t = (j : Int)
            · subst et
              refine ⟨?_, ?_, ?_⟩
              · rw [wr_same, if_pos h49]
              · rw [wr_same]; exact Int.le_refl 0
              · rw [wr_same]; omega
            · have h := hJ2 t h1 (by omega) h3 h4
              exact (h.keep hn (by omega) (by rw [wr_at, if_neg (by omega)]) (fun t' q1 q2 => by rw [wr_at, if_neg (by omega)]))⟩
