/-! The machine in the reference: an operand. -/
section
variable {t : Int → Int} {n : Int} {z : MZ} {a : Int}
theorem nots_st {j : Nat} (h : ¬ ((zs (nots t n a z j)).1 = 1 ∧ a ≠ 0 ∧ wdI t n (sP (zs (nots t n a z j))) 7 = 1)) : ∀ k, j ≤ k → nots t n a z k = nots t n a z j
  | 0, hk => by
    have : j = 0 := by omega
    rw [this]
  | k + 1, hk => by
    by_cases e : j = k + 1
    · rw [e]
    · have ih := nots_st h k (by omega)
      have e2 : nots t n a z (k + 1) = ntS t n a k (nots t n a z k) := rfl
      rw [e2, ih]
      exact if_neg h
theorem nots_7 : ¬ ((zs (nots t n a z 7)).1 = 1 ∧ a ≠ 0 ∧ wdI t n (sP (zs (nots t n a z 7))) 7 = 1) := fun h => by
  have e2 : nots t n a z 7 = ntS t n a 6 (nots t n a z 6) := rfl
  by_cases h6 : (zs (nots t n a z 6)).1 = 1 ∧ a ≠ 0 ∧ wdI t n (sP (zs (nots t n a z 6))) 7 = 1
  · have e3 : nots t n a z 7 = flZ t n 2 (nots t n a z 6) := e2.trans ((if_pos h6).trans (if_pos rfl))
    rw [e3] at h
    exact absurd h.1 fl_n
  · rw [nots_st h6 7 (by decide)] at h
    exact h6 h
theorem nots_d : ∀ k, zD (nots t n a z k) = zD z
  | 0 => rfl
  | k + 1 => by
    have ih := nots_d k
    have e2 : nots t n a z (k + 1) = ntS t n a k (nots t n a z k) := rfl
    rw [e2]
    unfold ntS
    split
    · split
      · exact ih
      · exact ih
    · exact ih
theorem opd_e {f : Nat} (g : (zs z).1 = 1) (hf : fu z = f + 1) (h : ¬ ((zs (nots t n a z 7)).1 = 1 ∧ tK t n (sP (zs (nots t n a z 7))) = 40)) : opd t n (fu z) a z = prt t n (nots t n a z 7) := by
  rw [hf, opd_s g]
  exact if_neg h
theorem opd_p (g : (zs z).1 = 1) (hd : zD z ≤ 6) (h : (zs (nots t n a z 7)).1 = 1 ∧ tK t n (sP (zs (nots t n a z 7))) = 40) : opd t n (fu z) a z = opd t n (fu (dpr t n (nxZ t n (psh 14 (nots t n a z 7))))) 1 (dpr t n (nxZ t n (psh 14 (nots t n a z 7)))) := by
  have hn := nots_d (t := t) (n := n) (z := z) (a := a) 7
  have hf : fu z = (6 - zD z).toNat + 1 := by unfold fu; omega
  rw [hf, opd_s g]
  have e : opq t n (6 - zD z).toNat (nots t n a z 7) = opd t n (6 - zD z).toNat 1 (dpr t n (nxZ t n (psh 14 (nots t n a z 7)))) := if_pos h
  rw [e]
  by_cases h6 : zD z < 6
  · have ed : dpr t n (nxZ t n (psh 14 (nots t n a z 7))) = mz (zs (nxZ t n (psh 14 (nots t n a z 7)))) (zW (nxZ t n (psh 14 (nots t n a z 7)))) (zS (nxZ t n (psh 14 (nots t n a z 7)))) (zD (nxZ t n (psh 14 (nots t n a z 7))) + 1) (up (zT (nxZ t n (psh 14 (nots t n a z 7)))) (zD (nxZ t n (psh 14 (nots t n a z 7))) + 1) 0) := if_pos (by show zD (nots t n a z 7) < 6; omega)
    have ef : fu (dpr t n (nxZ t n (psh 14 (nots t n a z 7)))) = (6 - zD z).toNat := by
      rw [ed]
      show (7 - (zD (nots t n a z 7) + 1)).toNat = _
      rw [hn]
      omega
    rw [ef]
  · have ed : dpr t n (nxZ t n (psh 14 (nots t n a z 7))) = flZ t n (if cb9 t n (sP (zs (nxZ t n (psh 14 (nots t n a z 7))))) = 1 then 2 else 1) (nxZ t n (psh 14 (nots t n a z 7))) := if_neg (by show ¬ zD (nots t n a z 7) < 6; omega)
    rw [ed, opd_bad rfl, opd_bad rfl]
theorem prt_bad (h : (zs z).1 = 0) : prt t n z = z := if_neg (by omega)
end
theorem dp_d {t : Int → Int} {n : Int} {z : MZ} : (zD z ≤ zD (dpr t n z)) ∧ ((zs (dpr t n z)).1 = 1 → sP (zs (dpr t n z)) = sP (zs z) ∧ zD (dpr t n z) = zD z + 1) := by
  unfold dpr
  by_cases h : zD z < 6
  · rw [if_pos h]
    exact ⟨by show zD z ≤ zD z + 1; omega, fun _ => ⟨rfl, rfl⟩⟩
  · rw [if_neg h]
    exact ⟨Int.le_refl _, fun h9 => absurd h9 fl_n⟩
theorem mp_operand {l : Launch} {γ : Gh} {ρ m : Mm} {v : Int} {t : Int → Int} {n b : Int} {z : MZ} (hB : BY t) (hn : 0 ≤ n ∧ n ≤ 700) (hZ : ZM ρ m t n b z) (hI : ZI n b z) (hg : (zs z).1 = 1) (hv : v = 0 ∨ v = 1) (hd : 1 ≤ zD z) : gE l γ μX11_operand 4 0 0 (rV KK fun ρ9 m9 => q23 ρ ρ9 ∧ MR m9 ∧ ZM ρ9 m9 t n b (opd t n (fu z) v z) ∧ ZX b m m9 ∧ ZI n b (opd t n (fu z) v z) ∧ ((zs (opd t n (fu z) v z)).1 = 1 → sP (zs z) ≤ sP (zs (opd t n (fu z) v z)))) xN KK ρ m [vR 84, vI v] := by
  refine gE.ofw cl_X11.2 ?_ rfl rfl (Nat.le_of_ble_eq_true rfl)
  show gT l γ μX11_operand 4 0 0 _ _ KK ρ m 0 [some (vR 84), some (vI v), none, none, none] []
  have hG := hZ.1
  have hR := hG.1
  have hL := hG.2.1
  refine tz_iload1 (n := 1) (g_at ck_X11_operand 0 rfl) rfl ?_
  refine tz_istore2 (n := 2) (g_at ck_X11_operand 1 rfl) rfl (by decide) g_hpI ?_
  refine tz_iconst (n := 3) (g_at ck_X11_operand 2 rfl) rfl ?_
  refine tz_istore3 (n := 4) (g_at ck_X11_operand 3 rfl) rfl (by decide) g_hpI ?_
  suffices hlp : ∀ i : Nat, i ≤ 7 → ∀ qa ρ1 m1 : Mm, (q23 ρ ρ1 ∧ MR m1 ∧ ZX b m m1 ∧ ((qa 0 0) = 0 ∨ (qa 0 0) = 1) ∧ ∃ y : MZ, ZM ρ1 m1 t n b y ∧ ZI n b y ∧ opd t n (fu y) (qa 0 0) y = opd t n (fu z) v z ∧ 1 ≤ zD y ∧ ((zs y).1 = 1 → sP (zs z) ≤ sP (zs y) ∧ zD z + (i : Int) ≤ zD y)) → gT l γ μX11_operand 4 0 0 _ _ KK ρ1 m1 4 [some (vR 84), some (vI v), some (vI (qa 0 0)), some (vI 1), none] [] by
    have h0 := hlp 0 (Nat.zero_le _)
    exact h0 (fun _ _ => v) _ _ ⟨q23.rf, hR, ZX.rf, hv, z, hZ, hI, rfl, hd, fun _ => ⟨Int.le_refl _, by omega⟩⟩
  refine g_for (fun i : Nat => ∀ qa ρ1 m1 : Mm, (q23 ρ ρ1 ∧ MR m1 ∧ ZX b m m1 ∧ ((qa 0 0) = 0 ∨ (qa 0 0) = 1) ∧ ∃ y : MZ, ZM ρ1 m1 t n b y ∧ ZI n b y ∧ opd t n (fu y) (qa 0 0) y = opd t n (fu z) v z ∧ 1 ≤ zD y ∧ ((zs y).1 = 1 → sP (zs z) ≤ sP (zs y) ∧ zD z + (i : Int) ≤ zD y)) → gT l γ μX11_operand 4 0 0 _ _ KK ρ1 m1 4 [some (vR 84), some (vI v), some (vI (qa 0 0)), some (vI 1), none] []) 7 ?_ (fun i hi ihi => ?_)
  · intro qa ρ1 m1 hinv
    obtain ⟨hq1, hR1, hX1, ha1, y, hZ1, hI1, he1, hd1, hp1⟩ := hinv
    have hG1 := hZ1.1
    have hL1 := hG1.2.1
    have hbb1 := hG1.b
    have hgd1 := gd9_1 (m1 84 13)
    have hI51 := hI1.2.2.2.2.1
    have hL := hL1
    have hd6 := hI1.2.1
    have hbad : (zs y).1 = 0 := hbb1.2.resolve_right (fun h9 => by have := hp1 h9; omega)
    have hz13 : m1 84 13 ≠ 0 := fun h9 => by have := hbb1.1.mpr h9; omega
    refine tz_iload3 (n := 5) (g_at ck_X11_operand 4 rfl) rfl ?_
    refine tz_if_eq (n := 8) (tgt := 120) (g_at ck_X11_operand 5 rfl) rfl rfl (by decide) (fun h5 => absurd h5 (by omega)) (fun h5 => ?_)
    refine tz_aload0 (n := 9) (g_at ck_X11_operand 6 rfl) rfl (g_ne kd_84) ?_
    refine tz_cvI0 (n := 12) (μ' := μX11_isGood) (cb' := 0) (sb' := 0) ml_X11_191 mo_X11_isGood mv_X11_isGood np_X11_isGood kd_84 (g_at ck_X11_operand 7 rfl) (mp_isGood hR1) rfl rfl rfl ⟨by decide, by decide⟩ (Nat.le_of_ble_eq_true rfl) (by decide) (by decide) (fun x9 ρ9 m9 hq => ?_)
    obtain ⟨rfl, hR1, rfl, rfl⟩ := hq
    refine tz_if_eq (n := 15) (tgt := 120) (g_at ck_X11_operand 8 rfl) rfl rfl (by omega) (fun h12 => ?_) (fun h12 => absurd h12 (by omega))
    refine tz_aload0 (n := 121) (g_at ck_X11_operand 60 rfl) rfl (g_ne kd_84) ?_
    refine tz_cvV0 (n := 124) (μ' := μX11_part) (cb' := 0) (sb' := 0) ml_X11_238 mo_X11_part mv_X11_part np_X11_part kd_84 (g_at ck_X11_operand 61 rfl) (mp_part hB hn hZ1 hI1) rfl rfl rfl ⟨by decide, by decide⟩ (Nat.le_of_ble_eq_true rfl) (by decide) (by decide) (fun ρ9 m121 hq => ?_)
    obtain ⟨hq121, hR2, hZ121, hX121⟩ := hq
    exact tz_vret (g_at ck_X11_operand 62 rfl) rfl (rV_mk ⟨hq1.tr hq121, hR2, by rw [← he1, opd_bad hbad]; rw [prt_bad hbad] at hZ121; exact hZ121, hX1.tr hX121, by rw [← he1, opd_bad hbad]; exact hI1, fun h9 => absurd h9 (by rw [← he1, opd_bad hbad]; omega)⟩)
  · intro qa ρ1 m1 hinv
    obtain ⟨hq1, hR1, hX1, ha1, y, hZ1, hI1, he1, hd1, hp1⟩ := hinv
    have hG1 := hZ1.1
    have hL1 := hG1.2.1
    have hbb1 := hG1.b
    have hgd1 := gd9_1 (m1 84 13)
    have hI51 := hI1.2.2.2.2.1
    have hL := hL1
    have hd6 := hI1.2.1
    refine tz_iload3 (n := 5) (g_at ck_X11_operand 4 rfl) rfl ?_
    refine tz_if_eq (n := 8) (tgt := 120) (g_at ck_X11_operand 5 rfl) rfl rfl (by decide) (fun h5 => absurd h5 (by omega)) (fun h5 => ?_)
    refine tz_aload0 (n := 9) (g_at ck_X11_operand 6 rfl) rfl (g_ne kd_84) ?_
    refine tz_cvI0 (n := 12) (μ' := μX11_isGood) (cb' := 0) (sb' := 0) ml_X11_191 mo_X11_isGood mv_X11_isGood np_X11_isGood kd_84 (g_at ck_X11_operand 7 rfl) (mp_isGood hR1) rfl rfl rfl ⟨by decide, by decide⟩ (Nat.le_of_ble_eq_true rfl) (by decide) (by decide) (fun x9 ρ9 m9 hq => ?_)
    obtain ⟨rfl, hR3, rfl, rfl⟩ := hq
    refine tz_if_eq (n := 15) (tgt := 120) (g_at ck_X11_operand 8 rfl) rfl rfl (by omega) (fun h12 => ?_) (fun h12 => ?_)
    · skip
      have hbad : (zs y).1 = 0 := hbb1.2.resolve_right (fun h9 => by have h8 := hbb1.1.mp h9; omega)
      refine tz_aload0 (n := 121) (g_at ck_X11_operand 60 rfl) rfl (g_ne kd_84) ?_
      refine tz_cvV0 (n := 124) (μ' := μX11_part) (cb' := 0) (sb' := 0) ml_X11_238 mo_X11_part mv_X11_part np_X11_part kd_84 (g_at ck_X11_operand 61 rfl) (mp_part hB hn hZ1 hI1) rfl rfl rfl ⟨by decide, by decide⟩ (Nat.le_of_ble_eq_true rfl) (by decide) (by decide) (fun ρ9 m121 hq => ?_)
      obtain ⟨hq121, hR4, hZ121, hX121⟩ := hq
      exact tz_vret (g_at ck_X11_operand 62 rfl) rfl (rV_mk ⟨hq1.tr hq121, hR4, by rw [← he1, opd_bad hbad]; rw [prt_bad hbad] at hZ121; exact hZ121, hX1.tr hX121, by rw [← he1, opd_bad hbad]; exact hI1, fun h9 => absurd h9 (by rw [← he1, opd_bad hbad]; omega)⟩)
    · skip
      refine g_cut (T := ∀ ρ3 m3 : Mm, (q23 ρ ρ3 ∧ MR m3 ∧ ZX b m m3 ∧ ZM ρ3 m3 t n b (nots t n (qa 0 0) y 7) ∧ ZI n b (nots t n (qa 0 0) y 7) ∧ ((zs (nots t n (qa 0 0) y 7)).1 = 1 → sP (zs y) ≤ sP (zs (nots t n (qa 0 0) y 7)))) → gT l γ μX11_operand 4 0 0 (rV KK fun ρ9 m9 => q23 ρ ρ9 ∧ MR m9 ∧ ZM ρ9 m9 t n b (opd t n (fu z) v z) ∧ ZX b m m9 ∧ ZI n b (opd t n (fu z) v z) ∧ ((zs (opd t n (fu z) v z)).1 = 1 → sP (zs z) ≤ sP (zs (opd t n (fu z) v z)))) xN KK ρ3 m3 75 [some (vR 84), some (vI v), some (vI (qa 0 0)), some (vI 1), none] []) (fun hj75 => ?_) ?_
      · skip
        have hgy : (zs y).1 = 1 := hbb1.1.mpr (by omega)
        refine tz_iconst (n := 16) (g_at ck_X11_operand 9 rfl) rfl ?_
        refine tz_istore4 (n := 18) (g_at ck_X11_operand 10 rfl) rfl (by decide) g_hpI ?_
        refine g_for (fun j : Nat => ∀ ρ2 m2 : Mm, (q23 ρ ρ2 ∧ MR m2 ∧ ZX b m m2 ∧ ZM ρ2 m2 t n b (nots t n (qa 0 0) y j) ∧ ZI n b (nots t n (qa 0 0) y j) ∧ ((zs (nots t n (qa 0 0) y j)).1 = 1 → sP (zs y) ≤ sP (zs (nots t n (qa 0 0) y j)))) → gT l γ μX11_operand 4 0 0 _ _ KK ρ2 m2 18 [some (vR 84), some (vI v), some (vI (qa 0 0)), some (vI 1), some (vI (j : Int))] []) 7 ?_ (fun j hj ihj => ?_) 0 (Nat.zero_le _) _ _ ⟨hq1, hR3, hX1, hZ1, hI1, fun _ => Int.le_refl _⟩
        · intro ρ2 m2 hinv
          obtain ⟨hq2, hR2, hX2, hZ2, hI2, hp2⟩ := hinv
          have hG2 := hZ2.1
          have hL2 := hG2.2.1
          have hbb2 := hG2.b
          have hgd2 := gd9_1 (m2 84 13)
          have hI52 := hI2.2.2.2.2.1
          have hL := hL2
          have hn7 := nots_7 (t := t) (n := n) (z := y) (a := (qa 0 0))
          refine tz_aload0 (n := 19) (g_at ck_X11_operand 11 rfl) rfl (g_ne kd_84) ?_
          refine tz_cvI0 (n := 22) (μ' := μX11_isGood) (cb' := 0) (sb' := 0) ml_X11_191 mo_X11_isGood mv_X11_isGood np_X11_isGood kd_84 (g_at ck_X11_operand 12 rfl) (mp_isGood hR2) rfl rfl rfl ⟨by decide, by decide⟩ (Nat.le_of_ble_eq_true rfl) (by decide) (by decide) (fun x19 ρ9 m19 hq => ?_)
          obtain ⟨rfl, hR5, rfl, rfl⟩ := hq
          refine tz_if_eq (n := 25) (tgt := 75) (g_at ck_X11_operand 13 rfl) rfl rfl (by omega) (fun h22 => ?_) (fun h22 => ?_)
          · skip
            refine tz_drop4 ?_
            exact hj75 _ _ ⟨hq2, hR5, hX2, hZ2, hI2, hp2⟩
          · skip
            have hg2 : (zs (nots t n (qa 0 0) y 7)).1 = 1 := hbb2.1.mpr (by omega)
            have hi62 := hI2.2.2.2.2.2 hg2
            refine tz_iload2 (n := 26) (g_at ck_X11_operand 14 rfl) rfl ?_
            refine tz_if_eq (n := 29) (tgt := 75) (g_at ck_X11_operand 15 rfl) rfl rfl (by omega) (fun h26 => ?_) (fun h26 => ?_)
            · skip
              refine tz_drop4 ?_
              exact hj75 _ _ ⟨hq2, hR5, hX2, hZ2, hI2, hp2⟩
            · skip
              refine tz_aload0 (n := 30) (g_at ck_X11_operand 16 rfl) rfl (g_ne kd_84) ?_
              refine tz_cvI0 (n := 33) (μ' := μX11_knownWord) (cb' := 0) (sb' := 0) ml_X11_216 mo_X11_knownWord mv_X11_knownWord np_X11_knownWord kd_84 (g_at ck_X11_operand 17 rfl) (mp_knownWord hB hn hG2 hg2) rfl rfl rfl ⟨by decide, by decide⟩ (Nat.le_of_ble_eq_true rfl) (by decide) (by decide) (fun x30 ρ9 m30 hq => ?_)
              obtain ⟨rfl, hR6, hk30, rfl⟩ := hq
              have hkr := hk30.rg
              refine tz_bipush (n := 35) (g_at ck_X11_operand 18 rfl) rfl rfl ?_
              have hx12 : ¬ x30 = 12 := fun h9 => hn7 ⟨hg2, h26, (hk30.eq (k := 12) (by decide)).mp h9⟩
              refine tz_icmp_ne (n := 38) (tgt := 75) (g_at ck_X11_operand 19 rfl) rfl rfl (by omega) (fun h35 => ?_) (fun h35 => absurd h35 (by omega))
              refine tz_drop4 ?_
              exact hj75 _ _ ⟨hq2, hR6, hX2, hZ2, hI2, hp2⟩
        · intro ρ2 m2 hinv
          obtain ⟨hq2, hR2, hX2, hZ2, hI2, hp2⟩ := hinv
          have hG2 := hZ2.1
          have hL2 := hG2.2.1
          have hbb2 := hG2.b
          have hgd2 := gd9_1 (m2 84 13)
          have hI52 := hI2.2.2.2.2.1
          have hL := hL2
          refine tz_aload0 (n := 19) (g_at ck_X11_operand 11 rfl) rfl (g_ne kd_84) ?_
          refine tz_cvI0 (n := 22) (μ' := μX11_isGood) (cb' := 0) (sb' := 0) ml_X11_191 mo_X11_isGood mv_X11_isGood np_X11_isGood kd_84 (g_at ck_X11_operand 12 rfl) (mp_isGood hR2) rfl rfl rfl ⟨by decide, by decide⟩ (Nat.le_of_ble_eq_true rfl) (by decide) (by decide) (fun x19 ρ9 m19 hq => ?_)
          obtain ⟨rfl, hR7, rfl, rfl⟩ := hq
          refine tz_if_eq (n := 25) (tgt := 75) (g_at ck_X11_operand 13 rfl) rfl rfl (by omega) (fun h22 => ?_) (fun h22 => ?_)
          · skip
            refine tz_drop4 ?_
            have e7 := nots_st (t := t) (n := n) (z := y) (a := (qa 0 0)) (j := j) (fun h9 => by have h8 := hbb2.1.mp h9.1; omega) 7 (by omega)
            exact hj75 _ _ ⟨hq2, hR7, hX2, by rw [e7]; exact hZ2, by rw [e7]; exact hI2, by rw [e7]; exact hp2⟩
          · skip
            have hg2 : (zs (nots t n (qa 0 0) y j)).1 = 1 := hbb2.1.mpr (by omega)
            have hi62 := hI2.2.2.2.2.2 hg2
            refine tz_iload2 (n := 26) (g_at ck_X11_operand 14 rfl) rfl ?_
            refine tz_if_eq (n := 29) (tgt := 75) (g_at ck_X11_operand 15 rfl) rfl rfl (by omega) (fun h26 => ?_) (fun h26 => ?_)
            · skip
              refine tz_drop4 ?_
              have e7 := nots_st (t := t) (n := n) (z := y) (a := (qa 0 0)) (j := j) (fun h9 => h9.2.1 h26) 7 (by omega)
              exact hj75 _ _ ⟨hq2, hR7, hX2, by rw [e7]; exact hZ2, by rw [e7]; exact hI2, by rw [e7]; exact hp2⟩
            · skip
              refine tz_aload0 (n := 30) (g_at ck_X11_operand 16 rfl) rfl (g_ne kd_84) ?_
              refine tz_cvI0 (n := 33) (μ' := μX11_knownWord) (cb' := 0) (sb' := 0) ml_X11_216 mo_X11_knownWord mv_X11_knownWord np_X11_knownWord kd_84 (g_at ck_X11_operand 17 rfl) (mp_knownWord hB hn hG2 hg2) rfl rfl rfl ⟨by decide, by decide⟩ (Nat.le_of_ble_eq_true rfl) (by decide) (by decide) (fun x30 ρ9 m30 hq => ?_)
              obtain ⟨rfl, hR8, hk30, rfl⟩ := hq
              have hkr := hk30.rg
              refine tz_bipush (n := 35) (g_at ck_X11_operand 18 rfl) rfl rfl ?_
              refine tz_icmp_ne (n := 38) (tgt := 75) (g_at ck_X11_operand 19 rfl) rfl rfl (by omega) (fun h35 => ?_) (fun h35 => ?_)
              · skip
                refine tz_drop4 ?_
                have e7 := nots_st (t := t) (n := n) (z := y) (a := (qa 0 0)) (j := j) (fun h9 => h35 ((hk30.eq (k := 12) (by decide)).mpr h9.2.2)) 7 (by omega)
                exact hj75 _ _ ⟨hq2, hR8, hX2, by rw [e7]; exact hZ2, by rw [e7]; exact hI2, by rw [e7]; exact hp2⟩
              · skip
                have hw7 : wdI t n (sP (zs (nots t n (qa 0 0) y j))) 7 = 1 := (hk30.eq (k := 12) (by decide)).mp (by omega)
                have hlt := nx_lt hB hG2 hg2 (by rw [wd_1 hw7]; decide)
                refine tz_iload4 (n := 40) (g_at ck_X11_operand 20 rfl) rfl ?_
                refine tz_bipush (n := 42) (g_at ck_X11_operand 21 rfl) rfl rfl ?_
                refine tz_icmp_ne (n := 45) (tgt := 50) (g_at ck_X11_operand 22 rfl) rfl rfl (by omega) (fun h42 => ?_) (fun h42 => ?_)
                · skip
                  refine tz_iinc4 (n := 53) (g_at ck_X11_operand 26 rfl) rfl (by decide) g_hpI ?_
                  refine tz_aload0 (n := 54) (g_at ck_X11_operand 27 rfl) rfl (g_ne kd_84) ?_
                  refine tz_cvI0 (n := 57) (μ' := μX11_isGood) (cb' := 0) (sb' := 0) ml_X11_191 mo_X11_isGood mv_X11_isGood np_X11_isGood kd_84 (g_at ck_X11_operand 28 rfl) (mp_isGood hR8) rfl rfl rfl ⟨by decide, by decide⟩ (Nat.le_of_ble_eq_true rfl) (by decide) (by decide) (fun x54 ρ9 m54 hq => ?_)
                  obtain ⟨rfl, hR9, rfl, rfl⟩ := hq
                  refine tz_if_ne (n := 60) (tgt := 63) (g_at ck_X11_operand 29 rfl) rfl rfl (by omega) (fun h57 => ?_) (fun h57 => absurd h57 (by omega))
                  refine tz_aload0 (n := 64) (g_at ck_X11_operand 31 rfl) rfl (g_ne kd_84) ?_
                  refine tz_iconst (n := 65) (g_at ck_X11_operand 32 rfl) rfl ?_
                  refine tz_cvV1 (n := 68) (μ' := μX11_waitsFor) (cb' := 0) (sb' := 0) ml_X11_232 mo_X11_waitsFor mv_X11_waitsFor np_X11_waitsFor kd_84 (g_at ck_X11_operand 33 rfl) (mp_waitsFor hL hR9 (by rw [hZ2.2.2.1.1]; omega) (by decide)) rfl rfl rfl ⟨by decide, by decide⟩ (Nat.le_of_ble_eq_true rfl) (by decide) (by decide) (fun ρ9 m65 hq => ?_)
                  obtain ⟨rfl, hR10, rfl⟩ := hq
                  have hZw := hZ2.wt hR10
                  refine tz_aload0 (n := 69) (g_at ck_X11_operand 34 rfl) rfl (g_ne kd_84) ?_
                  refine tz_cvV0 (n := 72) (μ' := μX11_goes) (cb' := 0) (sb' := 0) ml_X11_195 mo_X11_goes mv_X11_goes np_X11_goes kd_84 (g_at ck_X11_operand 35 rfl) (mp_goes hZw.1.2.1 hR10 hB hn (show 0 ≤ tQ t n (sP (zs (nots t n (qa 0 0) y j))) ∧ tQ t n (sP (zs (nots t n (qa 0 0) y j))) ≤ n by have h8 := (hZw.1.g hg2).2.1; have h9 := tk_rg (t := t) hB h8; omega) hZw.1.2.2.1 hZw.1.2.2.2.1 (hZw.1.g hg2).1.2.2.1) rfl rfl rfl ⟨by decide, by decide⟩ (Nat.le_of_ble_eq_true rfl) (by decide) (by decide) (fun ρ9 m69 hq => ?_)
                  obtain ⟨w69, rfl, hR11, hX69, hK69⟩ := hq
                  have hq69 : q23 ρ2 (wr ρ2 84 23 w69) := q23.w
                  have hG69 := hZw.1.nx hg2 hB hR11 hq69 hX69 (by decide) (by decide) hK69
                  have hL := hG69.2.1
                  refine tz_goto (tgt := 18) (g_at ck_X11_operand 36 rfl) rfl ?_
                  have e9 : nots t n (qa 0 0) y (j + 1) = nxZ t n (psh 3 (nots t n (qa 0 0) y j)) := (if_pos ⟨hg2, h26, hw7⟩).trans (if_neg (by omega))
                  exact ihj _ _ ⟨hq2.tr hq69, hR11, (hX2.tr (ZX.x FX.wt (by decide) (by decide) (by decide))).tr (ZX.x hX69 (by decide) (by decide) (by decide)), by rw [e9]; exact hZw.s hG69 hX69 (by decide), by rw [e9]; exact hI2.pn hg2 (by decide) hlt, fun _ => by rw [e9]; have h8 := hp2 hg2; show sP (zs y) ≤ tQ t n (sP (zs (nots t n (qa 0 0) y j))); omega⟩
                · skip
                  refine tz_aload0 (n := 46) (g_at ck_X11_operand 23 rfl) rfl (g_ne kd_84) ?_
                  refine tz_iconst (n := 47) (g_at ck_X11_operand 24 rfl) rfl ?_
                  refine tz_cvV1 (n := 50) (μ' := μX11_wrong) (cb' := 0) (sb' := 0) ml_X11_198 mo_X11_wrong mv_X11_wrong np_X11_wrong kd_84 (g_at ck_X11_operand 25 rfl) (mp_wrong hB hn hG2 hg2 (by decide)) rfl rfl rfl ⟨by decide, by decide⟩ (Nat.le_of_ble_eq_true rfl) (by decide) (by decide) (fun ρ9 m47 hq => ?_)
                  obtain ⟨rfl, hR12, hG47, hX47⟩ := hq
                  have hfz := hG47.fl0
                  have hgw := gd9_1 (m47 84 13)
                  refine tz_iinc4 (n := 53) (g_at ck_X11_operand 26 rfl) rfl (by decide) g_hpI ?_
                  refine tz_aload0 (n := 54) (g_at ck_X11_operand 27 rfl) rfl (g_ne kd_84) ?_
                  refine tz_cvI0 (n := 57) (μ' := μX11_isGood) (cb' := 0) (sb' := 0) ml_X11_191 mo_X11_isGood mv_X11_isGood np_X11_isGood kd_84 (g_at ck_X11_operand 28 rfl) (mp_isGood hR12) rfl rfl rfl ⟨by decide, by decide⟩ (Nat.le_of_ble_eq_true rfl) (by decide) (by decide) (fun x54 ρ9 m54 hq => ?_)
                  obtain ⟨rfl, hR13, rfl, rfl⟩ := hq
                  refine tz_if_ne (n := 60) (tgt := 63) (g_at ck_X11_operand 29 rfl) rfl rfl (by omega) (fun h57 => absurd h57 (by omega)) (fun h57 => ?_)
                  refine tz_goto (tgt := 18) (g_at ck_X11_operand 30 rfl) rfl ?_
                  have e9 : nots t n (qa 0 0) y (j + 1) = flZ t n 2 (nots t n (qa 0 0) y j) := (if_pos ⟨hg2, h26, hw7⟩).trans (if_pos (by omega))
                  exact ihj _ _ ⟨hq2, hR13, hX2.tr (ZX.x hX47 (by decide) (by decide) (by decide)), by rw [e9]; exact hZ2.s hG47 hX47 (by decide), by rw [e9]; exact hI2.fl, fun h9 => absurd h9 (by rw [e9]; exact fl_n)⟩
      · intro ρ3 m3 hinv
        obtain ⟨hq3, hR3, hX3, hZ3, hI3, hp3⟩ := hinv
        have hgy : (zs y).1 = 1 := hbb1.1.mpr (by omega)
        have hG3 := hZ3.1
        have hL3 := hG3.2.1
        have hbb3 := hG3.b
        have hgd3 := gd9_1 (m3 84 13)
        have hI53 := hI3.2.2.2.2.1
        have hL := hL3
        have hd7 := nots_d (t := t) (n := n) (z := y) (a := (qa 0 0)) 7
        refine tz_aload0 (n := 76) (g_at ck_X11_operand 37 rfl) rfl (g_ne kd_84) ?_
        refine tz_cvI0 (n := 79) (μ' := μX11_isGood) (cb' := 0) (sb' := 0) ml_X11_191 mo_X11_isGood mv_X11_isGood np_X11_isGood kd_84 (g_at ck_X11_operand 38 rfl) (mp_isGood hR3) rfl rfl rfl ⟨by decide, by decide⟩ (Nat.le_of_ble_eq_true rfl) (by decide) (by decide) (fun x76 ρ9 m76 hq => ?_)
        obtain ⟨rfl, hR14, rfl, rfl⟩ := hq
        refine tz_if_eq (n := 82) (tgt := 95) (g_at ck_X11_operand 39 rfl) rfl rfl (by omega) (fun h79 => ?_) (fun h79 => ?_)
        · skip
          refine tz_iconst (n := 96) (g_at ck_X11_operand 46 rfl) rfl ?_
          refine tz_istore3 (n := 97) (g_at ck_X11_operand 47 rfl) rfl (by decide) g_hpI ?_
          refine tz_iload3 (n := 98) (g_at ck_X11_operand 48 rfl) rfl ?_
          refine tz_if_eq (n := 101) (tgt := 117) (g_at ck_X11_operand 49 rfl) rfl rfl (by decide) (fun h98 => ?_) (fun h98 => absurd h98 (by omega))
          refine tz_goto (tgt := 4) (g_at ck_X11_operand 59 rfl) rfl ?_
          refine tz_iload3 (n := 5) (g_at ck_X11_operand 4 rfl) rfl ?_
          refine tz_if_eq (n := 8) (tgt := 120) (g_at ck_X11_operand 5 rfl) rfl rfl (by decide) (fun h5 => ?_) (fun h5 => absurd h5 (by omega))
          have hg37 : (zs (prt t n (nots t n (qa 0 0) y 7))).1 = 1 → (zs (nots t n (qa 0 0) y 7)).1 = 1 := fun h9 => by by_cases h8 : (zs (nots t n (qa 0 0) y 7)).1 = 1; exact h8; rw [prt_bad (hbb3.2.resolve_right h8)] at h9; exact h9
          refine tz_aload0 (n := 121) (g_at ck_X11_operand 60 rfl) rfl (g_ne kd_84) ?_
          refine tz_cvV0 (n := 124) (μ' := μX11_part) (cb' := 0) (sb' := 0) ml_X11_238 mo_X11_part mv_X11_part np_X11_part kd_84 (g_at ck_X11_operand 61 rfl) (mp_part hB hn hZ3 hI3) rfl rfl rfl ⟨by decide, by decide⟩ (Nat.le_of_ble_eq_true rfl) (by decide) (by decide) (fun ρ9 m121 hq => ?_)
          obtain ⟨hq121, hR15, hZ121, hX121⟩ := hq
          exact tz_vret (g_at ck_X11_operand 62 rfl) rfl (rV_mk ⟨hq3.tr hq121, hR15, by rw [← he1, opd_e hgy (f := (6 - zD y).toNat) (by unfold fu; omega) (fun h9 => by have h8 := hbb3.1.mp h9.1; omega)]; exact hZ121, hX3.tr hX121, by rw [← he1, opd_e hgy (f := (6 - zD y).toNat) (by unfold fu; omega) (fun h9 => by have h8 := hbb3.1.mp h9.1; omega)]; exact (hI3.pt hB hG3).1, fun h9 => by rw [← he1, opd_e hgy (f := (6 - zD y).toNat) (by unfold fu; omega) (fun h9 => by have h8 := hbb3.1.mp h9.1; omega)] at h9 ⊢; have h7 := hp1 hgy; rcases (hI3.pt hB hG3).2 h9 with h8 | h8; have h6 := hp3 (hg37 h9); omega; have h6 := hg37 h9; omega⟩)
        · skip
          have hg3 : (zs (nots t n (qa 0 0) y 7)).1 = 1 := hbb3.1.mpr (by omega)
          have hi63 := hI3.2.2.2.2.2 hg3
          refine tz_aload0 (n := 83) (g_at ck_X11_operand 40 rfl) rfl (g_ne kd_84) ?_
          refine tz_bipush (n := 85) (g_at ck_X11_operand 41 rfl) rfl rfl ?_
          refine tz_cvI1 (n := 88) (μ' := μX11_isSign) (cb' := 0) (sb' := 0) ml_X11_229 mo_X11_isSign mv_X11_isSign np_X11_isSign kd_84 (g_at ck_X11_operand 42 rfl) (mp_isSign hB hn hG3 hg3 (by decide)) rfl rfl rfl ⟨by decide, by decide⟩ (Nat.le_of_ble_eq_true rfl) (by decide) (by decide) (fun x85 ρ9 m85 hq => ?_)
          obtain ⟨rfl, hR16, rfl, rfl⟩ := hq
          have hki := ki9_1 t n (sP (zs (nots t n (qa 0 0) y 7))) 40
          refine tz_if_eq (n := 91) (tgt := 95) (g_at ck_X11_operand 43 rfl) rfl rfl (by omega) (fun h88 => ?_) (fun h88 => ?_)
          · skip
            refine tz_iconst (n := 96) (g_at ck_X11_operand 46 rfl) rfl ?_
            refine tz_istore3 (n := 97) (g_at ck_X11_operand 47 rfl) rfl (by decide) g_hpI ?_
            refine tz_iload3 (n := 98) (g_at ck_X11_operand 48 rfl) rfl ?_
            refine tz_if_eq (n := 101) (tgt := 117) (g_at ck_X11_operand 49 rfl) rfl rfl (by decide) (fun h98 => ?_) (fun h98 => absurd h98 (by omega))
            refine tz_goto (tgt := 4) (g_at ck_X11_operand 59 rfl) rfl ?_
            refine tz_iload3 (n := 5) (g_at ck_X11_operand 4 rfl) rfl ?_
            refine tz_if_eq (n := 8) (tgt := 120) (g_at ck_X11_operand 5 rfl) rfl rfl (by decide) (fun h5 => ?_) (fun h5 => absurd h5 (by omega))
            have hg37 : (zs (prt t n (nots t n (qa 0 0) y 7))).1 = 1 → (zs (nots t n (qa 0 0) y 7)).1 = 1 := fun h9 => by by_cases h8 : (zs (nots t n (qa 0 0) y 7)).1 = 1; exact h8; rw [prt_bad (hbb3.2.resolve_right h8)] at h9; exact h9
            refine tz_aload0 (n := 121) (g_at ck_X11_operand 60 rfl) rfl (g_ne kd_84) ?_
            refine tz_cvV0 (n := 124) (μ' := μX11_part) (cb' := 0) (sb' := 0) ml_X11_238 mo_X11_part mv_X11_part np_X11_part kd_84 (g_at ck_X11_operand 61 rfl) (mp_part hB hn hZ3 hI3) rfl rfl rfl ⟨by decide, by decide⟩ (Nat.le_of_ble_eq_true rfl) (by decide) (by decide) (fun ρ9 m121 hq => ?_)
            obtain ⟨hq121, hR17, hZ121, hX121⟩ := hq
            exact tz_vret (g_at ck_X11_operand 62 rfl) rfl (rV_mk ⟨hq3.tr hq121, hR17, by rw [← he1, opd_e hgy (f := (6 - zD y).toNat) (by unfold fu; omega) (fun h9 => by omega)]; exact hZ121, hX3.tr hX121, by rw [← he1, opd_e hgy (f := (6 - zD y).toNat) (by unfold fu; omega) (fun h9 => by omega)]; exact (hI3.pt hB hG3).1, fun h9 => by rw [← he1, opd_e hgy (f := (6 - zD y).toNat) (by unfold fu; omega) (fun h9 => by omega)] at h9 ⊢; have h7 := hp1 hgy; rcases (hI3.pt hB hG3).2 h9 with h8 | h8; have h6 := hp3 (hg37 h9); omega; have h6 := hg37 h9; omega⟩)
          · skip
            refine tz_iconst (n := 92) (g_at ck_X11_operand 44 rfl) rfl ?_
            refine tz_goto (tgt := 96) (g_at ck_X11_operand 45 rfl) rfl ?_
            refine tz_istore3 (n := 97) (g_at ck_X11_operand 47 rfl) rfl (by decide) g_hpI ?_
            refine tz_iload3 (n := 98) (g_at ck_X11_operand 48 rfl) rfl ?_
            refine tz_if_eq (n := 101) (tgt := 117) (g_at ck_X11_operand 49 rfl) rfl rfl (by decide) (fun h98 => absurd h98 (by omega)) (fun h98 => ?_)
            have h40 : tK t n (sP (zs (nots t n (qa 0 0) y 7))) = 40 := by omega
            have hlt := nx_lt hB hG3 hg3 (by omega)
            refine tz_aload0 (n := 102) (g_at ck_X11_operand 50 rfl) rfl (g_ne kd_84) ?_
            refine tz_bipush (n := 104) (g_at ck_X11_operand 51 rfl) rfl rfl ?_
            refine tz_cvV1 (n := 107) (μ' := μX11_waitsFor) (cb' := 0) (sb' := 0) ml_X11_232 mo_X11_waitsFor mv_X11_waitsFor np_X11_waitsFor kd_84 (g_at ck_X11_operand 52 rfl) (mp_waitsFor hL hR16 (by rw [hZ3.2.2.1.1]; omega) (by decide)) rfl rfl rfl ⟨by decide, by decide⟩ (Nat.le_of_ble_eq_true rfl) (by decide) (by decide) (fun ρ9 m104 hq => ?_)
            obtain ⟨rfl, hR18, rfl⟩ := hq
            have hZw := hZ3.wt hR18
            refine tz_aload0 (n := 108) (g_at ck_X11_operand 53 rfl) rfl (g_ne kd_84) ?_
            refine tz_cvV0 (n := 111) (μ' := μX11_goes) (cb' := 0) (sb' := 0) ml_X11_195 mo_X11_goes mv_X11_goes np_X11_goes kd_84 (g_at ck_X11_operand 54 rfl) (mp_goes hZw.1.2.1 hR18 hB hn (show 0 ≤ tQ t n (sP (zs (nots t n (qa 0 0) y 7))) ∧ tQ t n (sP (zs (nots t n (qa 0 0) y 7))) ≤ n by have h8 := (hZw.1.g hg3).2.1; have h9 := tk_rg (t := t) hB h8; omega) hZw.1.2.2.1 hZw.1.2.2.2.1 (hZw.1.g hg3).1.2.2.1) rfl rfl rfl ⟨by decide, by decide⟩ (Nat.le_of_ble_eq_true rfl) (by decide) (by decide) (fun ρ9 m108 hq => ?_)
            obtain ⟨w108, rfl, hR19, hX108, hK108⟩ := hq
            have hq108 : q23 ρ3 (wr ρ3 84 23 w108) := q23.w
            have hG108 := hZw.1.nx hg3 hB hR19 hq108 hX108 (by decide) (by decide) hK108
            have hL := hG108.2.1
            refine tz_aload0 (n := 112) (g_at ck_X11_operand 55 rfl) rfl (g_ne kd_84) ?_
            refine tz_cvV0 (n := 115) (μ' := μX11_deeper) (cb' := 0) (sb' := 0) ml_X11_235 mo_X11_deeper mv_X11_deeper np_X11_deeper kd_84 (g_at ck_X11_operand 56 rfl) (mp_deeper hB hn (hZw.s hG108 hX108 (by decide)) hg3 (show 0 ≤ zD (nots t n (qa 0 0) y 7) ∧ zD (nots t n (qa 0 0) y 7) ≤ 6 by omega)) rfl rfl rfl ⟨by decide, by decide⟩ (Nat.le_of_ble_eq_true rfl) (by decide) (by decide) (fun ρ9 m112 hq => ?_)
            obtain ⟨rfl, hR20, hZ112, hX112⟩ := hq
            have hIp := hI3.po (t := t) hg3 hlt
            have hdq := dp_d (t := t) (n := n) (z := nxZ t n (psh 14 (nots t n (qa 0 0) y 7)))
            have hdp : 1 ≤ zD (dpr t n (nxZ t n (psh 14 (nots t n (qa 0 0) y 7)))) := by have h9 := hdq.1; have h8 : zD (nxZ t n (psh 14 (nots t n (qa 0 0) y 7))) = zD (nots t n (qa 0 0) y 7) := rfl; omega
            have hpp : (zs (dpr t n (nxZ t n (psh 14 (nots t n (qa 0 0) y 7))))).1 = 1 → sP (zs y) ≤ sP (zs (dpr t n (nxZ t n (psh 14 (nots t n (qa 0 0) y 7))))) ∧ zD y + 1 ≤ zD (dpr t n (nxZ t n (psh 14 (nots t n (qa 0 0) y 7)))) := fun h9 => by have h8 := hdq.2 h9; have h7 : zD (nxZ t n (psh 14 (nots t n (qa 0 0) y 7))) = zD (nots t n (qa 0 0) y 7) := rfl; have h6 : sP (zs (nxZ t n (psh 14 (nots t n (qa 0 0) y 7)))) = tQ t n (sP (zs (nots t n (qa 0 0) y 7))) := rfl; have h5 := hp3 hg3; omega
            refine tz_iconst (n := 116) (g_at ck_X11_operand 57 rfl) rfl ?_
            refine tz_istore2 (n := 117) (g_at ck_X11_operand 58 rfl) rfl (by decide) g_hpI ?_
            refine tz_goto (tgt := 4) (g_at ck_X11_operand 59 rfl) rfl ?_
            exact ihi (fun _ _ => 1) _ _ ⟨(hq3.tr hq108), hR20, ((hX3.tr (ZX.x FX.wt (by decide) (by decide) (by decide))).tr (ZX.x hX108 (by decide) (by decide) (by decide))).tr hX112, Or.inr rfl, (dpr t n (nxZ t n (psh 14 (nots t n (qa 0 0) y 7)))), hZ112, hIp, (opd_p hgy (by omega) ⟨hg3, h40⟩).symm.trans he1, hdp, fun h9 => by have h8 := hpp h9; have h7 := hp1 hgy; omega⟩
