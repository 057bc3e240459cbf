/-! The reference reads: signs, numbers. -/
def gd9 (x : Int) : Int := if x = 0 then 1 else 0
theorem gd9_1 (x : Int) : (gd9 x = 0 ↔ x ≠ 0) ∧ 0 ≤ gd9 x ∧ gd9 x ≤ 1 := by
  unfold gd9
  split <;> omega
noncomputable def ki9 (t : Int → Int) (n p c : Int) : Int := if tK t n p = c then 1 else 0
theorem ki9_1 (t : Int → Int) (n p c : Int) : (ki9 t n p c = 0 ↔ tK t n p ≠ c) ∧ 0 ≤ ki9 t n p c ∧ ki9 t n p c ≤ 1 := by
  unfold ki9
  split <;> omega
theorem GS.x {ρ ρ9 m m9 : Mm} {t : Int → Int} {n : Int} {s : PS} {L ks : List Int} (h : GS ρ m t n s) (hR : MR m9) (hq : ρ = ρ9) (hX : FX L ks m m9) (h1 : ∀ x ∈ ks, x < 13 ∨ 22 < x ∨ x = 15) (h2 : (91 : Int) ∉ L) : GS ρ9 m9 t n s := by
  subst hq
  have f : ∀ k, 13 ≤ k → k ≤ 22 → k ≠ 15 → m9 84 k = m 84 k := fun k a b c => hX.2 k fun h9 => by have := h1 k h9; omega
  obtain ⟨g1, g2, g3, g4, g5⟩ := h
  refine ⟨hR, g2, (f 16 (by decide) (by decide) (by decide)).trans g3, by rw [hX.1 91 h2]; exact g4, ?_⟩
  rw [f 13 (by decide) (by decide) (by decide), f 14 (by decide) (by decide) (by decide)]
  rcases g5 with ⟨e1, e2, e3⟩ | e
  · refine Or.inl ⟨e1, ?_, e3⟩
    obtain ⟨k1, k2, k3, k4, k5, k6, k7, k8, k9⟩ := e2
    exact ⟨(f 16 (by decide) (by decide) (by decide)).trans k1, by rw [hX.1 91 h2]; exact k2, (f 17 (by decide) (by decide) (by decide)).trans k3, (f 19 (by decide) (by decide) (by decide)).trans k4, (f 20 (by decide) (by decide) (by decide)).trans k5, (f 18 (by decide) (by decide) (by decide)).trans k6, fun h => (f 21 (by decide) (by decide) (by decide)).trans (k7 h), fun h => (f 22 (by decide) (by decide) (by decide)).trans (k8 h), k9⟩
  · exact Or.inr e
theorem mp_wrong {l : Launch} {γ : Gh} {ρ m : Mm} {k : Int} {t : Int → Int} {n : Int} {s : PS} (hB : BY t) (hn : 0 ≤ n ∧ n ≤ 700) (hG : GS ρ m t n s) (hg : s.1 = 1) (hk : 1 ≤ k ∧ k ≤ 5) : gE l γ μX11_wrong 0 0 0 (rV KK fun ρ9 m9 => ρ = ρ9 ∧ MR m9 ∧ GS ρ9 m9 t n (fl9 t n k s) ∧ FX [84] [13, 14] m m9) xN KK ρ m [vR 84, vI k] := by
  refine gE.ofw cl_X11.2 ?_ rfl rfl (Nat.le_of_ble_eq_true rfl)
  show gT l γ μX11_wrong 0 0 0 _ _ KK ρ m 0 [some (vR 84), some (vI k)] []
  have hR := hG.1
  have hL := hG.2.1
  have hgg := hG.g hg
  have hK := hgg.1
  have hr9 := tk_rg (t := t) hB hgg.2.1
  have hso := so9_1 (tK t n (sP s))
  refine tz_aload0 (n := 1) (g_at ck_X11_wrong 0 rfl) rfl (g_ne kd_84) ?_
  refine tz_getIw (n := 4) (kz := 13) fk_X11_188 kd_84 (g_at ck_X11_wrong 1 rfl) rfl rfl ?_
  rw [hgg.2.2.1]
  refine tz_if_eq (n := 7) (tgt := 8) (g_at ck_X11_wrong 2 rfl) rfl rfl (by decide) (fun h4 => ?_) (fun h4 => absurd h4 (by omega))
  refine tz_aload0 (n := 9) (g_at ck_X11_wrong 4 rfl) rfl (g_ne kd_84) ?_
  refine tz_iload1 (n := 10) (g_at ck_X11_wrong 5 rfl) rfl ?_
  refine tz_putIr (n := 13) (kz := 13) fk_X11_188 kd_84 (g_at ck_X11_wrong 6 rfl) rfl hR ⟨(by omega), (by omega)⟩ rfl (fun hR1 => ?_)
  refine tz_aload0 (n := 14) (g_at ck_X11_wrong 7 rfl) rfl (g_ne kd_84) ?_
  refine tz_aload0 (n := 15) (g_at ck_X11_wrong 8 rfl) rfl (g_ne kd_84) ?_
  refine tz_getIw (n := 18) (kz := 19) fk_X11_152 kd_84 (g_at ck_X11_wrong 9 rfl) rfl rfl ?_
  rw [show (wr m 84 13 k) 84 19 = tA t n (sP s) by rw [wr_at, if_neg (by decide)]; exact hK.2.2.2.1]
  refine tz_putIr (n := 21) (kz := 14) fk_X11_38 kd_84 (g_at ck_X11_wrong 10 rfl) rfl hR1 (by omega) rfl (fun hR2 => ?_)
  exact tz_vret (g_at ck_X11_wrong 11 rfl) rfl (rV_mk ⟨rfl, hR2, hG.fl hg hk hR2, (FX.rf.w (by decide) (fun _ => by decide)).w (by decide) (fun _ => by decide)⟩)
noncomputable def nA9 (t : Int → Int) (n k : Int) (s : PS) : PS := if s.1 = 1 then (if (nt9 t n k s).1 = 1 then nx9 t n s else nt9 t n k s) else s
noncomputable def tB9 (t : Int → Int) (n k : Int) (s : PS) : PS := if s.1 = 1 then td9 t n k s else s
theorem nm_ok {t : Int → Int} {n : Int} {s : PS} (g : s.1 = 1) (h1 : tK t n (sP s) = 2) (h2 : ¬ 4 < tQ t n (sP s) - tA t n (sP s)) : nm9 t n s = s := by unfold nm9; rw [if_pos h1, if_neg h2]
theorem nm_2 {t : Int → Int} {n : Int} {s : PS} (h1 : tK t n (sP s) = 2) (h2 : 4 < tQ t n (sP s) - tA t n (sP s)) : nm9 t n s = fl9 t n 2 s := by unfold nm9; rw [if_pos h1, if_pos h2]
theorem nm_1 {t : Int → Int} {n : Int} {s : PS} (h1 : ¬ tK t n (sP s) = 2) : nm9 t n s = fl9 t n 1 s := by unfold nm9; rw [if_neg h1]
theorem nt_e {t : Int → Int} {n k : Int} {s : PS} (g : s.1 = 1) : nt9 t n k s = if tK t n (sP s) = 2 then (if 4 < tQ t n (sP s) - tA t n (sP s) ∨ k < tV t n (sP s) then fl9 t n 2 s else s) else fl9 t n 1 s := by
  unfold nt9
  by_cases h1 : tK t n (sP s) = 2
  · rw [if_pos h1]
    by_cases h2 : 4 < tQ t n (sP s) - tA t n (sP s)
    · rw [nm_2 h1 h2, if_neg (show ¬ (fl9 t n 2 s).1 = 1 by show ¬ (0 : Int) = 1; decide), if_pos (Or.inl h2)]
    · rw [nm_ok g h1 h2, if_pos g]
      by_cases h3 : tV t n (sP s) ≤ k
      · rw [if_pos h3, if_neg (by omega)]
      · rw [if_neg h3, if_pos (Or.inr (by omega))]
  · rw [nm_1 h1, if_neg (show ¬ (fl9 t n 1 s).1 = 1 by show ¬ (0 : Int) = 1; decide), if_neg h1]
theorem td_e {t : Int → Int} {n k : Int} {s : PS} (g : s.1 = 1) : td9 t n k s = if tK t n (sP s) = 2 then (if 4 < tQ t n (sP s) - tA t n (sP s) then fl9 t n 2 s else if k ≤ tV t n (sP s) then fl9 t n 3 s else s) else fl9 t n 1 s := by
  unfold td9
  by_cases h1 : tK t n (sP s) = 2
  · rw [if_pos h1]
    by_cases h2 : 4 < tQ t n (sP s) - tA t n (sP s)
    · rw [nm_2 h1 h2, if_neg (show ¬ (fl9 t n 2 s).1 = 1 by show ¬ (0 : Int) = 1; decide), if_pos h2]
    · rw [nm_ok g h1 h2, if_pos g, if_neg h2]
      by_cases h3 : tV t n (sP s) < k
      · rw [if_pos h3, if_neg (by omega)]
      · rw [if_neg h3, if_pos (by omega)]
  · rw [nm_1 h1, if_neg (show ¬ (fl9 t n 1 s).1 = 1 by show ¬ (0 : Int) = 1; decide), if_neg h1]
theorem fl_0 {t : Int → Int} {n k : Int} {s : PS} : (fl9 t n k s).1 = 0 := rfl
section
variable {t : Int → Int} {n k : Int} {s : PS}
theorem fl_n : ¬ (fl9 t n k s).1 = 1 := by rw [fl_0]; decide
theorem nA_b (g : ¬ s.1 = 1) : nA9 t n k s = s := if_neg g
theorem nA_1 (g : s.1 = 1) (h1 : ¬ tK t n (sP s) = 2) : nA9 t n k s = fl9 t n 1 s := by
  have e : nt9 t n k s = fl9 t n 1 s := (nt_e g).trans (if_neg h1)
  unfold nA9
  rw [if_pos g, e, if_neg fl_n]
theorem nA_2 (g : s.1 = 1) (h1 : tK t n (sP s) = 2) (h2 : 4 < tQ t n (sP s) - tA t n (sP s) ∨ k < tV t n (sP s)) : nA9 t n k s = fl9 t n 2 s := by
  have e : nt9 t n k s = fl9 t n 2 s := (nt_e g).trans ((if_pos h1).trans (if_pos h2))
  unfold nA9
  rw [if_pos g, e, if_neg fl_n]
theorem nA_k (g : s.1 = 1) (h1 : tK t n (sP s) = 2) (h2 : ¬ (4 < tQ t n (sP s) - tA t n (sP s) ∨ k < tV t n (sP s))) : nA9 t n k s = nx9 t n s := by
  have e : nt9 t n k s = s := (nt_e g).trans ((if_pos h1).trans (if_neg h2))
  unfold nA9
  rw [if_pos g, e, if_pos g]
theorem tB_b (g : ¬ s.1 = 1) : tB9 t n k s = s := if_neg g
theorem tB_1 (g : s.1 = 1) (h1 : ¬ tK t n (sP s) = 2) : tB9 t n k s = fl9 t n 1 s := (if_pos g).trans ((td_e g).trans (if_neg h1))
theorem tB_2 (g : s.1 = 1) (h1 : tK t n (sP s) = 2) (h2 : 4 < tQ t n (sP s) - tA t n (sP s)) : tB9 t n k s = fl9 t n 2 s := (if_pos g).trans ((td_e g).trans ((if_pos h1).trans (if_pos h2)))
theorem tB_3 (g : s.1 = 1) (h1 : tK t n (sP s) = 2) (h2 : ¬ 4 < tQ t n (sP s) - tA t n (sP s)) (h3 : k ≤ tV t n (sP s)) : tB9 t n k s = fl9 t n 3 s := (if_pos g).trans ((td_e g).trans ((if_pos h1).trans ((if_neg h2).trans (if_pos h3))))
theorem tB_k (g : s.1 = 1) (h1 : tK t n (sP s) = 2) (h2 : ¬ 4 < tQ t n (sP s) - tA t n (sP s)) (h3 : ¬ k ≤ tV t n (sP s)) : tB9 t n k s = s := (if_pos g).trans ((td_e g).trans ((if_pos h1).trans ((if_neg h2).trans (if_neg h3))))
end
theorem fl_00 {t : Int → Int} {n k : Int} {s : PS} : (fl9 t n k s).1 = 0 := rfl
theorem GS.fl0 {ρ m : Mm} {t : Int → Int} {n k : Int} {s : PS} (h : GS ρ m t n (fl9 t n k s)) : m 84 13 ≠ 0 := fun h9 => absurd (h.b.1.mpr h9) (by rw [fl_0]; decide)
theorem mp_isGood {l : Launch} {γ : Gh} {ρ m : Mm} (hR : MR m) : gE l γ μX11_isGood 0 0 0 (rI KK fun x ρ9 m9 => ρ = ρ9 ∧ MR m9 ∧ gd9 (m 84 13) = x ∧ m = m9) xN KK ρ m [vR 84] := by
  refine gE.ofw cl_X11.2 ?_ rfl rfl (Nat.le_of_ble_eq_true rfl)
  show gT l γ μX11_isGood 0 0 0 _ _ KK ρ m 0 [some (vR 84)] []
  refine tz_aload0 (n := 1) (g_at ck_X11_isGood 0 rfl) rfl (g_ne kd_84) ?_
  refine tz_getIw (n := 4) (kz := 13) fk_X11_188 kd_84 (g_at ck_X11_isGood 1 rfl) rfl rfl ?_
  refine tz_if_ne (n := 7) (tgt := 11) (g_at ck_X11_isGood 2 rfl) rfl rfl (hR 84 13) (fun h4 => ?_) (fun h4 => ?_)
  · skip
    refine tz_iconst (n := 12) (g_at ck_X11_isGood 5 rfl) rfl ?_
    exact tz_bret (g_at ck_X11_isGood 6 rfl) rfl (by decide) (rI_mk ⟨rfl, hR, if_neg h4, rfl⟩)
  · skip
    refine tz_iconst (n := 8) (g_at ck_X11_isGood 3 rfl) rfl ?_
    refine tz_goto (tgt := 12) (g_at ck_X11_isGood 4 rfl) rfl ?_
    exact tz_bret (g_at ck_X11_isGood 6 rfl) rfl (by decide) (rI_mk ⟨rfl, hR, if_pos h4, rfl⟩)
theorem mp_isSign {l : Launch} {γ : Gh} {ρ m : Mm} {c : Int} {t : Int → Int} {n : Int} {s : PS} (hB : BY t) (hn : 0 ≤ n ∧ n ≤ 700) (hG : GS ρ m t n s) (hg : s.1 = 1) (hc : 40 ≤ c ∧ c ≤ 61) : gE l γ μX11_isSign 0 0 0 (rI KK fun x ρ9 m9 => ρ = ρ9 ∧ MR m9 ∧ ki9 t n (sP s) c = x ∧ m = m9) xN KK ρ m [vR 84, vI c] := by
  refine gE.ofw cl_X11.2 ?_ rfl rfl (Nat.le_of_ble_eq_true rfl)
  show gT l γ μX11_isSign 0 0 0 _ _ KK ρ m 0 [some (vR 84), some (vI c)] []
  have hR := hG.1
  have hL := hG.2.1
  have hgg := hG.g hg
  have hK := hgg.1
  have hr9 := tk_rg (t := t) hB hgg.2.1
  have hso := so9_1 (tK t n (sP s))
  refine tz_aload0 (n := 1) (g_at ck_X11_isSign 0 rfl) rfl (g_ne kd_84) ?_
  refine tz_getIw (n := 4) (kz := 18) fk_X11_165 kd_84 (g_at ck_X11_isSign 1 rfl) rfl rfl ?_
  rw [hK.2.2.2.2.2.1]
  refine tz_iconst (n := 5) (g_at ck_X11_isSign 2 rfl) rfl ?_
  refine tz_icmp_ne (n := 8) (tgt := 20) (g_at ck_X11_isSign 3 rfl) rfl rfl (by omega) (fun h5 => ?_) (fun h5 => ?_)
  · skip
    refine tz_iconst (n := 21) (g_at ck_X11_isSign 10 rfl) rfl ?_
    exact tz_bret (g_at ck_X11_isSign 11 rfl) rfl (by decide) (rI_mk ⟨rfl, hR, if_neg (by omega), rfl⟩)
  · skip
    refine tz_aload0 (n := 9) (g_at ck_X11_isSign 4 rfl) rfl (g_ne kd_84) ?_
    refine tz_getIw (n := 12) (kz := 22) fk_X11_162 kd_84 (g_at ck_X11_isSign 5 rfl) rfl rfl ?_
    have h3k : 3 < tK t n (sP s) := by omega
    rw [hK.2.2.2.2.2.2.2.1 h3k]
    refine tz_iload1 (n := 13) (g_at ck_X11_isSign 6 rfl) rfl ?_
    refine tz_icmp_ne (n := 16) (tgt := 20) (g_at ck_X11_isSign 7 rfl) rfl rfl (by omega) (fun h13 => ?_) (fun h13 => ?_)
    · skip
      refine tz_iconst (n := 21) (g_at ck_X11_isSign 10 rfl) rfl ?_
      exact tz_bret (g_at ck_X11_isSign 11 rfl) rfl (by decide) (rI_mk ⟨rfl, hR, if_neg (by omega), rfl⟩)
    · skip
      refine tz_iconst (n := 17) (g_at ck_X11_isSign 8 rfl) rfl ?_
      refine tz_goto (tgt := 21) (g_at ck_X11_isSign 9 rfl) rfl ?_
      exact tz_bret (g_at ck_X11_isSign 11 rfl) rfl (by decide) (rI_mk ⟨rfl, hR, if_pos (by omega), rfl⟩)
theorem mp_isSignB {l : Launch} {γ : Gh} {ρ m : Mm} {c : Int} (hR : MR m) (hc : 40 ≤ c ∧ c ≤ 61) : gE l γ μX11_isSign 0 0 0 (rI KK fun x ρ9 m9 => ρ = ρ9 ∧ MR m9 ∧ (x = 0 ∨ x = 1) ∧ m = m9) xN KK ρ m [vR 84, vI c] := by
  refine gE.ofw cl_X11.2 ?_ rfl rfl (Nat.le_of_ble_eq_true rfl)
  show gT l γ μX11_isSign 0 0 0 _ _ KK ρ m 0 [some (vR 84), some (vI c)] []
  have h18 := hR 84 18
  have h22 := hR 84 22
  refine tz_aload0 (n := 1) (g_at ck_X11_isSign 0 rfl) rfl (g_ne kd_84) ?_
  refine tz_getIw (n := 4) (kz := 18) fk_X11_165 kd_84 (g_at ck_X11_isSign 1 rfl) rfl rfl ?_
  refine tz_iconst (n := 5) (g_at ck_X11_isSign 2 rfl) rfl ?_
  refine tz_icmp_ne (n := 8) (tgt := 20) (g_at ck_X11_isSign 3 rfl) rfl rfl (by omega) (fun h5 => ?_) (fun h5 => ?_)
  · skip
    refine tz_iconst (n := 21) (g_at ck_X11_isSign 10 rfl) rfl ?_
    exact tz_bret (g_at ck_X11_isSign 11 rfl) rfl (by decide) (rI_mk ⟨rfl, hR, Or.inl rfl, rfl⟩)
  · skip
    refine tz_aload0 (n := 9) (g_at ck_X11_isSign 4 rfl) rfl (g_ne kd_84) ?_
    refine tz_getIw (n := 12) (kz := 22) fk_X11_162 kd_84 (g_at ck_X11_isSign 5 rfl) rfl rfl ?_
    refine tz_iload1 (n := 13) (g_at ck_X11_isSign 6 rfl) rfl ?_
    refine tz_icmp_ne (n := 16) (tgt := 20) (g_at ck_X11_isSign 7 rfl) rfl rfl (by omega) (fun h13 => ?_) (fun h13 => ?_)
    · skip
      refine tz_iconst (n := 21) (g_at ck_X11_isSign 10 rfl) rfl ?_
      exact tz_bret (g_at ck_X11_isSign 11 rfl) rfl (by decide) (rI_mk ⟨rfl, hR, Or.inl rfl, rfl⟩)
    · skip
      refine tz_iconst (n := 17) (g_at ck_X11_isSign 8 rfl) rfl ?_
      refine tz_goto (tgt := 21) (g_at ck_X11_isSign 9 rfl) rfl ?_
      exact tz_bret (g_at ck_X11_isSign 11 rfl) rfl (by decide) (rI_mk ⟨rfl, hR, Or.inr rfl, rfl⟩)
theorem mp_need {l : Launch} {γ : Gh} {ρ m : Mm} {b c : Int} {t : Int → Int} {n : Int} {s : PS} (hB : BY t) (hn : 0 ≤ n ∧ n ≤ 700) (hG : GS ρ m t n s) (hb : b = 0 ∨ b = 1) (hc : s.1 = 1 → b = ki9 t n (sP s) c) : gE l γ μX11_need 2 0 0 (rV KK fun ρ9 m9 => q23 ρ ρ9 ∧ MR m9 ∧ GS ρ9 m9 t n (if s.1 = 1 then sg9 t n c s else s) ∧ FX [84] [13, 14, 17, 18, 19, 20, 21, 22] m m9) xN KK ρ m [vR 84, vI b] := by
  refine gE.ofw cl_X11.2 ?_ rfl rfl (Nat.le_of_ble_eq_true rfl)
  show gT l γ μX11_need 2 0 0 _ _ KK ρ m 0 [some (vR 84), some (vI b)] []
  have hR := hG.1
  have hL := hG.2.1
  have hbb := hG.b
  have hgd := gd9_1 (m 84 13)
  refine tz_aload0 (n := 1) (g_at ck_X11_need 0 rfl) rfl (g_ne kd_84) ?_
  refine tz_cvI0 (n := 4) (μ' := μX11_isGood) (cb' := 0) (sb' := 0) ml_X11_191 mo_X11_isGood mv_X11_isGood np_X11_isGood kd_84 (g_at ck_X11_need 1 rfl) (mp_isGood hR) rfl rfl rfl ⟨by decide, by decide⟩ (Nat.le_of_ble_eq_true rfl) (by decide) (by decide) (fun x1 ρ9 m1 hq => ?_)
  obtain ⟨rfl, hR1, rfl, rfl⟩ := hq
  refine tz_if_ne (n := 7) (tgt := 8) (g_at ck_X11_need 2 rfl) rfl rfl (by omega) (fun h4 => ?_) (fun h4 => ?_)
  · skip
    have hg : s.1 = 1 := hbb.1.mpr (by omega)
    have hbk := hc hg
    have hki := ki9_1 t n (sP s) c
    refine tz_iload1 (n := 9) (g_at ck_X11_need 4 rfl) rfl ?_
    refine tz_if_eq (n := 12) (tgt := 19) (g_at ck_X11_need 5 rfl) rfl rfl (by omega) (fun h9 => ?_) (fun h9 => ?_)
    · skip
      refine tz_aload0 (n := 20) (g_at ck_X11_need 9 rfl) rfl (g_ne kd_84) ?_
      refine tz_iconst (n := 21) (g_at ck_X11_need 10 rfl) rfl ?_
      refine tz_cvV1 (n := 24) (μ' := μX11_wrong) (cb' := 0) (sb' := 0) ml_X11_198 mo_X11_wrong mv_X11_wrong np_X11_wrong kd_84 (g_at ck_X11_need 11 rfl) (mp_wrong hB hn hG hg (by decide)) rfl rfl rfl ⟨by decide, by decide⟩ (Nat.le_of_ble_eq_true rfl) (by decide) (by decide) (fun ρ9 m21 hq => ?_)
      obtain ⟨rfl, hR2, hG21, hX21⟩ := hq
      exact tz_vret (g_at ck_X11_need 12 rfl) rfl (rV_mk ⟨q23.rf, hR2, by rw [if_pos hg]; unfold sg9; rw [if_neg (by omega)]; exact hG21, hX21.sub (by decide) (by decide)⟩)
    · skip
      refine tz_aload0 (n := 13) (g_at ck_X11_need 6 rfl) rfl (g_ne kd_84) ?_
      refine tz_cvV0 (n := 16) (μ' := μX11_goes) (cb' := 0) (sb' := 0) ml_X11_195 mo_X11_goes mv_X11_goes np_X11_goes kd_84 (g_at ck_X11_need 7 rfl) (mp_goes hG.2.1 hR1 hB hn (show 0 ≤ tQ t n (sP s) ∧ tQ t n (sP s) ≤ n by have h8 := (hG.g hg).2.1; have h9 := tk_rg (t := t) hB h8; omega) hG.2.2.1 hG.2.2.2.1 (hG.g hg).1.2.2.1) rfl rfl rfl ⟨by decide, by decide⟩ (Nat.le_of_ble_eq_true rfl) (by decide) (by decide) (fun ρ9 m13 hq => ?_)
      obtain ⟨w13, rfl, hR3, hX13, hK13⟩ := hq
      have hq13 : q23 ρ (wr ρ 84 23 w13) := q23.w
      have hG13 := hG.nx hg hB hR3 hq13 hX13 (by decide) (by decide) hK13
      have hL := hG13.2.1
      refine tz_goto (tgt := 24) (g_at ck_X11_need 8 rfl) rfl ?_
      exact tz_vret (g_at ck_X11_need 12 rfl) rfl (rV_mk ⟨hq13, hR3, by rw [if_pos hg]; unfold sg9; rw [if_pos (by omega)]; exact hG13, hX13.sub (by decide) (by decide)⟩)
  · skip
    exact tz_vret (g_at ck_X11_need 3 rfl) rfl (rV_mk ⟨q23.rf, hR1, by rw [if_neg (by omega)]; exact hG, FX.rf⟩)
theorem mp_number {l : Launch} {γ : Gh} {ρ m : Mm} {k : Int} {t : Int → Int} {n : Int} {s : PS} (hB : BY t) (hn : 0 ≤ n ∧ n ≤ 700) (hG : GS ρ m t n s) (hk : 0 ≤ k ∧ k ≤ 99) : gE l γ μX11_number 2 0 0 (rI KK fun x ρ9 m9 => q23 ρ ρ9 ∧ MR m9 ∧ GS ρ9 m9 t n (nA9 t n k s) ∧ FX [84] [13, 14, 17, 18, 19, 20, 21, 22] m m9 ∧ (s.1 = 1 → (nA9 t n k s).1 = 1 → tV t n (sP s) = x) ∧ -2147483648 ≤ x ∧ x < 2147483648) xN KK ρ m [vR 84, vI 0, vI k] := by
  refine gE.ofw cl_X11.2 ?_ rfl rfl (Nat.le_of_ble_eq_true rfl)
  show gT l γ μX11_number 2 0 0 _ _ KK ρ m 0 [some (vR 84), some (vI 0), some (vI k), none] []
  have hR := hG.1
  have hL := hG.2.1
  have hbb := hG.b
  have hgd := gd9_1 (m 84 13)
  refine tz_aload0 (n := 1) (g_at ck_X11_number 0 rfl) rfl (g_ne kd_84) ?_
  refine tz_cvI0 (n := 4) (μ' := μX11_isGood) (cb' := 0) (sb' := 0) ml_X11_191 mo_X11_isGood mv_X11_isGood np_X11_isGood kd_84 (g_at ck_X11_number 1 rfl) (mp_isGood hR) rfl rfl rfl ⟨by decide, by decide⟩ (Nat.le_of_ble_eq_true rfl) (by decide) (by decide) (fun x1 ρ9 m1 hq => ?_)
  obtain ⟨rfl, hR1, rfl, rfl⟩ := hq
  refine tz_if_ne (n := 7) (tgt := 9) (g_at ck_X11_number 2 rfl) rfl rfl (by omega) (fun h4 => ?_) (fun h4 => ?_)
  · skip
    have hg : s.1 = 1 := hbb.1.mpr (by omega)
    have hgg := hG.g hg
    have hK := hgg.1
    have hr9 := tk_rg (t := t) hB hgg.2.1
    have hso := so9_1 (tK t n (sP s))
    refine tz_aload0 (n := 10) (g_at ck_X11_number 5 rfl) rfl (g_ne kd_84) ?_
    refine tz_getIw (n := 13) (kz := 18) fk_X11_165 kd_84 (g_at ck_X11_number 6 rfl) rfl rfl ?_
    rw [hK.2.2.2.2.2.1]
    refine tz_iconst (n := 14) (g_at ck_X11_number 7 rfl) rfl ?_
    refine tz_icmp_eq (n := 17) (tgt := 25) (g_at ck_X11_number 8 rfl) rfl rfl (by omega) (fun h14 => ?_) (fun h14 => ?_)
    · skip
      have h2k : tK t n (sP s) = 2 := hso.2.1.mp h14
      have hv9 := tv_rg h2k
      refine tz_aload0 (n := 26) (g_at ck_X11_number 13 rfl) rfl (g_ne kd_84) ?_
      refine tz_getIw (n := 29) (kz := 20) fk_X11_175 kd_84 (g_at ck_X11_number 14 rfl) rfl rfl ?_
      rw [hK.2.2.2.2.1]
      refine tz_iconst (n := 30) (g_at ck_X11_number 15 rfl) rfl ?_
      refine tz_icmp_gt (n := 33) (tgt := 49) (g_at ck_X11_number 16 rfl) rfl rfl (by omega) (fun h30 => ?_) (fun h30 => ?_)
      · skip
        have hbd : 4 < tQ t n (sP s) - tA t n (sP s) ∨ k < tV t n (sP s) := by omega
        refine tz_aload0 (n := 50) (g_at ck_X11_number 25 rfl) rfl (g_ne kd_84) ?_
        refine tz_iconst (n := 51) (g_at ck_X11_number 26 rfl) rfl ?_
        refine tz_cvV1 (n := 54) (μ' := μX11_wrong) (cb' := 0) (sb' := 0) ml_X11_198 mo_X11_wrong mv_X11_wrong np_X11_wrong kd_84 (g_at ck_X11_number 27 rfl) (mp_wrong hB hn hG hg (by decide)) rfl rfl rfl ⟨by decide, by decide⟩ (Nat.le_of_ble_eq_true rfl) (by decide) (by decide) (fun ρ9 m51 hq => ?_)
        obtain ⟨rfl, hR2, hG51, hX51⟩ := hq
        have hfz51 := hG51.fl0
        have hgw51 := gd9_1 (m51 84 13)
        refine tz_aload0 (n := 55) (g_at ck_X11_number 28 rfl) rfl (g_ne kd_84) ?_
        refine tz_getIw (n := 58) (kz := 21) fk_X11_159 kd_84 (g_at ck_X11_number 29 rfl) rfl rfl ?_
        refine tz_istore3 (n := 59) (g_at ck_X11_number 30 rfl) rfl (by decide) g_hpI ?_
        refine tz_aload0 (n := 60) (g_at ck_X11_number 31 rfl) rfl (g_ne kd_84) ?_
        refine tz_cvI0 (n := 63) (μ' := μX11_isGood) (cb' := 0) (sb' := 0) ml_X11_191 mo_X11_isGood mv_X11_isGood np_X11_isGood kd_84 (g_at ck_X11_number 32 rfl) (mp_isGood hR2) rfl rfl rfl ⟨by decide, by decide⟩ (Nat.le_of_ble_eq_true rfl) (by decide) (by decide) (fun x60 ρ9 m60 hq => ?_)
        obtain ⟨rfl, hR3, rfl, rfl⟩ := hq
        refine tz_if_eq (n := 66) (tgt := 70) (g_at ck_X11_number 33 rfl) rfl rfl (by omega) (fun h63 => ?_) (fun h63 => absurd h63 (by omega))
        refine tz_iload3 (n := 71) (g_at ck_X11_number 36 rfl) rfl ?_
        exact tz_iret (g_at ck_X11_number 37 rfl) rfl (rI_mk ⟨q23.rf, hR3, by rw [nA_2 hg h2k hbd]; exact hG51, hX51.sub (by decide) (by decide), fun _ h9 => absurd h9 (by rw [nA_2 hg h2k hbd]; exact fl_n), hR3 84 21⟩)
      · skip
        refine tz_aload0 (n := 34) (g_at ck_X11_number 17 rfl) rfl (g_ne kd_84) ?_
        refine tz_getIw (n := 37) (kz := 21) fk_X11_159 kd_84 (g_at ck_X11_number 18 rfl) rfl rfl ?_
        rw [hK.2.2.2.2.2.2.1 h2k]
        refine tz_iload1 (n := 38) (g_at ck_X11_number 19 rfl) rfl ?_
        refine tz_icmp_lt (n := 41) (tgt := 49) (g_at ck_X11_number 20 rfl) rfl rfl (by omega) (fun h38 => ?_) (fun h38 => ?_)
        · skip
          have hbd : 4 < tQ t n (sP s) - tA t n (sP s) ∨ k < tV t n (sP s) := by omega
          refine tz_aload0 (n := 50) (g_at ck_X11_number 25 rfl) rfl (g_ne kd_84) ?_
          refine tz_iconst (n := 51) (g_at ck_X11_number 26 rfl) rfl ?_
          refine tz_cvV1 (n := 54) (μ' := μX11_wrong) (cb' := 0) (sb' := 0) ml_X11_198 mo_X11_wrong mv_X11_wrong np_X11_wrong kd_84 (g_at ck_X11_number 27 rfl) (mp_wrong hB hn hG hg (by decide)) rfl rfl rfl ⟨by decide, by decide⟩ (Nat.le_of_ble_eq_true rfl) (by decide) (by decide) (fun ρ9 m51 hq => ?_)
          obtain ⟨rfl, hR4, hG51, hX51⟩ := hq
          have hfz51 := hG51.fl0
          have hgw51 := gd9_1 (m51 84 13)
          refine tz_aload0 (n := 55) (g_at ck_X11_number 28 rfl) rfl (g_ne kd_84) ?_
          refine tz_getIw (n := 58) (kz := 21) fk_X11_159 kd_84 (g_at ck_X11_number 29 rfl) rfl rfl ?_
          refine tz_istore3 (n := 59) (g_at ck_X11_number 30 rfl) rfl (by decide) g_hpI ?_
          refine tz_aload0 (n := 60) (g_at ck_X11_number 31 rfl) rfl (g_ne kd_84) ?_
          refine tz_cvI0 (n := 63) (μ' := μX11_isGood) (cb' := 0) (sb' := 0) ml_X11_191 mo_X11_isGood mv_X11_isGood np_X11_isGood kd_84 (g_at ck_X11_number 32 rfl) (mp_isGood hR4) rfl rfl rfl ⟨by decide, by decide⟩ (Nat.le_of_ble_eq_true rfl) (by decide) (by decide) (fun x60 ρ9 m60 hq => ?_)
          obtain ⟨rfl, hR5, rfl, rfl⟩ := hq
          refine tz_if_eq (n := 66) (tgt := 70) (g_at ck_X11_number 33 rfl) rfl rfl (by omega) (fun h63 => ?_) (fun h63 => absurd h63 (by omega))
          refine tz_iload3 (n := 71) (g_at ck_X11_number 36 rfl) rfl ?_
          exact tz_iret (g_at ck_X11_number 37 rfl) rfl (rI_mk ⟨q23.rf, hR5, by rw [nA_2 hg h2k hbd]; exact hG51, hX51.sub (by decide) (by decide), fun _ h9 => absurd h9 (by rw [nA_2 hg h2k hbd]; exact fl_n), hR5 84 21⟩)
        · skip
          refine tz_aload0 (n := 42) (g_at ck_X11_number 21 rfl) rfl (g_ne kd_84) ?_
          refine tz_getIw (n := 45) (kz := 21) fk_X11_159 kd_84 (g_at ck_X11_number 22 rfl) rfl rfl ?_
          rw [hK.2.2.2.2.2.2.1 h2k]
          refine tz_iload2 (n := 46) (g_at ck_X11_number 23 rfl) rfl ?_
          refine tz_icmp_le (n := 49) (tgt := 54) (g_at ck_X11_number 24 rfl) rfl rfl (by omega) (fun h46 => ?_) (fun h46 => ?_)
          · skip
            have hok : ¬ (4 < tQ t n (sP s) - tA t n (sP s) ∨ k < tV t n (sP s)) := by omega
            refine tz_aload0 (n := 55) (g_at ck_X11_number 28 rfl) rfl (g_ne kd_84) ?_
            refine tz_getIw (n := 58) (kz := 21) fk_X11_159 kd_84 (g_at ck_X11_number 29 rfl) rfl rfl ?_
            rw [hK.2.2.2.2.2.2.1 h2k]
            refine tz_istore3 (n := 59) (g_at ck_X11_number 30 rfl) rfl (by decide) g_hpI ?_
            refine tz_aload0 (n := 60) (g_at ck_X11_number 31 rfl) rfl (g_ne kd_84) ?_
            refine tz_cvI0 (n := 63) (μ' := μX11_isGood) (cb' := 0) (sb' := 0) ml_X11_191 mo_X11_isGood mv_X11_isGood np_X11_isGood kd_84 (g_at ck_X11_number 32 rfl) (mp_isGood hR1) rfl rfl rfl ⟨by decide, by decide⟩ (Nat.le_of_ble_eq_true rfl) (by decide) (by decide) (fun x60 ρ9 m60 hq => ?_)
            obtain ⟨rfl, hR6, rfl, rfl⟩ := hq
            refine tz_if_eq (n := 66) (tgt := 70) (g_at ck_X11_number 33 rfl) rfl rfl (by omega) (fun h63 => absurd h63 (by omega)) (fun h63 => ?_)
            refine tz_aload0 (n := 67) (g_at ck_X11_number 34 rfl) rfl (g_ne kd_84) ?_
            refine tz_cvV0 (n := 70) (μ' := μX11_goes) (cb' := 0) (sb' := 0) ml_X11_195 mo_X11_goes mv_X11_goes np_X11_goes kd_84 (g_at ck_X11_number 35 rfl) (mp_goes hG.2.1 hR6 hB hn (show 0 ≤ tQ t n (sP s) ∧ tQ t n (sP s) ≤ n by have h8 := (hG.g hg).2.1; have h9 := tk_rg (t := t) hB h8; omega) hG.2.2.1 hG.2.2.2.1 (hG.g hg).1.2.2.1) rfl rfl rfl ⟨by decide, by decide⟩ (Nat.le_of_ble_eq_true rfl) (by decide) (by decide) (fun ρ9 m67 hq => ?_)
            obtain ⟨w67, rfl, hR7, hX67, hK67⟩ := hq
            have hq67 : q23 ρ (wr ρ 84 23 w67) := q23.w
            have hG67 := hG.nx hg hB hR7 hq67 hX67 (by decide) (by decide) hK67
            have hL := hG67.2.1
            refine tz_iload3 (n := 71) (g_at ck_X11_number 36 rfl) rfl ?_
            exact tz_iret (g_at ck_X11_number 37 rfl) rfl (rI_mk ⟨hq67, hR7, by rw [nA_k hg h2k hok]; exact hG67, hX67.sub (by decide) (by decide), fun _ _ => rfl, by omega, by omega⟩)
          · skip
            have hbd : 4 < tQ t n (sP s) - tA t n (sP s) ∨ k < tV t n (sP s) := by omega
            refine tz_aload0 (n := 50) (g_at ck_X11_number 25 rfl) rfl (g_ne kd_84) ?_
            refine tz_iconst (n := 51) (g_at ck_X11_number 26 rfl) rfl ?_
            refine tz_cvV1 (n := 54) (μ' := μX11_wrong) (cb' := 0) (sb' := 0) ml_X11_198 mo_X11_wrong mv_X11_wrong np_X11_wrong kd_84 (g_at ck_X11_number 27 rfl) (mp_wrong hB hn hG hg (by decide)) rfl rfl rfl ⟨by decide, by decide⟩ (Nat.le_of_ble_eq_true rfl) (by decide) (by decide) (fun ρ9 m51 hq => ?_)
            obtain ⟨rfl, hR8, hG51, hX51⟩ := hq
            have hfz51 := hG51.fl0
            have hgw51 := gd9_1 (m51 84 13)
            refine tz_aload0 (n := 55) (g_at ck_X11_number 28 rfl) rfl (g_ne kd_84) ?_
            refine tz_getIw (n := 58) (kz := 21) fk_X11_159 kd_84 (g_at ck_X11_number 29 rfl) rfl rfl ?_
            refine tz_istore3 (n := 59) (g_at ck_X11_number 30 rfl) rfl (by decide) g_hpI ?_
            refine tz_aload0 (n := 60) (g_at ck_X11_number 31 rfl) rfl (g_ne kd_84) ?_
            refine tz_cvI0 (n := 63) (μ' := μX11_isGood) (cb' := 0) (sb' := 0) ml_X11_191 mo_X11_isGood mv_X11_isGood np_X11_isGood kd_84 (g_at ck_X11_number 32 rfl) (mp_isGood hR8) rfl rfl rfl ⟨by decide, by decide⟩ (Nat.le_of_ble_eq_true rfl) (by decide) (by decide) (fun x60 ρ9 m60 hq => ?_)
            obtain ⟨rfl, hR9, rfl, rfl⟩ := hq
            refine tz_if_eq (n := 66) (tgt := 70) (g_at ck_X11_number 33 rfl) rfl rfl (by omega) (fun h63 => ?_) (fun h63 => absurd h63 (by omega))
            refine tz_iload3 (n := 71) (g_at ck_X11_number 36 rfl) rfl ?_
            exact tz_iret (g_at ck_X11_number 37 rfl) rfl (rI_mk ⟨q23.rf, hR9, by rw [nA_2 hg h2k hbd]; exact hG51, hX51.sub (by decide) (by decide), fun _ h9 => absurd h9 (by rw [nA_2 hg h2k hbd]; exact fl_n), hR9 84 21⟩)
    · skip
      have h9k : ¬ tK t n (sP s) = 2 := fun h8 => h14 (hso.2.1.mpr h8)
      refine tz_aload0 (n := 18) (g_at ck_X11_number 9 rfl) rfl (g_ne kd_84) ?_
      refine tz_iconst (n := 19) (g_at ck_X11_number 10 rfl) rfl ?_
      refine tz_cvV1 (n := 22) (μ' := μX11_wrong) (cb' := 0) (sb' := 0) ml_X11_198 mo_X11_wrong mv_X11_wrong np_X11_wrong kd_84 (g_at ck_X11_number 11 rfl) (mp_wrong hB hn hG hg (by decide)) rfl rfl rfl ⟨by decide, by decide⟩ (Nat.le_of_ble_eq_true rfl) (by decide) (by decide) (fun ρ9 m19 hq => ?_)
      obtain ⟨rfl, hR10, hG19, hX19⟩ := hq
      have hfz19 := hG19.fl0
      have hgw19 := gd9_1 (m19 84 13)
      refine tz_goto (tgt := 54) (g_at ck_X11_number 12 rfl) rfl ?_
      refine tz_aload0 (n := 55) (g_at ck_X11_number 28 rfl) rfl (g_ne kd_84) ?_
      refine tz_getIw (n := 58) (kz := 21) fk_X11_159 kd_84 (g_at ck_X11_number 29 rfl) rfl rfl ?_
      refine tz_istore3 (n := 59) (g_at ck_X11_number 30 rfl) rfl (by decide) g_hpI ?_
      refine tz_aload0 (n := 60) (g_at ck_X11_number 31 rfl) rfl (g_ne kd_84) ?_
      refine tz_cvI0 (n := 63) (μ' := μX11_isGood) (cb' := 0) (sb' := 0) ml_X11_191 mo_X11_isGood mv_X11_isGood np_X11_isGood kd_84 (g_at ck_X11_number 32 rfl) (mp_isGood hR10) rfl rfl rfl ⟨by decide, by decide⟩ (Nat.le_of_ble_eq_true rfl) (by decide) (by decide) (fun x60 ρ9 m60 hq => ?_)
      obtain ⟨rfl, hR11, rfl, rfl⟩ := hq
      refine tz_if_eq (n := 66) (tgt := 70) (g_at ck_X11_number 33 rfl) rfl rfl (by omega) (fun h63 => ?_) (fun h63 => absurd h63 (by omega))
      refine tz_iload3 (n := 71) (g_at ck_X11_number 36 rfl) rfl ?_
      exact tz_iret (g_at ck_X11_number 37 rfl) rfl (rI_mk ⟨q23.rf, hR11, by rw [nA_1 hg h9k]; exact hG19, hX19.sub (by decide) (by decide), fun _ h9 => absurd h9 (by rw [nA_1 hg h9k]; exact fl_n), hR11 84 21⟩)
  · skip
    refine tz_iconst (n := 8) (g_at ck_X11_number 3 rfl) rfl ?_
    exact tz_iret (g_at ck_X11_number 4 rfl) rfl (rI_mk ⟨q23.rf, hR1, by rw [nA_b (by omega)]; exact hG, FX.rf, fun h9 => absurd h9 (by omega), by decide, by decide⟩)
theorem mp_isOneOf {l : Launch} {γ : Gh} {ρ m : Mm} {k : Int} {t : Int → Int} {n : Int} {s : PS} (hB : BY t) (hn : 0 ≤ n ∧ n ≤ 700) (hG : GS ρ m t n s) (hk : 0 ≤ k ∧ k ≤ 99) : gE l γ μX11_isOneOf 2 0 0 (rI KK fun x ρ9 m9 => ρ = ρ9 ∧ MR m9 ∧ GS ρ9 m9 t n (tB9 t n k s) ∧ FX [84] [13, 14] m m9 ∧ (tB9 t n k s).1 = x) xN KK ρ m [vR 84, vI k] := by
  refine gE.ofw cl_X11.2 ?_ rfl rfl (Nat.le_of_ble_eq_true rfl)
  show gT l γ μX11_isOneOf 2 0 0 _ _ KK ρ m 0 [some (vR 84), some (vI k)] []
  have hR := hG.1
  have hL := hG.2.1
  have hbb := hG.b
  have hgd := gd9_1 (m 84 13)
  refine tz_aload0 (n := 1) (g_at ck_X11_isOneOf 0 rfl) rfl (g_ne kd_84) ?_
  refine tz_cvI0 (n := 4) (μ' := μX11_isGood) (cb' := 0) (sb' := 0) ml_X11_191 mo_X11_isGood mv_X11_isGood np_X11_isGood kd_84 (g_at ck_X11_isOneOf 1 rfl) (mp_isGood hR) rfl rfl rfl ⟨by decide, by decide⟩ (Nat.le_of_ble_eq_true rfl) (by decide) (by decide) (fun x1 ρ9 m1 hq => ?_)
  obtain ⟨rfl, hR1, rfl, rfl⟩ := hq
  refine tz_if_ne (n := 7) (tgt := 9) (g_at ck_X11_isOneOf 2 rfl) rfl rfl (by omega) (fun h4 => ?_) (fun h4 => ?_)
  · skip
    have hg : s.1 = 1 := hbb.1.mpr (by omega)
    have hgg := hG.g hg
    have hK := hgg.1
    have hr9 := tk_rg (t := t) hB hgg.2.1
    have hso := so9_1 (tK t n (sP s))
    refine tz_aload0 (n := 10) (g_at ck_X11_isOneOf 5 rfl) rfl (g_ne kd_84) ?_
    refine tz_getIw (n := 13) (kz := 18) fk_X11_165 kd_84 (g_at ck_X11_isOneOf 6 rfl) rfl rfl ?_
    rw [hK.2.2.2.2.2.1]
    refine tz_iconst (n := 14) (g_at ck_X11_isOneOf 7 rfl) rfl ?_
    refine tz_icmp_eq (n := 17) (tgt := 25) (g_at ck_X11_isOneOf 8 rfl) rfl rfl (by omega) (fun h14 => ?_) (fun h14 => ?_)
    · skip
      have h2k : tK t n (sP s) = 2 := hso.2.1.mp h14
      have hv9 := tv_rg h2k
      refine tz_aload0 (n := 26) (g_at ck_X11_isOneOf 13 rfl) rfl (g_ne kd_84) ?_
      refine tz_getIw (n := 29) (kz := 20) fk_X11_175 kd_84 (g_at ck_X11_isOneOf 14 rfl) rfl rfl ?_
      rw [hK.2.2.2.2.1]
      refine tz_iconst (n := 30) (g_at ck_X11_isOneOf 15 rfl) rfl ?_
      refine tz_icmp_le (n := 33) (tgt := 41) (g_at ck_X11_isOneOf 16 rfl) rfl rfl (by omega) (fun h30 => ?_) (fun h30 => ?_)
      · skip
        refine tz_aload0 (n := 42) (g_at ck_X11_isOneOf 21 rfl) rfl (g_ne kd_84) ?_
        refine tz_getIw (n := 45) (kz := 21) fk_X11_159 kd_84 (g_at ck_X11_isOneOf 22 rfl) rfl rfl ?_
        rw [hK.2.2.2.2.2.2.1 h2k]
        refine tz_iload1 (n := 46) (g_at ck_X11_isOneOf 23 rfl) rfl ?_
        refine tz_icmp_lt (n := 49) (tgt := 54) (g_at ck_X11_isOneOf 24 rfl) rfl rfl (by omega) (fun h46 => ?_) (fun h46 => ?_)
        · skip
          refine tz_aload0 (n := 55) (g_at ck_X11_isOneOf 28 rfl) rfl (g_ne kd_84) ?_
          refine tz_cvI0 (n := 58) (μ' := μX11_isGood) (cb' := 0) (sb' := 0) ml_X11_191 mo_X11_isGood mv_X11_isGood np_X11_isGood kd_84 (g_at ck_X11_isOneOf 29 rfl) (mp_isGood hR1) rfl rfl rfl ⟨by decide, by decide⟩ (Nat.le_of_ble_eq_true rfl) (by decide) (by decide) (fun x55 ρ9 m55 hq => ?_)
          obtain ⟨rfl, hR2, rfl, rfl⟩ := hq
          exact tz_bret (g_at ck_X11_isOneOf 30 rfl) rfl (by omega) (rI_mk ⟨rfl, hR2, by rw [tB_k hg h2k (by omega) (by omega)]; exact hG, FX.rf, by rw [tB_k hg h2k (by omega) (by omega)]; omega⟩)
        · skip
          refine tz_aload0 (n := 50) (g_at ck_X11_isOneOf 25 rfl) rfl (g_ne kd_84) ?_
          refine tz_iconst (n := 51) (g_at ck_X11_isOneOf 26 rfl) rfl ?_
          refine tz_cvV1 (n := 54) (μ' := μX11_wrong) (cb' := 0) (sb' := 0) ml_X11_198 mo_X11_wrong mv_X11_wrong np_X11_wrong kd_84 (g_at ck_X11_isOneOf 27 rfl) (mp_wrong hB hn hG hg (by decide)) rfl rfl rfl ⟨by decide, by decide⟩ (Nat.le_of_ble_eq_true rfl) (by decide) (by decide) (fun ρ9 m51 hq => ?_)
          obtain ⟨rfl, hR3, hG51, hX51⟩ := hq
          have hfz51 := hG51.fl0
          have hgw51 := gd9_1 (m51 84 13)
          refine tz_aload0 (n := 55) (g_at ck_X11_isOneOf 28 rfl) rfl (g_ne kd_84) ?_
          refine tz_cvI0 (n := 58) (μ' := μX11_isGood) (cb' := 0) (sb' := 0) ml_X11_191 mo_X11_isGood mv_X11_isGood np_X11_isGood kd_84 (g_at ck_X11_isOneOf 29 rfl) (mp_isGood hR3) rfl rfl rfl ⟨by decide, by decide⟩ (Nat.le_of_ble_eq_true rfl) (by decide) (by decide) (fun x55 ρ9 m55 hq => ?_)
          obtain ⟨rfl, hR4, rfl, rfl⟩ := hq
          exact tz_bret (g_at ck_X11_isOneOf 30 rfl) rfl (by omega) (rI_mk ⟨rfl, hR4, by rw [tB_3 hg h2k (by omega) (by omega)]; exact hG51, hX51.sub (by decide) (by decide), by rw [tB_3 hg h2k (by omega) (by omega), fl_0]; omega⟩)
      · skip
        refine tz_aload0 (n := 34) (g_at ck_X11_isOneOf 17 rfl) rfl (g_ne kd_84) ?_
        refine tz_iconst (n := 35) (g_at ck_X11_isOneOf 18 rfl) rfl ?_
        refine tz_cvV1 (n := 38) (μ' := μX11_wrong) (cb' := 0) (sb' := 0) ml_X11_198 mo_X11_wrong mv_X11_wrong np_X11_wrong kd_84 (g_at ck_X11_isOneOf 19 rfl) (mp_wrong hB hn hG hg (by decide)) rfl rfl rfl ⟨by decide, by decide⟩ (Nat.le_of_ble_eq_true rfl) (by decide) (by decide) (fun ρ9 m35 hq => ?_)
        obtain ⟨rfl, hR5, hG35, hX35⟩ := hq
        have hfz35 := hG35.fl0
        have hgw35 := gd9_1 (m35 84 13)
        refine tz_goto (tgt := 54) (g_at ck_X11_isOneOf 20 rfl) rfl ?_
        refine tz_aload0 (n := 55) (g_at ck_X11_isOneOf 28 rfl) rfl (g_ne kd_84) ?_
        refine tz_cvI0 (n := 58) (μ' := μX11_isGood) (cb' := 0) (sb' := 0) ml_X11_191 mo_X11_isGood mv_X11_isGood np_X11_isGood kd_84 (g_at ck_X11_isOneOf 29 rfl) (mp_isGood hR5) rfl rfl rfl ⟨by decide, by decide⟩ (Nat.le_of_ble_eq_true rfl) (by decide) (by decide) (fun x55 ρ9 m55 hq => ?_)
        obtain ⟨rfl, hR6, rfl, rfl⟩ := hq
        exact tz_bret (g_at ck_X11_isOneOf 30 rfl) rfl (by omega) (rI_mk ⟨rfl, hR6, by rw [tB_2 hg h2k (by omega)]; exact hG35, hX35.sub (by decide) (by decide), by rw [tB_2 hg h2k (by omega), fl_0]; omega⟩)
    · skip
      have h9k : ¬ tK t n (sP s) = 2 := fun h8 => h14 (hso.2.1.mpr h8)
      refine tz_aload0 (n := 18) (g_at ck_X11_isOneOf 9 rfl) rfl (g_ne kd_84) ?_
      refine tz_iconst (n := 19) (g_at ck_X11_isOneOf 10 rfl) rfl ?_
      refine tz_cvV1 (n := 22) (μ' := μX11_wrong) (cb' := 0) (sb' := 0) ml_X11_198 mo_X11_wrong mv_X11_wrong np_X11_wrong kd_84 (g_at ck_X11_isOneOf 11 rfl) (mp_wrong hB hn hG hg (by decide)) rfl rfl rfl ⟨by decide, by decide⟩ (Nat.le_of_ble_eq_true rfl) (by decide) (by decide) (fun ρ9 m19 hq => ?_)
      obtain ⟨rfl, hR7, hG19, hX19⟩ := hq
      have hfz19 := hG19.fl0
      have hgw19 := gd9_1 (m19 84 13)
      refine tz_goto (tgt := 54) (g_at ck_X11_isOneOf 12 rfl) rfl ?_
      refine tz_aload0 (n := 55) (g_at ck_X11_isOneOf 28 rfl) rfl (g_ne kd_84) ?_
      refine tz_cvI0 (n := 58) (μ' := μX11_isGood) (cb' := 0) (sb' := 0) ml_X11_191 mo_X11_isGood mv_X11_isGood np_X11_isGood kd_84 (g_at ck_X11_isOneOf 29 rfl) (mp_isGood hR7) rfl rfl rfl ⟨by decide, by decide⟩ (Nat.le_of_ble_eq_true rfl) (by decide) (by decide) (fun x55 ρ9 m55 hq => ?_)
      obtain ⟨rfl, hR8, rfl, rfl⟩ := hq
      exact tz_bret (g_at ck_X11_isOneOf 30 rfl) rfl (by omega) (rI_mk ⟨rfl, hR8, by rw [tB_1 hg h9k]; exact hG19, hX19.sub (by decide) (by decide), by rw [tB_1 hg h9k, fl_0]; omega⟩)
  · skip
    refine tz_iconst (n := 8) (g_at ck_X11_isOneOf 3 rfl) rfl ?_
    exact tz_bret (g_at ck_X11_isOneOf 4 rfl) rfl (by decide) (rI_mk ⟨rfl, hR1, by rw [tB_b (by omega)]; exact hG, FX.rf, by rw [tB_b (by omega)]; omega⟩)
