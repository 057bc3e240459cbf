/-! Lines. A land that is being told: 0 how many crossings, people, bits of arms told; 1 tolls, 2 beds, 3 how many roads, 4 where they lead, 5 homes, 6 the row at the beginning. -/
def NL (m : Mm) (sp : Int) (ν : Mm) : Prop := (m sp 0 = ν 0 0 ∧ m sp 1 = ν 0 1 ∧ m 37 3 = ν 0 2) ∧ (∀ c, 0 ≤ c → c < ν 0 0 → m (sp + 1) c = ν 1 c ∧ m (sp + 2) c = ν 2 c) ∧ (∀ c, 0 ≤ c → c < 9 → m (sp + 3) c = ν 3 c) ∧ (∀ c r, 0 ≤ c → c < ν 0 0 → 0 ≤ r → r < ν 3 c → m (sp + 4) (c * 5 + r) = ν 4 (c * 5 + r)) ∧ (∀ p, 0 ≤ p → p < ν 0 1 → m (sp + 5) p = ν 5 p) ∧ MomC m (sp + 12) (ν 6)
def WN (ν : Mm) : Prop := (0 ≤ ν 0 0 ∧ ν 0 0 ≤ 9) ∧ (0 ≤ ν 0 1 ∧ ν 0 1 ≤ 8) ∧ (0 ≤ ν 0 2 ∧ ν 0 2 < 512) ∧ (∀ c, 0 ≤ c → c < 9 → 0 ≤ ν 3 c ∧ ν 3 c ≤ 5) ∧ (∀ c, ν 0 0 ≤ c → c < 9 → ν 3 c = 0) ∧ (∀ c, 0 ≤ c → c < ν 0 0 → 0 ≤ ν 1 c ∧ ν 1 c ≤ 9 ∧ 0 ≤ ν 2 c ∧ ν 2 c ≤ 1) ∧ (∀ c r, 0 ≤ c → c < ν 0 0 → 0 ≤ r → r < ν 3 c → 0 ≤ ν 4 (c * 5 + r) ∧ ν 4 (c * 5 + r) < ν 0 0) ∧ (∀ p, 0 ≤ p → p < ν 0 1 → (0 ≤ ν 5 p ∧ ν 5 p < ν 0 0) ∧ (0 ≤ ν 6 (1 + p) ∧ ν 6 (1 + p) < ν 0 0) ∧ 0 ≤ ν 6 (9 + p) ∧ ν 6 (9 + p) ≤ 99) ∧ (∀ c, 0 ≤ c → c < 9 → 0 ≤ ν 6 (17 + c) ∧ (0 < ν 6 (17 + c) → ν 6 (17 + c) < ν 3 c) ∧ ν 6 (26 + c) = 0) ∧ ν 6 0 = 0
def R4 (m : Mm) (Q : Int → List Int) : Prop := ∀ u, isR4 u → RlC m u (Q u)
def upQ (Q : Int → List Int) (u : Int) (L : List Int) : Int → List Int := fun v => if v = u then L else Q v
theorem upQ_self {Q : Int → List Int} {u : Int} {L : List Int} (h : L = Q u) : upQ Q u L = Q := funext fun v => by
  unfold upQ
  split
  · rename_i e
    rw [e, h]
  · rfl
theorem R4.fe {m m9 : Mm} {Q : Int → List Int} {u : Int} {L : List Int} (h : R4 m Q) (hu : isR4 u) (hF : FE u m m9) (hl : RlC m9 u L) : R4 m9 (upQ Q u L) := fun v hv => by
  unfold upQ
  split
  · rename_i e
    rw [e]; exact hl
  · rename_i e
    have hu' := hu
    have hv' := hv
    unfold isR4 at hu' hv'
    exact (h v hv).fr (hF.1 _ (by omega) e (by omega) (by omega)) (hF.1 _ (by omega) (by omega) (by omega) (by omega))
theorem R4.fr {m m9 : Mm} {Q : Int → List Int} (h : R4 m Q) (k : ∀ a, (a = 9 ∨ a = 10 ∨ a = 12 ∨ a = 13 ∨ a = 26 ∨ a = 27 ∨ a = 29 ∨ a = 30) → m9 a = m a) : R4 m9 Q := fun v hv => by
  have hv' := hv
  unfold isR4 at hv'
  exact (h v hv).fr (k _ (by omega)) (k _ (by omega))
theorem RD.fr {ρ m m9 : Mm} {t : Int → Int} {n u : Int} {s : PS} (h : RD ρ m t n u s) (hR : MR m9) (k : ∀ a, (a = 37 ∨ a = 38 ∨ a = 2 ∨ a = u ∨ a = u + 1) → m9 a = m a) : RD ρ m9 t n u s := ⟨hR, h.ru, h.u4, h.tk.fr (k 38 (by omega)) (k 2 (by omega)), h.p, h.l.fr (k u (by omega)) (k (u + 1) (by omega)), by rw [k 37 (by omega)]; exact h.f, by rw [k 37 (by omega)]; exact h.w, h.o⟩
theorem MomC.gen {m m9 : Mm} {mo : Int} {s : Int → Int} (h : MomC m mo s) (k : ∀ a, mo ≤ a → a ≤ mo + 4 → m9 a = m a) : MomC m9 mo s := by
  refine ⟨by rw [k mo (by omega) (by omega)]; exact h.1, fun p a b => ?_, fun p a b => ?_⟩
  · rw [k (mo + 1) (by omega) (by omega), k (mo + 2) (by omega) (by omega)]
    exact h.2.1 p a b
  · rw [k (mo + 3) (by omega) (by omega), k (mo + 4) (by omega) (by omega)]
    exact h.2.2 p a b
theorem NL.fr {m m9 ν : Mm} {sp : Int} (h : NL m sp ν) (k : ∀ a, (sp ≤ a ∧ a ≤ sp + 5) ∨ (sp + 12 ≤ a ∧ a ≤ sp + 16) → m9 a = m a) (k3 : m9 37 3 = m 37 3) : NL m9 sp ν := by
  obtain ⟨h1, h2, h3, h4, h5, h6⟩ := h
  refine ⟨by rw [k sp (by omega), k3]; exact h1, ?_, ?_, ?_, ?_, h6.gen (fun a h7 h8 => k a (by omega))⟩
  · rw [k (sp + 1) (by omega), k (sp + 2) (by omega)]; exact h2
  · rw [k (sp + 3) (by omega)]; exact h3
  · rw [k (sp + 4) (by omega)]; exact h4
  · rw [k (sp + 5) (by omega)]; exact h5
theorem NL.fe {m m9 ν : Mm} {sp u : Int} (h : NL m sp ν) (hsp : sp = 3 ∨ sp = 20) (hu : isR4 u) (hF : FE u m m9) : NL m9 sp ν := h.fr (fun a ha => hF.1 a (by omega) (by unfold isR4 at hu; omega) (by unfold isR4 at hu; omega) (by omega)) (hF.2 3 (by decide) (by decide))
/-- what reading lines into sp may change -/
def FL (sp : Int) (m m9 : Mm) : Prop := ∀ a, (a < sp ∨ sp + 16 < a) → a ≠ 37 → a ≠ 38 → ¬ (a = 9 ∨ a = 10 ∨ a = 12 ∨ a = 13 ∨ a = 26 ∨ a = 27 ∨ a = 29 ∨ a = 30) → m9 a = m a
theorem FL.rf {sp : Int} {m : Mm} : FL sp m m := fun _ _ _ _ _ => rfl
theorem FL.tr {sp : Int} {a b c : Mm} (h : FL sp a b) (k : FL sp b c) : FL sp a c := fun x h1 h2 h3 h4 => (k x h1 h2 h3 h4).trans (h x h1 h2 h3 h4)
theorem FL.fe {sp u : Int} {m m9 : Mm} (hu : isR4 u) (h : FE u m m9) : FL sp m m9 := fun a _ h2 h3 h4 => h.1 a h3 (by unfold isR4 at hu; omega) (by unfold isR4 at hu; omega) h2
theorem FL.wr {sp a k x : Int} {m m9 : Mm} (h : FL sp m m9) (ha : sp ≤ a ∧ a ≤ sp + 16) : FL sp m (Jvm.Pilot.@@N@@.wr m9 a k x) := fun b h1 h2 h3 h4 => by rw [wr_ne (by omega)]; exact h b h1 h2 h3 h4
/-- the reader stands so, with the land at sp -/
def LR (ρ m : Mm) (t : Int → Int) (n sp u : Int) (s : PS) (ν : Mm) (Q : Int → List Int) : Prop := RD ρ m t n u s ∧ ρ 37 1 = sp ∧ (sp = 3 ∨ sp = 20) ∧ NL m sp ν ∧ WN ν ∧ R4 m Q ∧ sL s = Q u
section
variable {ρ m m9 : Mm} {t : Int → Int} {n sp u : Int} {s s' : PS} {ν : Mm} {Q : Int → List Int}
theorem LR.d (h : LR ρ m t n sp u s ν Q) : RD ρ m t n u s := h.1
theorem LR.ls (h : LR ρ m t n sp u s ν Q) : ρ 37 1 = sp := h.2.1
theorem LR.s3 (h : LR ρ m t n sp u s ν Q) : sp = 3 ∨ sp = 20 := h.2.2.1
theorem LR.nl (h : LR ρ m t n sp u s ν Q) : NL m sp ν := h.2.2.2.1
theorem LR.w (h : LR ρ m t n sp u s ν Q) : WN ν := h.2.2.2.2.1
theorem LR.q (h : LR ρ m t n sp u s ν Q) : R4 m Q := h.2.2.2.2.2.1
theorem LR.l (h : LR ρ m t n sp u s ν Q) : sL s = Q u := h.2.2.2.2.2.2
theorem LR.st (h : LR ρ m t n sp u s ν Q) (hD : RD ρ m9 t n u s') (hF : FE u m m9) (hl : sL s' = sL s) : LR ρ m9 t n sp u s' ν Q := by
  have e := hl.trans h.l
  refine ⟨hD, h.ls, h.s3, h.nl.fe h.s3 h.d.u4 hF, h.w, ?_, e⟩
  have k := h.q.fe h.d.u4 hF hD.l
  rw [upQ_self e] at k
  exact k
end
noncomputable def nt9 (t : Int → Int) (n k : Int) (s : PS) : PS := if (nm9 t n s).1 = 1 then (if tV t n (sP s) ≤ k then s else fl9 t n 2 s) else nm9 t n s
noncomputable def td9 (t : Int → Int) (n k : Int) (s : PS) : PS := if (nm9 t n s).1 = 1 then (if tV t n (sP s) < k then s else fl9 t n 3 s) else nm9 t n s
theorem nm9_0 {t : Int → Int} {n : Int} {s : PS} (h1 : s.1 = 1) : (nm9 t n s).1 = 0 ∨ (nm9 t n s).1 = 1 := by
  unfold nm9
  repeat' split
  all_goals first | exact Or.inl rfl | exact Or.inr h1
theorem nt9_1 {t : Int → Int} {n k : Int} {s : PS} (h : (nt9 t n k s).1 = 1) : nt9 t n k s = s ∧ tK t n (sP s) = 2 ∧ 0 ≤ tV t n (sP s) ∧ tV t n (sP s) ≤ k := by
  unfold nt9 at h ⊢
  by_cases c : (nm9 t n s).1 = 1
  · rw [if_pos c] at h ⊢
    have hk := (nm9_1 c).1
    have hv := tv_rg hk
    by_cases e : tV t n (sP s) ≤ k
    · rw [if_pos e]
      exact ⟨rfl, hk, hv.1, e⟩
    · rw [if_neg e] at h
      exact absurd h (by show ¬ (0 : Int) = 1; decide)
  · rw [if_neg c] at h
    exact absurd h c
theorem td9_1 {t : Int → Int} {n k : Int} {s : PS} (h : (td9 t n k s).1 = 1) : td9 t n k s = s ∧ tK t n (sP s) = 2 ∧ 0 ≤ tV t n (sP s) ∧ tV t n (sP s) < k := by
  unfold td9 at h ⊢
  by_cases c : (nm9 t n s).1 = 1
  · rw [if_pos c] at h ⊢
    have hk := (nm9_1 c).1
    have hv := tv_rg hk
    by_cases e : tV t n (sP s) < k
    · rw [if_pos e]
      exact ⟨rfl, hk, hv.1, e⟩
    · rw [if_neg e] at h
      exact absurd h (by show ¬ (0 : Int) = 1; decide)
  · rw [if_neg c] at h
    exact absurd h c
theorem nm9_l {t : Int → Int} {n : Int} {s : PS} : sL (nm9 t n s) = sL s := by
  unfold nm9
  repeat' split
  all_goals rfl
theorem nt9_l {t : Int → Int} {n k : Int} {s : PS} : sL (nt9 t n k s) = sL s := by
  unfold nt9
  repeat' split
  all_goals first | rfl | exact nm9_l
theorem td9_l {t : Int → Int} {n k : Int} {s : PS} : sL (td9 t n k s) = sL s := by
  unfold td9
  repeat' split
  all_goals first | rfl | exact nm9_l
theorem sg9_l {t : Int → Int} {n c : Int} {s : PS} : sL (sg9 t n c s) = sL s := by
  unfold sg9
  repeat' split
  all_goals rfl
theorem sq_isNumberTo {l : Launch} {γ : Gh} {ρ m : Mm} {k : Int} {t : Int → Int} {n u : Int} {s : PS} (hL : LY ρ) (hB : BY t) (hn : 0 ≤ n ∧ n ≤ 700) (hD : RD ρ m t n u s) (h1 : s.1 = 1) (hk : -1 ≤ k ∧ k ≤ 10000) : gE l γ μX3_isNumberTo 2 0 0 (rI KK fun x ρ9 m9 => ρ = ρ9 ∧ MR m9 ∧ RD ρ9 m9 t n u (nt9 t n k s) ∧ (nt9 t n k s).1 = x ∧ FE u m m9) xN KK ρ m [vR 37, vI k] := by
  refine gE.ofw cl_X3.2 ?_ rfl rfl (Nat.le_of_ble_eq_true rfl)
  show gT l γ μX3_isNumberTo 2 0 0 _ _ KK ρ m 0 [some (vR 37), some (vI k)] []
  have hR := hD.r
  have hp := hD.p
  have hr9 := tk_rg (n := n) hB hp
  have hu4 := hD.u4
  unfold isR4 at hu4
  refine tz_aload0 (n := 1) (g_at ck_X3_isNumberTo 0 rfl) rfl (g_ne kd_37) ?_
  refine tz_cvI0 (n := 4) (μ' := μX3_isNumber) (cb' := 0) (sb' := 0) ml_X3_107 mo_X3_isNumber mv_X3_isNumber np_X3_isNumber kd_37 (g_at ck_X3_isNumberTo 1 rfl) (sp_isNumber hL hB hn hD h1) rfl rfl rfl ⟨by decide, by decide⟩ (Nat.le_of_ble_eq_true rfl) (by decide) (by decide) (fun x1 ρ9 m1 hq => ?_)
  obtain ⟨rfl, hR1, hD1, hx1, hF1⟩ := hq
  have ho1 := nm9_0 (t := t) (n := n) h1
  refine tz_if_eq (n := 7) (tgt := 30) (g_at ck_X3_isNumberTo 2 rfl) rfl rfl (by omega) (fun h4 => ?_) (fun h4 => ?_)
  · skip
    refine tz_iconst (n := 31) (g_at ck_X3_isNumberTo 14 rfl) rfl ?_
    exact tz_bret (g_at ck_X3_isNumberTo 15 rfl) rfl (by decide) (rI_mk ⟨rfl, hR1, by unfold nt9; rw [if_neg (by omega)]; exact hD1, by unfold nt9; rw [if_neg (by omega)]; exact (by omega), hF1⟩)
  · skip
    have hnm := nm9_1 (t := t) (n := n) (s := s) (by omega)
    have hDn : RD ρ m1 t n u s := by have h8 := hD1; rw [hnm.2.1] at h8; exact h8
    have hv9 := tv_rg hnm.1
    refine tz_aload0 (n := 8) (g_at ck_X3_isNumberTo 3 rfl) rfl (g_ne kd_37) ?_
    refine tz_getOv (n := 11) (a := 38) fk_X3_14 kd_37 (ly_37_0 hL) (g_at ck_X3_isNumberTo 4 rfl) rfl ?_
    refine tz_getIw (n := 14) (kz := 5) fk_X3_110 kd_38 (g_at ck_X3_isNumberTo 5 rfl) rfl rfl ?_
    rw [hDn.tk.v hnm.1]
    refine tz_iload1 (n := 15) (g_at ck_X3_isNumberTo 6 rfl) rfl ?_
    refine tz_icmp_le (n := 18) (tgt := 26) (g_at ck_X3_isNumberTo 7 rfl) rfl rfl ⟨by omega, by omega, by omega, by omega⟩ (fun h15 => ?_) (fun h15 => ?_)
    · skip
      refine tz_iconst (n := 27) (g_at ck_X3_isNumberTo 12 rfl) rfl ?_
      refine tz_goto (tgt := 31) (g_at ck_X3_isNumberTo 13 rfl) rfl ?_
      exact tz_bret (g_at ck_X3_isNumberTo 15 rfl) rfl (by decide) (rI_mk ⟨rfl, hR1, by unfold nt9; rw [if_pos (by omega), if_pos h15]; exact hDn, by unfold nt9; rw [if_pos (by omega), if_pos h15]; exact h1, hF1⟩)
    · skip
      refine tz_aload0 (n := 19) (g_at ck_X3_isNumberTo 8 rfl) rfl (g_ne kd_37) ?_
      refine tz_iconst (n := 20) (g_at ck_X3_isNumberTo 9 rfl) rfl ?_
      refine tz_cvI1 (n := 23) (μ' := μX3_fail) (cb' := 0) (sb' := 0) ml_X3_93 mo_X3_fail mv_X3_fail np_X3_fail kd_37 (g_at ck_X3_isNumberTo 10 rfl) (sp_fail hL hB hn hDn (by decide)) rfl rfl rfl ⟨by decide, by decide⟩ (Nat.le_of_ble_eq_true rfl) (by decide) (by decide) (fun x20 ρ9 m20 hq => ?_)
      obtain ⟨rfl, hR2, hD20, hx20, hF20⟩ := hq
      have hz20 : x20 = 0 := hx20.symm
      refine tz_if_eq (n := 26) (tgt := 30) (g_at ck_X3_isNumberTo 11 rfl) rfl rfl (by omega) (fun h23 => ?_) (fun h23 => absurd h23 (by omega))
      refine tz_iconst (n := 31) (g_at ck_X3_isNumberTo 14 rfl) rfl ?_
      exact tz_bret (g_at ck_X3_isNumberTo 15 rfl) rfl (by decide) (rI_mk ⟨rfl, hR2, by unfold nt9; rw [if_pos (by omega), if_neg h15]; exact hD20, by unfold nt9; rw [if_pos (by omega), if_neg h15]; exact rfl, hF1.tr hF20⟩)
theorem sq_isTold {l : Launch} {γ : Gh} {ρ m : Mm} {k : Int} {t : Int → Int} {n u : Int} {s : PS} (hL : LY ρ) (hB : BY t) (hn : 0 ≤ n ∧ n ≤ 700) (hD : RD ρ m t n u s) (h1 : s.1 = 1) (hk : -1 ≤ k ∧ k ≤ 10000) : gE l γ μX3_isTold 2 0 0 (rI KK fun x ρ9 m9 => ρ = ρ9 ∧ MR m9 ∧ RD ρ9 m9 t n u (td9 t n k s) ∧ (td9 t n k s).1 = x ∧ FE u m m9) xN KK ρ m [vR 37, vI k] := by
  refine gE.ofw cl_X3.2 ?_ rfl rfl (Nat.le_of_ble_eq_true rfl)
  show gT l γ μX3_isTold 2 0 0 _ _ KK ρ m 0 [some (vR 37), some (vI k)] []
  have hR := hD.r
  have hp := hD.p
  have hr9 := tk_rg (n := n) hB hp
  have hu4 := hD.u4
  unfold isR4 at hu4
  refine tz_aload0 (n := 1) (g_at ck_X3_isTold 0 rfl) rfl (g_ne kd_37) ?_
  refine tz_cvI0 (n := 4) (μ' := μX3_isNumber) (cb' := 0) (sb' := 0) ml_X3_107 mo_X3_isNumber mv_X3_isNumber np_X3_isNumber kd_37 (g_at ck_X3_isTold 1 rfl) (sp_isNumber hL hB hn hD h1) rfl rfl rfl ⟨by decide, by decide⟩ (Nat.le_of_ble_eq_true rfl) (by decide) (by decide) (fun x1 ρ9 m1 hq => ?_)
  obtain ⟨rfl, hR1, hD1, hx1, hF1⟩ := hq
  have ho1 := nm9_0 (t := t) (n := n) h1
  refine tz_if_eq (n := 7) (tgt := 30) (g_at ck_X3_isTold 2 rfl) rfl rfl (by omega) (fun h4 => ?_) (fun h4 => ?_)
  · skip
    refine tz_iconst (n := 31) (g_at ck_X3_isTold 14 rfl) rfl ?_
    exact tz_bret (g_at ck_X3_isTold 15 rfl) rfl (by decide) (rI_mk ⟨rfl, hR1, by unfold td9; rw [if_neg (by omega)]; exact hD1, by unfold td9; rw [if_neg (by omega)]; exact (by omega), hF1⟩)
  · skip
    have hnm := nm9_1 (t := t) (n := n) (s := s) (by omega)
    have hDn : RD ρ m1 t n u s := by have h8 := hD1; rw [hnm.2.1] at h8; exact h8
    have hv9 := tv_rg hnm.1
    refine tz_aload0 (n := 8) (g_at ck_X3_isTold 3 rfl) rfl (g_ne kd_37) ?_
    refine tz_getOv (n := 11) (a := 38) fk_X3_14 kd_37 (ly_37_0 hL) (g_at ck_X3_isTold 4 rfl) rfl ?_
    refine tz_getIw (n := 14) (kz := 5) fk_X3_110 kd_38 (g_at ck_X3_isTold 5 rfl) rfl rfl ?_
    rw [hDn.tk.v hnm.1]
    refine tz_iload1 (n := 15) (g_at ck_X3_isTold 6 rfl) rfl ?_
    refine tz_icmp_lt (n := 18) (tgt := 26) (g_at ck_X3_isTold 7 rfl) rfl rfl ⟨by omega, by omega, by omega, by omega⟩ (fun h15 => ?_) (fun h15 => ?_)
    · skip
      refine tz_iconst (n := 27) (g_at ck_X3_isTold 12 rfl) rfl ?_
      refine tz_goto (tgt := 31) (g_at ck_X3_isTold 13 rfl) rfl ?_
      exact tz_bret (g_at ck_X3_isTold 15 rfl) rfl (by decide) (rI_mk ⟨rfl, hR1, by unfold td9; rw [if_pos (by omega), if_pos h15]; exact hDn, by unfold td9; rw [if_pos (by omega), if_pos h15]; exact h1, hF1⟩)
    · skip
      refine tz_aload0 (n := 19) (g_at ck_X3_isTold 8 rfl) rfl (g_ne kd_37) ?_
      refine tz_iconst (n := 20) (g_at ck_X3_isTold 9 rfl) rfl ?_
      refine tz_cvI1 (n := 23) (μ' := μX3_fail) (cb' := 0) (sb' := 0) ml_X3_93 mo_X3_fail mv_X3_fail np_X3_fail kd_37 (g_at ck_X3_isTold 10 rfl) (sp_fail hL hB hn hDn (by decide)) rfl rfl rfl ⟨by decide, by decide⟩ (Nat.le_of_ble_eq_true rfl) (by decide) (by decide) (fun x20 ρ9 m20 hq => ?_)
      obtain ⟨rfl, hR2, hD20, hx20, hF20⟩ := hq
      have hz20 : x20 = 0 := hx20.symm
      refine tz_if_eq (n := 26) (tgt := 30) (g_at ck_X3_isTold 11 rfl) rfl rfl (by omega) (fun h23 => ?_) (fun h23 => absurd h23 (by omega))
      refine tz_iconst (n := 31) (g_at ck_X3_isTold 14 rfl) rfl ?_
      exact tz_bret (g_at ck_X3_isTold 15 rfl) rfl (by decide) (rI_mk ⟨rfl, hR2, by unfold td9; rw [if_pos (by omega), if_neg h15]; exact hD20, by unfold td9; rw [if_pos (by omega), if_neg h15]; exact rfl, hF1.tr hF20⟩)
