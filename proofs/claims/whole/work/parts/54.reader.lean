/-! Rules, as the class reads them. A state: whether all reads so far, where the token is, what is told, the fault and its place. -/
abbrev PS : Type := Int × Int × List Int × Int × Int
def sP (s : PS) : Int := s.2.1
def sL (s : PS) : List Int := s.2.2.1
def sF (s : PS) : Int := s.2.2.2.1
def sW (s : PS) : Int := s.2.2.2.2
def addL (L : List Int) (x : Int) : List Int := if L.length < 700 then L ++ [x] else L
def ad9 (x : Int) (s : PS) : PS := (s.1, sP s, addL (sL s) x, sF s, sW s)
noncomputable def fl9 (t : Int → Int) (n k : Int) (s : PS) : PS := (0, sP s, sL s, k, tA t n (sP s))
noncomputable def nx9 (t : Int → Int) (n : Int) (s : PS) : PS := (s.1, tQ t n (sP s), sL s, sF s, sW s)
def at9 (p : Int) (s : PS) : PS := (s.1, p, sL s, sF s, sW s)
noncomputable def sg9 (t : Int → Int) (n c : Int) (s : PS) : PS := if tK t n (sP s) = c then nx9 t n s else fl9 t n 1 s
noncomputable def nm9 (t : Int → Int) (n : Int) (s : PS) : PS := if tK t n (sP s) = 2 then (if 4 < tQ t n (sP s) - tA t n (sP s) then fl9 t n 2 s else s) else fl9 t n 1 s
noncomputable def vl9 (t : Int → Int) (n p : Int) : Int := if wdI t n p 5 = 1 then -1 else if wdI t n p 8 = 1 then -2 else if wdI t n p 9 = 1 then -3 else if wdI t n p 10 = 1 then -4 else if wdI t n p 11 = 1 then -5 else 0
noncomputable def va9 (t : Int → Int) (n : Int) (s : PS) : PS := if vl9 t n (sP s) = 0 then fl9 t n 3 s else nx9 t n (ad9 (vl9 t n (sP s)) s)
noncomputable def pt9 (t : Int → Int) (n : Int) (E : PS → PS) (s : PS) : PS := if tK t n (sP s) = 40 then (if (E (nx9 t n s)).1 = 1 then sg9 t n 41 (E (nx9 t n s)) else E (nx9 t n s)) else if tK t n (sP s) = 1 then va9 t n s else if (nm9 t n s).1 = 1 then ad9 (tV t n (sP s)) (nx9 t n s) else nm9 t n s
noncomputable def tP9 (t : Int → Int) (n p : Int) : Int := if tK t n p = 42 then -13 else if tK t n p = 47 then -14 else 0
noncomputable def tS9 (t : Int → Int) (n p : Int) : Int := if tK t n p = 43 then -11 else if tK t n p = 45 then -12 else 0
noncomputable def tT9 (t : Int → Int) (n p : Int) : Int := if tK t n p = 60 then -9 else if tK t n p = 61 then -10 else 0
noncomputable def tN9 (t : Int → Int) (n p : Int) : Int := if wdI t n p 12 = 1 then -7 else 0
noncomputable def tO9 (t : Int → Int) (n p : Int) : Int := if wdI t n p 13 = 1 then -6 else 0
noncomputable def st9 (t : Int → Int) (n : Int) (tst : Int → Int) (F : PS → PS) (s : PS) : PS := if s.1 = 1 ∧ tst (sP s) ≠ 0 then ad9 (tst (sP s)) (F (nx9 t n s)) else s
noncomputable def ch9 (t : Int → Int) (n : Int) (tst : Int → Int) (F : PS → PS) (s : PS) (k : Nat) : PS := fd (fun _ z => st9 t n tst F z) (F s) k
theorem ch9_stay {t : Int → Int} {n : Int} {tst : Int → Int} {F : PS → PS} {s : PS} {i : Nat} (h : st9 t n tst F (ch9 t n tst F s i) = ch9 t n tst F s i) : ∀ k : Nat, i ≤ k → ch9 t n tst F s k = ch9 t n tst F s i
  | 0, hk => by
    have : i = 0 := by omega
    rw [this]
  | k + 1, hk => by
    by_cases e : i = k + 1
    · rw [e]
    · have ih := ch9_stay h k (by omega)
      show st9 t n tst F (ch9 t n tst F s k) = _
      rw [ih]
      exact h
noncomputable def no9 (t : Int → Int) (n p : Int) (k : Nat) : Int × Int := fd (fun _ q => if wdI t n q.2 7 = 1 then (q.1 + 1, tQ t n q.2) else q) (0, p) k
def aN9 (k : Nat) (s : PS) : PS := fd (fun _ z => ad9 (-8) z) s k
noncomputable def pn9 (t : Int → Int) (n : Int) (G : PS → PS) (s : PS) : PS := if (no9 t n (sP s) 6).1 = 6 ∧ wdI t n (no9 t n (sP s) 6).2 7 = 1 then fl9 t n 2 (at9 (no9 t n (sP s) 6).2 s) else aN9 (no9 t n (sP s) 6).1.toNat (G (at9 (no9 t n (sP s) 6).2 s))
noncomputable def bd9 (t : Int → Int) (n : Int) (E : PS → PS) (s : PS) : PS := ch9 t n (tO9 t n) (fun z => ch9 t n (tN9 t n) (pn9 t n (fun y => ch9 t n (tT9 t n) (fun x => ch9 t n (tS9 t n) (fun w => ch9 t n (tP9 t n) (pt9 t n E) w 700) x 700) y 1)) z 700) s 700
noncomputable def cb9 (t : Int → Int) (n p : Int) : Int := if tK t n p = 2 ∨ tK t n p = 1 ∨ tK t n p = 40 then 1 else 0
noncomputable def ex9 (t : Int → Int) (n : Int) : Nat → PS → PS
  | 0, s => if cb9 t n (sP s) = 1 then fl9 t n 2 s else bd9 t n (fun z => z) s
  | k + 1, s => bd9 t n (ex9 t n k) s
def RlC (m : Mm) (u : Int) (L : List Int) : Prop := m u 2 = (L.length : Int) ∧ L.length ≤ 700 ∧ ∀ i : Nat, (h : i < L.length) → m (u + 1) (i : Int) = L[i]
def isR4 (u : Int) : Prop := u = 9 ∨ u = 12 ∨ u = 26 ∨ u = 29
/-- the reader stands so -/
def RD (ρ m : Mm) (t : Int → Int) (n u : Int) (s : PS) : Prop := MR m ∧ ρ 37 2 = u ∧ isR4 u ∧ TokC m t n (sP s) ∧ (0 ≤ sP s ∧ sP s ≤ n) ∧ RlC m u (sL s) ∧ m 37 4 = sF s ∧ m 37 5 = sW s ∧ (s.1 = 0 ∨ s.1 = 1)
def FE (u : Int) (m m9 : Mm) : Prop := (∀ a, a ≠ 38 → a ≠ u → a ≠ u + 1 → a ≠ 37 → m9 a = m a) ∧ ∀ k, k ≠ 4 → k ≠ 5 → m9 37 k = m 37 k
theorem FE.rf {u : Int} {m : Mm} : FE u m m := ⟨fun _ _ _ _ _ => rfl, fun _ _ _ => rfl⟩
theorem FE.tr {u : Int} {a b c : Mm} (h : FE u a b) (k : FE u b c) : FE u a c := ⟨fun x h1 h2 h3 h4 => (k.1 x h1 h2 h3 h4).trans (h.1 x h1 h2 h3 h4), fun x h1 h2 => (k.2 x h1 h2).trans (h.2 x h1 h2)⟩
theorem FE.tok {u : Int} {m m9 : Mm} (h : Fr [38] m m9) : FE u m m9 := ⟨fun a h1 _ _ _ => h a (by simp; exact h1), fun k _ _ => by rw [h 37 (by decide)]⟩
def addM (m : Mm) (u x : Int) : Mm := if m u 2 < 700 then wr (wr m (u + 1) (m u 2) x) u 2 (m u 2 + 1) else m
theorem addM_ne {m : Mm} {u x a : Int} (h1 : a ≠ u) (h2 : a ≠ u + 1) : addM m u x a = m a := by
  unfold addM
  split
  · rw [wr_ne h1, wr_ne h2]
  · rfl
theorem FE.add {u x : Int} {m : Mm} (hu : isR4 u) : FE u m (addM m u x) := ⟨fun a _ h2 h3 _ => addM_ne h2 h3, fun k _ _ => by rw [addM_ne (by unfold isR4 at hu; omega) (by unfold isR4 at hu; omega)]⟩
theorem RlC.add {m : Mm} {u x : Int} {L : List Int} (h : RlC m u L) : RlC (addM m u x) u (addL L x) := by
  obtain ⟨h1, h2, h3⟩ := h
  unfold addM addL
  by_cases c : L.length < 700
  · rw [if_pos (by omega), if_pos c]
    refine ⟨by rw [wr_same, h1, List.length_append]; rfl, by rw [List.length_append]; exact c, fun i hi => ?_⟩
    rw [wr_ne (by omega), wr_at, h1]
    rw [List.length_append] at hi
    by_cases e : i = L.length
    · subst e
      rw [if_pos rfl]
      simp
    · have hi2 : i < L.length := by
        have : [x].length = 1 := rfl
        omega
      rw [if_neg (by omega), h3 i hi2, List.getElem_append_left hi2]
  · rw [if_neg (by omega), if_neg c]
    exact ⟨h1, h2, h3⟩
theorem RlC.fr {m m9 : Mm} {u : Int} {L : List Int} (h : RlC m u L) (h1 : m9 u = m u) (h2 : m9 (u + 1) = m (u + 1)) : RlC m9 u L := ⟨by rw [h1]; exact h.1, h.2.1, fun i hi => by rw [h2]; exact h.2.2 i hi⟩
section
variable {ρ m m9 : Mm} {t : Int → Int} {n u : Int} {s : PS}
theorem RD.r (h : RD ρ m t n u s) : MR m := h.1
theorem RD.ru (h : RD ρ m t n u s) : ρ 37 2 = u := h.2.1
theorem RD.u4 (h : RD ρ m t n u s) : isR4 u := h.2.2.1
theorem RD.tk (h : RD ρ m t n u s) : TokC m t n (sP s) := h.2.2.2.1
theorem RD.p (h : RD ρ m t n u s) : 0 ≤ sP s ∧ sP s ≤ n := h.2.2.2.2.1
theorem RD.l (h : RD ρ m t n u s) : RlC m u (sL s) := h.2.2.2.2.2.1
theorem RD.f (h : RD ρ m t n u s) : m 37 4 = sF s := h.2.2.2.2.2.2.1
theorem RD.w (h : RD ρ m t n u s) : m 37 5 = sW s := h.2.2.2.2.2.2.2.1
theorem RD.o (h : RD ρ m t n u s) : s.1 = 0 ∨ s.1 = 1 := h.2.2.2.2.2.2.2.2
theorem RD.nx (h : RD ρ m t n u s) (hB : BY t) (hR : MR m9) (hF : Fr [38] m m9) (hC : TokC m9 t n (tQ t n (sP s))) : RD ρ m9 t n u (nx9 t n s) := by
  have h4 := h.u4
  have hr := tk_rg (n := n) hB h.p
  have hp := h.p
  unfold isR4 at h4
  refine ⟨hR, h.ru, h.u4, hC, ⟨by show 0 ≤ tQ t n (sP s); omega, by show tQ t n (sP s) ≤ n; omega⟩, h.l.fr (hF _ (by simp; omega)) (hF _ (by simp; omega)), ?_, ?_, h.o⟩
  · rw [hF 37 (by decide)]; exact h.f
  · rw [hF 37 (by decide)]; exact h.w
theorem RD.fl (h : RD ρ m t n u s) (hR : MR m9) {k : Int} (hm : m9 = wr (wr m 37 4 k) 37 5 (tA t n (sP s))) : RD ρ m9 t n u (fl9 t n k s) := by
  have h4 := h.u4
  unfold isR4 at h4
  subst hm
  refine ⟨hR, h.ru, h.u4, h.tk.fr (by rw [wr_ne (by decide), wr_ne (by decide)]) (by rw [wr_ne (by decide), wr_ne (by decide)]), h.p, h.l.fr (by rw [wr_ne (by omega), wr_ne (by omega)]) (by rw [wr_ne (by omega), wr_ne (by omega)]), ?_, wr_same, Or.inl rfl⟩
  rw [wr_at, if_neg (by decide), wr_same]
  rfl
theorem RD.ad (h : RD ρ m t n u s) {x : Int} (hR : MR (addM m u x)) : RD ρ (addM m u x) t n u (ad9 x s) := by
  have h4 := h.u4
  unfold isR4 at h4
  refine ⟨hR, h.ru, h.u4, h.tk.fr (addM_ne (by omega) (by omega)) (addM_ne (by omega) (by omega)), h.p, h.l.add, ?_, ?_, h.o⟩
  · rw [addM_ne (by omega) (by omega)]; exact h.f
  · rw [addM_ne (by omega) (by omega)]; exact h.w
theorem FE.fl {k w : Int} : FE u m (wr (wr m 37 4 k) 37 5 w) := ⟨fun a _ _ _ h4 => by rw [wr_ne h4, wr_ne h4], fun j h4 h5 => by rw [wr_at, if_neg h5, wr_at, if_neg h4]⟩
end
theorem isU_r4 {ρ : Mm} {u : Int} (hL : LY ρ) (h : isR4 u) : isU ρ u := by
  rcases h with rfl | rfl | rfl | rfl
  · exact isU_9 hL
  · exact isU_12 hL
  · exact isU_26 hL
  · exact isU_29 hL
theorem sp_ruleAddT {l : Launch} {γ : Gh} {ρ m : Mm} {u x : Int} (hU : isU ρ u) (hR : MR m) (hl : 0 ≤ m u 2 ∧ m u 2 ≤ 700) (hx : -2147483648 ≤ x ∧ x < 2147483648) : gE l γ μX4_add 0 0 0 (rV KK fun ρ9 m9 => ρ = ρ9 ∧ MR m9 ∧ addM m u x = m9) xN KK ρ m [vR u, vI x] := by
  refine gE.ofw cl_X4.2 ?_ rfl rfl (Nat.le_of_ble_eq_true rfl)
  show gT l γ μX4_add 0 0 0 _ _ KK ρ m 0 [some (vR u), some (vI x)] []
  refine tz_aload0 (n := 1) (g_at ck_X4_add 0 rfl) rfl (g_ne hU.k0) ?_
  refine tz_getIw (n := 4) (kz := 2) fk_X4_18 hU.k0 (g_at ck_X4_add 1 rfl) rfl rfl ?_
  refine tz_aload0 (n := 5) (g_at ck_X4_add 2 rfl) rfl (g_ne hU.k0) ?_
  refine tz_getAv (n := 8) (a := (u + 1)) fk_X4_9 hU.k0 hU.r0_0 (g_at ck_X4_add 3 rfl) rfl ?_
  refine tz_alen (n := 9) hU.k1 (g_at ck_X4_add 4 rfl) rfl ?_
  refine tz_icmp_ge (n := 12) (tgt := 32) (g_at ck_X4_add 5 rfl) rfl rfl ⟨by omega, by omega, by decide, by decide⟩ (fun h9 => ?_) (fun h9 => ?_)
  · skip
    exact tz_vret (g_at ck_X4_add 18 rfl) rfl (rV_mk ⟨rfl, hR, if_neg (by omega)⟩)
  · skip
    refine tz_aload0 (n := 13) (g_at ck_X4_add 6 rfl) rfl (g_ne hU.k0) ?_
    refine tz_getAv (n := 16) (a := (u + 1)) fk_X4_9 hU.k0 hU.r0_0 (g_at ck_X4_add 7 rfl) rfl ?_
    refine tz_aload0 (n := 17) (g_at ck_X4_add 8 rfl) rfl (g_ne hU.k0) ?_
    refine tz_getIw (n := 20) (kz := 2) fk_X4_18 hU.k0 (g_at ck_X4_add 9 rfl) rfl rfl ?_
    refine tz_iload1 (n := 21) (g_at ck_X4_add 10 rfl) rfl ?_
    refine tz_iastr (n := 22) hU.k1 (by omega) (g_at ck_X4_add 11 rfl) rfl hR ⟨hx.1, hx.2⟩ (fun hR1 => ?_)
    refine tz_aload0 (n := 23) (g_at ck_X4_add 12 rfl) rfl (g_ne hU.k0) ?_
    refine tz_dupR (n := 24) (g_at ck_X4_add 13 rfl) rfl ?_
    refine tz_getIw (n := 27) (kz := 2) fk_X4_18 hU.k0 (g_at ck_X4_add 14 rfl) rfl rfl ?_
    rw [wr_ne (show u ≠ u + 1 by omega)]
    refine tz_iconst (n := 28) (g_at ck_X4_add 15 rfl) rfl ?_
    refine tz_iadd (n := 29) (g_at ck_X4_add 16 rfl) rfl ?_
    refine tz_putIr (n := 32) (kz := 2) fk_X4_18 hU.k0 (g_at ck_X4_add 17 rfl) rfl hR1 (by omega) rfl (fun hR2 => ?_)
    exact tz_vret (g_at ck_X4_add 18 rfl) rfl (rV_mk ⟨rfl, hR2, if_pos (by omega)⟩)
theorem sp_ruleAddVT {l : Launch} {γ : Gh} {ρ m : Mm} {u x : Int} (hU : isU ρ u) (hR : MR m) (hl : 0 ≤ m u 2 ∧ m u 2 ≤ 700) (hx : 0 ≤ x ∧ x < 5) : gE l γ μX4_addValue 1 0 0 (rV KK fun ρ9 m9 => ρ = ρ9 ∧ MR m9 ∧ addM m u (-1 - x) = m9) xN KK ρ m [vR u, vI x] := by
  refine gE.ofw cl_X4.2 ?_ rfl rfl (Nat.le_of_ble_eq_true rfl)
  show gT l γ μX4_addValue 1 0 0 _ _ KK ρ m 0 [some (vR u), some (vI x)] []
  refine tz_aload0 (n := 1) (g_at ck_X4_addValue 0 rfl) rfl (g_ne hU.k0) ?_
  refine tz_iconst (n := 2) (g_at ck_X4_addValue 1 rfl) rfl ?_
  refine tz_iload1 (n := 3) (g_at ck_X4_addValue 2 rfl) rfl ?_
  refine tz_isub (n := 4) (g_at ck_X4_addValue 3 rfl) rfl ?_
  refine tz_cvV1 (n := 7) (μ' := μX4_add) (cb' := 0) (sb' := 0) ml_X4_22 mo_X4_add mv_X4_add np_X4_add hU.k0 (g_at ck_X4_addValue 4 rfl) (sp_ruleAddT hU hR hl (by omega)) rfl rfl rfl ⟨by decide, by decide⟩ (Nat.le_of_ble_eq_true rfl) (by decide) (by decide) (fun ρ9 m4 hq => ?_)
  obtain ⟨rfl, hR1, rfl⟩ := hq
  exact tz_vret (g_at ck_X4_addValue 5 rfl) rfl (rV_mk ⟨rfl, hR1, rfl⟩)
theorem sp_fail {l : Launch} {γ : Gh} {ρ m : Mm} {k : Int} {t : Int → Int} {n u : Int} {s : PS} (hL : LY ρ) (hB : BY t) (hn : 0 ≤ n ∧ n ≤ 700) (hD : RD ρ m t n u s) (hk : 0 ≤ k ∧ k ≤ 5) : gE l γ μX3_fail 0 0 0 (rI KK fun x ρ9 m9 => ρ = ρ9 ∧ MR m9 ∧ RD ρ9 m9 t n u (fl9 t n k s) ∧ (fl9 t n k s).1 = x ∧ FE u m m9) xN KK ρ m [vR 37, vI k] := by
  refine gE.ofw cl_X3.2 ?_ rfl rfl (Nat.le_of_ble_eq_true rfl)
  show gT l γ μX3_fail 0 0 0 _ _ KK ρ m 0 [some (vR 37), some (vI k)] []
  have hR := hD.r
  have hp := hD.p
  have hr9 := tk_rg (n := n) hB hp
  have hu4 := hD.u4
  unfold isR4 at hu4
  refine tz_aload0 (n := 1) (g_at ck_X3_fail 0 rfl) rfl (g_ne kd_37) ?_
  refine tz_iload1 (n := 2) (g_at ck_X3_fail 1 rfl) rfl ?_
  refine tz_putIr (n := 5) (kz := 4) fk_X3_40 kd_37 (g_at ck_X3_fail 2 rfl) rfl hR (by omega) rfl (fun hR1 => ?_)
  refine tz_aload0 (n := 6) (g_at ck_X3_fail 3 rfl) rfl (g_ne kd_37) ?_
  refine tz_aload0 (n := 7) (g_at ck_X3_fail 4 rfl) rfl (g_ne kd_37) ?_
  refine tz_getOv (n := 10) (a := 38) fk_X3_14 kd_37 (ly_37_0 hL) (g_at ck_X3_fail 5 rfl) rfl ?_
  refine tz_getIw (n := 13) (kz := 4) fk_X3_54 kd_38 (g_at ck_X3_fail 6 rfl) rfl rfl ?_
  rw [wr_ne (show (38 : Int) ≠ 37 by decide), hD.tk.a]
  refine tz_putIr (n := 16) (kz := 5) fk_X3_57 kd_37 (g_at ck_X3_fail 7 rfl) rfl hR1 (by omega) rfl (fun hR2 => ?_)
  refine tz_iconst (n := 17) (g_at ck_X3_fail 8 rfl) rfl ?_
  exact tz_bret (g_at ck_X3_fail 9 rfl) rfl (by decide) (rI_mk ⟨rfl, hR2, hD.fl hR2 rfl, rfl, FE.fl⟩)
theorem sp_readSign {l : Launch} {γ : Gh} {ρ m : Mm} {c : Int} {t : Int → Int} {n u : Int} {s : PS} (hL : LY ρ) (hB : BY t) (hn : 0 ≤ n ∧ n ≤ 700) (hD : RD ρ m t n u s) (h1 : s.1 = 1) (hc : 0 ≤ c ∧ c < 256) : gE l γ μX3_readSign 7 0 0 (rI KK fun x ρ9 m9 => ρ = ρ9 ∧ MR m9 ∧ RD ρ9 m9 t n u (sg9 t n c s) ∧ (sg9 t n c s).1 = x ∧ FE u m m9) xN KK ρ m [vR 37, vI c] := by
  refine gE.ofw cl_X3.2 ?_ rfl rfl (Nat.le_of_ble_eq_true rfl)
  show gT l γ μX3_readSign 7 0 0 _ _ KK ρ m 0 [some (vR 37), some (vI c)] []
  have hR := hD.r
  have hp := hD.p
  have hr9 := tk_rg (n := n) hB hp
  have hu4 := hD.u4
  unfold isR4 at hu4
  refine tz_aload0 (n := 1) (g_at ck_X3_readSign 0 rfl) rfl (g_ne kd_37) ?_
  refine tz_getOv (n := 4) (a := 38) fk_X3_14 kd_37 (ly_37_0 hL) (g_at ck_X3_readSign 1 rfl) rfl ?_
  refine tz_getIw (n := 7) (kz := 3) fk_X3_47 kd_38 (g_at ck_X3_readSign 2 rfl) rfl rfl ?_
  rw [hD.tk.k]
  refine tz_iload1 (n := 8) (g_at ck_X3_readSign 3 rfl) rfl ?_
  refine tz_icmp_eq (n := 11) (tgt := 17) (g_at ck_X3_readSign 4 rfl) rfl rfl ⟨by omega, by omega, by omega, by omega⟩ (fun h8 => ?_) (fun h8 => ?_)
  · skip
    refine tz_aload0 (n := 18) (g_at ck_X3_readSign 9 rfl) rfl (g_ne kd_37) ?_
    refine tz_getOv (n := 21) (a := 38) fk_X3_14 kd_37 (ly_37_0 hL) (g_at ck_X3_readSign 10 rfl) rfl ?_
    refine tz_cvV0 (n := 24) (μ' := μX7_advance) (cb' := 0) (sb' := 0) ml_X3_101 mo_X7_advance mv_X7_advance np_X7_advance kd_38 (g_at ck_X3_readSign 11 rfl) (sp_advance hL hR hB hn (show 0 ≤ tQ t n (sP s) ∧ tQ t n (sP s) ≤ n by omega) hD.tk.1 hD.tk.2.1 hD.tk.q) rfl rfl rfl ⟨by decide, by decide⟩ (Nat.le_of_ble_eq_true rfl) (by decide) (by decide) (fun ρ9 m21 hq => ?_)
    obtain ⟨rfl, hR1, hF21, hC21⟩ := hq
    have hD21 := hD.nx hB hR1 hF21 hC21
    have hE21 : FE u m m21 := FE.tok hF21
    refine tz_iconst (n := 25) (g_at ck_X3_readSign 12 rfl) rfl ?_
    exact tz_bret (g_at ck_X3_readSign 13 rfl) rfl (by decide) (rI_mk ⟨rfl, hR1, by unfold sg9; rw [if_pos h8]; exact hD21, by unfold sg9; rw [if_pos h8]; exact h1, hE21⟩)
  · skip
    refine tz_aload0 (n := 12) (g_at ck_X3_readSign 5 rfl) rfl (g_ne kd_37) ?_
    refine tz_iconst (n := 13) (g_at ck_X3_readSign 6 rfl) rfl ?_
    refine tz_cvI1 (n := 16) (μ' := μX3_fail) (cb' := 0) (sb' := 0) ml_X3_93 mo_X3_fail mv_X3_fail np_X3_fail kd_37 (g_at ck_X3_readSign 7 rfl) (sp_fail hL hB hn hD (by decide)) rfl rfl rfl ⟨by decide, by decide⟩ (Nat.le_of_ble_eq_true rfl) (by decide) (by decide) (fun x13 ρ9 m13 hq => ?_)
    obtain ⟨rfl, hR2, hD13, hx13, hF13⟩ := hq
    have hz13 : x13 = 0 := hx13.symm
    exact tz_bret (g_at ck_X3_readSign 8 rfl) rfl (Or.inl hz13) (rI_mk ⟨rfl, hR2, by unfold sg9; rw [if_neg h8]; exact hD13, by unfold sg9; rw [if_neg h8]; exact hx13, hF13⟩)
theorem sp_isNumber {l : Launch} {γ : Gh} {ρ m : Mm} {t : Int → Int} {n u : Int} {s : PS} (hL : LY ρ) (hB : BY t) (hn : 0 ≤ n ∧ n ≤ 700) (hD : RD ρ m t n u s) (h1 : s.1 = 1) : gE l γ μX3_isNumber 1 0 0 (rI KK fun x ρ9 m9 => ρ = ρ9 ∧ MR m9 ∧ RD ρ9 m9 t n u (nm9 t n s) ∧ (nm9 t n s).1 = x ∧ FE u m m9) xN KK ρ m [vR 37] := by
  refine gE.ofw cl_X3.2 ?_ rfl rfl (Nat.le_of_ble_eq_true rfl)
  show gT l γ μX3_isNumber 1 0 0 _ _ KK ρ m 0 [some (vR 37)] []
  have hR := hD.r
  have hp := hD.p
  have hr9 := tk_rg (n := n) hB hp
  have hu4 := hD.u4
  unfold isR4 at hu4
  refine tz_aload0 (n := 1) (g_at ck_X3_isNumber 0 rfl) rfl (g_ne kd_37) ?_
  refine tz_getOv (n := 4) (a := 38) fk_X3_14 kd_37 (ly_37_0 hL) (g_at ck_X3_isNumber 1 rfl) rfl ?_
  refine tz_getIw (n := 7) (kz := 3) fk_X3_47 kd_38 (g_at ck_X3_isNumber 2 rfl) rfl rfl ?_
  rw [hD.tk.k]
  refine tz_iconst (n := 8) (g_at ck_X3_isNumber 3 rfl) rfl ?_
  refine tz_icmp_eq (n := 11) (tgt := 17) (g_at ck_X3_isNumber 4 rfl) rfl rfl ⟨by omega, by omega, by decide, by decide⟩ (fun h8 => ?_) (fun h8 => ?_)
  · skip
    refine tz_aload0 (n := 18) (g_at ck_X3_isNumber 9 rfl) rfl (g_ne kd_37) ?_
    refine tz_getOv (n := 21) (a := 38) fk_X3_14 kd_37 (ly_37_0 hL) (g_at ck_X3_isNumber 10 rfl) rfl ?_
    refine tz_cvI0 (n := 24) (μ' := μX7_isTooLong) (cb' := 0) (sb' := 0) ml_X3_104 mo_X7_isTooLong mv_X7_isTooLong np_X7_isTooLong kd_38 (g_at ck_X3_isNumber 11 rfl) (sp_isTooLong hR hB hn hp hD.tk) rfl rfl rfl ⟨by decide, by decide⟩ (Nat.le_of_ble_eq_true rfl) (by decide) (by decide) (fun x21 ρ9 m21 hq => ?_)
    obtain ⟨rfl, hR1, rfl, rfl⟩ := hq
    refine tz_if_eq (n := 27) (tgt := 35) (g_at ck_X3_isNumber 12 rfl) rfl rfl (by split <;> decide) (fun h24 => ?_) (fun h24 => ?_)
    · skip
      refine tz_iconst (n := 36) (g_at ck_X3_isNumber 17 rfl) rfl ?_
      refine tz_goto (tgt := 40) (g_at ck_X3_isNumber 18 rfl) rfl ?_
      exact tz_bret (g_at ck_X3_isNumber 20 rfl) rfl (by decide) (rI_mk ⟨rfl, hR1, by unfold nm9; rw [if_pos h8, if_neg (ite10n h24)]; exact hD, by unfold nm9; rw [if_pos h8, if_neg (ite10n h24)]; exact h1, FE.rf⟩)
    · skip
      refine tz_aload0 (n := 28) (g_at ck_X3_isNumber 13 rfl) rfl (g_ne kd_37) ?_
      refine tz_iconst (n := 29) (g_at ck_X3_isNumber 14 rfl) rfl ?_
      refine tz_cvI1 (n := 32) (μ' := μX3_fail) (cb' := 0) (sb' := 0) ml_X3_93 mo_X3_fail mv_X3_fail np_X3_fail kd_37 (g_at ck_X3_isNumber 15 rfl) (sp_fail hL hB hn hD (by decide)) rfl rfl rfl ⟨by decide, by decide⟩ (Nat.le_of_ble_eq_true rfl) (by decide) (by decide) (fun x29 ρ9 m29 hq => ?_)
      obtain ⟨rfl, hR2, hD29, hx29, hF29⟩ := hq
      have hz29 : x29 = 0 := hx29.symm
      refine tz_if_eq (n := 35) (tgt := 39) (g_at ck_X3_isNumber 16 rfl) rfl rfl (by omega) (fun h32 => ?_) (fun h32 => absurd h32 (by omega))
      refine tz_iconst (n := 40) (g_at ck_X3_isNumber 19 rfl) rfl ?_
      exact tz_bret (g_at ck_X3_isNumber 20 rfl) rfl (by decide) (rI_mk ⟨rfl, hR2, by unfold nm9; rw [if_pos h8, if_pos (ite10 h24)]; exact hD29, by unfold nm9; rw [if_pos h8, if_pos (ite10 h24)]; rfl, hF29⟩)
  · skip
    refine tz_aload0 (n := 12) (g_at ck_X3_isNumber 5 rfl) rfl (g_ne kd_37) ?_
    refine tz_iconst (n := 13) (g_at ck_X3_isNumber 6 rfl) rfl ?_
    refine tz_cvI1 (n := 16) (μ' := μX3_fail) (cb' := 0) (sb' := 0) ml_X3_93 mo_X3_fail mv_X3_fail np_X3_fail kd_37 (g_at ck_X3_isNumber 7 rfl) (sp_fail hL hB hn hD (by decide)) rfl rfl rfl ⟨by decide, by decide⟩ (Nat.le_of_ble_eq_true rfl) (by decide) (by decide) (fun x13 ρ9 m13 hq => ?_)
    obtain ⟨rfl, hR3, hD13, hx13, hF13⟩ := hq
    have hz13 : x13 = 0 := hx13.symm
    exact tz_bret (g_at ck_X3_isNumber 8 rfl) rfl (Or.inl hz13) (rI_mk ⟨rfl, hR3, by unfold nm9; rw [if_neg h8]; exact hD13, by unfold nm9; rw [if_neg h8]; exact hx13, hF13⟩)
theorem sp_canBegin {l : Launch} {γ : Gh} {ρ m : Mm} {t : Int → Int} {n u : Int} {s : PS} (hL : LY ρ) (hB : BY t) (hn : 0 ≤ n ∧ n ≤ 700) (hD : RD ρ m t n u s) : gE l γ μX3_canBegin 0 0 0 (rI KK fun x ρ9 m9 => ρ = ρ9 ∧ MR m9 ∧ cb9 t n (sP s) = x ∧ m = m9) xN KK ρ m [vR 37] := by
  refine gE.ofw cl_X3.2 ?_ rfl rfl (Nat.le_of_ble_eq_true rfl)
  show gT l γ μX3_canBegin 0 0 0 _ _ KK ρ m 0 [some (vR 37)] []
  have hR := hD.r
  have hp := hD.p
  have hr9 := tk_rg (n := n) hB hp
  have hu4 := hD.u4
  unfold isR4 at hu4
  refine tz_aload0 (n := 1) (g_at ck_X3_canBegin 0 rfl) rfl (g_ne kd_37) ?_
  refine tz_getOv (n := 4) (a := 38) fk_X3_14 kd_37 (ly_37_0 hL) (g_at ck_X3_canBegin 1 rfl) rfl ?_
  refine tz_getIw (n := 7) (kz := 3) fk_X3_47 kd_38 (g_at ck_X3_canBegin 2 rfl) rfl rfl ?_
  rw [hD.tk.k]
  refine tz_iconst (n := 8) (g_at ck_X3_canBegin 3 rfl) rfl ?_
  refine tz_icmp_eq (n := 11) (tgt := 34) (g_at ck_X3_canBegin 4 rfl) rfl rfl ⟨by omega, by omega, by decide, by decide⟩ (fun h8 => ?_) (fun h8 => ?_)
  · skip
    refine tz_iconst (n := 35) (g_at ck_X3_canBegin 15 rfl) rfl ?_
    refine tz_goto (tgt := 39) (g_at ck_X3_canBegin 16 rfl) rfl ?_
    exact tz_bret (g_at ck_X3_canBegin 18 rfl) rfl (by decide) (rI_mk ⟨rfl, hR, if_pos (by omega), rfl⟩)
  · skip
    refine tz_aload0 (n := 12) (g_at ck_X3_canBegin 5 rfl) rfl (g_ne kd_37) ?_
    refine tz_getOv (n := 15) (a := 38) fk_X3_14 kd_37 (ly_37_0 hL) (g_at ck_X3_canBegin 6 rfl) rfl ?_
    refine tz_getIw (n := 18) (kz := 3) fk_X3_47 kd_38 (g_at ck_X3_canBegin 7 rfl) rfl rfl ?_
    rw [hD.tk.k]
    refine tz_iconst (n := 19) (g_at ck_X3_canBegin 8 rfl) rfl ?_
    refine tz_icmp_eq (n := 22) (tgt := 34) (g_at ck_X3_canBegin 9 rfl) rfl rfl ⟨by omega, by omega, by decide, by decide⟩ (fun h19 => ?_) (fun h19 => ?_)
    · skip
      refine tz_iconst (n := 35) (g_at ck_X3_canBegin 15 rfl) rfl ?_
      refine tz_goto (tgt := 39) (g_at ck_X3_canBegin 16 rfl) rfl ?_
      exact tz_bret (g_at ck_X3_canBegin 18 rfl) rfl (by decide) (rI_mk ⟨rfl, hR, if_pos (by omega), rfl⟩)
    · skip
      refine tz_aload0 (n := 23) (g_at ck_X3_canBegin 10 rfl) rfl (g_ne kd_37) ?_
      refine tz_getOv (n := 26) (a := 38) fk_X3_14 kd_37 (ly_37_0 hL) (g_at ck_X3_canBegin 11 rfl) rfl ?_
      refine tz_getIw (n := 29) (kz := 3) fk_X3_47 kd_38 (g_at ck_X3_canBegin 12 rfl) rfl rfl ?_
      rw [hD.tk.k]
      refine tz_bipush (n := 31) (g_at ck_X3_canBegin 13 rfl) rfl rfl ?_
      refine tz_icmp_ne (n := 34) (tgt := 38) (g_at ck_X3_canBegin 14 rfl) rfl rfl ⟨by omega, by omega, by decide, by decide⟩ (fun h31 => ?_) (fun h31 => ?_)
      · skip
        refine tz_iconst (n := 39) (g_at ck_X3_canBegin 17 rfl) rfl ?_
        exact tz_bret (g_at ck_X3_canBegin 18 rfl) rfl (by decide) (rI_mk ⟨rfl, hR, if_neg (by omega), rfl⟩)
      · skip
        refine tz_iconst (n := 35) (g_at ck_X3_canBegin 15 rfl) rfl ?_
        refine tz_goto (tgt := 39) (g_at ck_X3_canBegin 16 rfl) rfl ?_
        exact tz_bret (g_at ck_X3_canBegin 18 rfl) rfl (by decide) (rI_mk ⟨rfl, hR, if_pos (by omega), rfl⟩)
