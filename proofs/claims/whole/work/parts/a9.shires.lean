/-! A shire on both sides. -/
theorem wl_shire2 {l : Launch} {γ : Gh} {ρ m : Mm} {d mc ms : Nat} {a cd : Int} {Q : Int → Mm → Mm → Prop} (hE : gE l γ μX10_shire d mc ms (rI KK Q) (xC ρ m cd) KK ρ m [vR 1, vI a]) (hcd : cd ≠ 1) : gE l γ μL_shire (d + 1) mc ms (rI KK (wQ (if cd = 2 then 1 else 0) ρ m Q)) xN KK ρ m [vR 1, vI a, vR 122] := by
  refine gE.ofwH cl_L.2 ?_ rfl rfl (Nat.le_of_ble_eq_true rfl)
  show gT l γ μL_shire (d + 1) mc ms _ _ KK ρ m 0 [some (vR 1), some (vI a), some (vR 122), none] []
  refine tz_aload2 (n := 1) (g_at ck_L_shire 0 rfl) rfl (g_ne kd_122) ?_
  refine tz_iconst (n := 2) (g_at ck_L_shire 1 rfl) rfl ?_
  refine tz_aload0 (n := 3) (g_at ck_L_shire 2 rfl) rfl (g_ne kd_1) ?_
  refine tz_iload1 (n := 4) (g_at ck_L_shire 3 rfl) rfl ?_
  refine tz_cvxI1 (n := 7) (μ' := μX10_shire) (cb' := 0) (sb' := 0) ml_L_7 mo_X10_shire mv_X10_shire np_X10_shire kd_1 (g_at ck_L_shire 4 rfl) hE rfl rfl rfl ⟨Nat.le_refl _, by decide⟩ (by decide) (Nat.le_refl _) (Nat.le_refl _) (g_in (g_m3 (List.mem_of_getElem? (i := 135) rfl)) rfl) (fun E9 ρ9 m9 h9 => ?_) (fun x ρ9 m9 hq => ?_)
  · obtain ⟨rfl, rfl, h9⟩ := h9
    rcases h9 with ⟨rfl, h9⟩ | ⟨rfl, h9⟩
    · exact absurd h9 hcd
    · refine tx_catch (i := 3) [] _ _ rfl (fun z hz => nomatch hz) rfl (by decide) (g_in (g_m3 (List.mem_of_getElem? (i := 134) rfl)) rfl) (g_inN (g_m3 (List.mem_of_getElem? (i := 141) rfl)) rfl) (Or.inr ⟨3, rfl, (g_at ck_L_shire 8 rfl), rfl⟩) (by decide) (fun u _ hu => by cases hu; decide) ?_
      refine tz_iconst (n := 14) (g_at ck_L_shire 9 rfl) rfl ?_
      exact tz_iret (g_at ck_L_shire 10 rfl) rfl (rI_mk (Or.inl ⟨(if_pos h9).symm, Or.inl (if_pos h9), rfl, rfl⟩))
  · refine tz_i2l (n := 8) (g_at ck_L_shire 5 rfl) rfl ?_
    refine tz_last (n := 9) kd_122 (by decide) (g_at ck_L_shire 6 rfl) rfl ?_
    refine tz_goto (tgt := 15) (g_at ck_L_shire 7 rfl) rfl ?_
    refine tz_iconst (n := 16) (g_at ck_L_shire 11 rfl) rfl ?_
    exact tz_iret (g_at ck_L_shire 12 rfl) rfl (rI_mk (Or.inr ⟨rfl, x, m9, hq, rfl⟩))
theorem cS_if {a f : Int} : (if cdS a f = 2 then (1 : Int) else 0) = cS a f := by
  unfold cdS cS
  by_cases h : 0 ≤ a ∧ a ≤ f
  · rw [if_pos h, if_pos h]; rfl
  · rw [if_neg h, if_neg h]; rfl
theorem cdS_c {a f : Int} (h : cdS a f = 0) : cS a f = 0 := if_pos (cdS_0 h)
/-- a line leaves the other shire's rules -/
theorem rU_Q {t : Int → Int} {n u v : Int} {s : PS} {Q : Int → List Int} (h : v ≠ u) : (rU9 t n u s Q).2 v = Q v := by
  unfold rU9
  by_cases k : (Q u).length = 0
  · rw [if_pos k]; exact if_neg h
  · rw [if_neg k]
theorem lA_Q {t : Int → Int} {n sp v : Int} {z : LZ} (h6 : v ≠ sp + 6) (h9 : v ≠ sp + 9) : (lA9 t n sp z).2.2 v = z.2.2 v := by
  unfold lA9
  repeat' split
  all_goals first | rfl | exact rU_Q h6 | exact rU_Q h9
theorem ln_Q {t : Int → Int} {n sp v : Int} {z : LZ} (h6 : v ≠ sp + 6) (h9 : v ≠ sp + 9) : (ln9 t n sp z).2.2 v = z.2.2 v := by
  unfold ln9
  split
  · exact lA_Q h6 h9
  · exact lA_Q h6 h9
theorem lN_Q {t : Int → Int} {n sp v : Int} {z : LZ} (h6 : v ≠ sp + 6) (h9 : v ≠ sp + 9) : ∀ k, (lN9 t n sp z k).2.2 v = z.2.2 v
  | 0 => rfl
  | k + 1 => by
    have ih := lN_Q (t := t) (n := n) (z := z) h6 h9 k
    have e : lN9 t n sp z (k + 1) = lS9 t n sp (lN9 t n sp z k) := rfl
    rw [e]
    unfold lS9
    split
    · rw [ln_Q h6 h9]; exact ih
    · exact ih
theorem LandC.old {m m9 Λ : Mm} {ld : Int} {hl tl : List Int} (h : LandC m ld Λ hl tl) (k : ∀ a, ld ≤ a → a ≤ ld + 5 → m9 a = m a) (h6 : RlC m9 (ld + 6) hl) (h9 : RlC m9 (ld + 9) tl) : LandC m9 ld Λ hl tl := by
  obtain ⟨h0, h1, h2, h3, h4, h5, h7, h8⟩ := h
  exact ⟨h0, by rw [k ld (by omega) (by omega)]; exact h1, by rw [k ld (by omega) (by omega)]; exact h2, by rw [k (ld + 1) (by omega) (by omega), k (ld + 2) (by omega) (by omega), k (ld + 3) (by omega) (by omega)]; exact h3, by rw [k (ld + 4) (by omega) (by omega)]; exact h4, by rw [k (ld + 5) (by omega) (by omega)]; exact h5, ⟨h6.1, h6.2.1, h6.2.2, h7.2.2.2⟩, ⟨h9.1, h9.2.1, h9.2.2, h8.2.2.2⟩⟩
theorem LandC.new {m ν : Mm} {sp : Int} {hl tl : List Int} (hsp : sp = 3 ∨ sp = 20) (hn : NL m sp ν) (hw : WN ν) (h6 : RlC m (sp + 6) hl) (h9 : RlC m (sp + 9) tl) (o1 : hl ≠ [] → okL hl 0) (o2 : tl ≠ [] → okL tl 0) : LandC m sp ν hl tl :=
  ⟨hsp, hn.1.1, hn.1.2.1, fun c c1 c2 => ⟨(hn.2.1 c c1 c2).1, (hn.2.1 c c1 c2).2, hn.2.2.1 c c1 (by have := hw.1; omega)⟩, hn.2.2.2.1, hn.2.2.2.2.1, ⟨h6.1, h6.2.1, h6.2.2, o1⟩, ⟨h9.1, h9.2.1, h9.2.2, o2⟩⟩
theorem WN.wl {ν : Mm} (h : WN ν) : WL ν := ⟨h.1, h.2.1, fun c c1 c2 => by
  have a := h.2.2.2.2.2.1 c c1 c2
  have b := h.2.2.2.1 c c1 (by have := h.1; omega)
  exact ⟨a.1, a.2.1, a.2.2.1, a.2.2.2, b.1, b.2⟩, h.2.2.2.2.2.2.1, fun p p1 p2 => (h.2.2.2.2.2.2.2.1 p p1 p2).1⟩
theorem WN.rw {ν : Mm} (h : WN ν) : RwO ν (ν 6) := by
  have h0 := h.1
  refine ⟨⟨?_, fun p p1 p2 => ?_, fun c c1 c2 => ?_, fun j j1 j2 => ?_⟩, fun c c1 c2 => ?_⟩
  · show 0 ≤ ν 6 0 ∧ ν 6 0 ≤ 9999 + 0
    rw [h.2.2.2.2.2.2.2.2.2]; decide
  · have a := h.2.2.2.2.2.2.2.1 p p1 p2
    exact ⟨a.2.1.1, a.2.1.2, a.2.2.1, a.2.2.2, Int.le_refl 0, Int.le_refl 0⟩
  · have a := h.2.2.2.2.2.2.2.2.1 c c1 (by omega)
    refine ⟨a.1, fun h3 => ?_, ?_, ?_⟩
    · show ν 6 (17 + c) < ν 3 c
      by_cases e : 0 < ν 6 (17 + c)
      · exact a.2.1 e
      · omega
    · show 0 ≤ ν 6 (26 + c)
      rw [a.2.2]; decide
    · show ν 6 (26 + c) < 32
      rw [a.2.2]; decide
  · exact ⟨Int.le_refl 0, by show (0 : Int) ≤ 8 * 0; decide⟩
  · have a := h.2.2.2.2.2.2.2.2.1 c c1 (by omega)
    rw [a.2.2]
    have b := Nat.two_pow_pos (ν 3 c).toNat
    omega
def qL (ld : Int) (hl tl : List Int) : Int → List Int := fun v => if v = ld + 6 then hl else tl
def QS (ρ m : Mm) (a ld sp : Int) (t : Int → Int) (zF : LZ) (x : Int) (ρ9 m9 : Mm) : Prop := MR m9 ∧ cdS a (m 1 1) = 0 ∧ ∃ ρ1 m1 u9, q37 (wr ρ 37 1 sp) ρ1 ∧ LR ρ1 m1 t a sp u9 zF.1 zF.2.1 zF.2.2 ∧ FL sp (wr m 1 1 0) m1 ∧ sF zF.1 = x ∧ (x ≠ 0 → ρ1 = ρ9 ∧ shNo m1 = m9) ∧ (x = 0 → wr (wr ρ1 1 3 sp) 1 4 ld = ρ9 ∧ shOK m1 sp = m9)
section
variable {ρ ρ9 m m9 : Mm} {Λ : Mm} {hl tl : List Int} {s : Int → Int} {n : Int} {α κ : Mm} {h : Int} {s2 : Int → Int} {n2 : Int} {α2 κ2 : Mm} {t : Int → Int} {tn pl : Int} {f : Int → Int}
theorem CW.q4 (w : CW ρ m Λ hl tl s n α κ h s2 n2 α2 κ2 t tn pl f) : ∀ v, isR4 v → v ≠ ρ 1 4 + 6 → v ≠ ρ 1 4 + 9 → RlC m v (qL (ρ 1 3) hl tl v) := fun v hv h6 h9 => by
  have w0 := w.1.1
  have hr := w.2.1.hr
  have ht := w.2.1.tr
  unfold isR4 at hv
  unfold qL
  by_cases e : v = ρ 1 3 + 6
  · rw [if_pos e, e]; exact ⟨hr.1, hr.2.1, hr.2.2.1⟩
  · have e9 : v = ρ 1 3 + 9 := by omega
    rw [if_neg e, e9]; exact ⟨ht.1, ht.2.1, ht.2.2.1⟩
theorem sh_C {a k : Int} {zF : LZ} {Q : Int → Mm → Mm → Prop} (w : CW ρ m Λ hl tl s n α κ h s2 n2 α2 κ2 t tn pl f) (v : MW m Λ hl tl s n α κ h s2 n2 α2 κ2 t tn pl f) (hL : LY ρ) (hR : MR m) (hz : lN9 t a (ρ 1 4) (z0f (qL (ρ 1 3) hl tl) (ρ 1 4) (ρ 37 2) (m 37 5)) 700 = zF) (hq : wQ (if cdS a (m 1 1) = 2 then 1 else 0) ρ m Q k ρ9 m9) (hQ : ∀ x ρ9 m9, Q x ρ9 m9 → QS ρ m a (ρ 1 3) (ρ 1 4) t zF x ρ9 m9) : LY ρ9 ∧ MR m9 ∧ k = cS a tn ∧ MW m9 Λ hl tl s n α κ h s2 n2 α2 κ2 t tn pl f ∧ (cS a tn ≠ 0 → CW ρ9 m9 Λ hl tl s n α κ h s2 n2 α2 κ2 t tn pl f) ∧ (cS a tn = 0 → (zF.1.1 = 0 ∨ zF.1.1 = 1) ∧ (zF.1.1 = 0 → sF zF.1 ≠ 0 → CW ρ9 m9 Λ hl tl s n α κ h s2 n2 α2 κ2 t 0 (sW zF.1) (up f 0 (f 0 + 1)) ∧ m9 122 0 = w32 (sF zF.1)) ∧ (zF.1.1 = 1 → (zF.2.2 (ρ 1 4 + 6) ≠ [] → okL (zF.2.2 (ρ 1 4 + 6)) 0) → (zF.2.2 (ρ 1 4 + 9) ≠ [] → okL (zF.2.2 (ρ 1 4 + 9)) 0) → CW ρ9 m9 zF.2.1 (zF.2.2 (ρ 1 4 + 6)) (zF.2.2 (ρ 1 4 + 9)) (zF.2.1 6) 0 α (fun _ _ => 0) 0 s2 n2 α2 κ2 t 0 (-1) f ∧ m9 122 0 = w32 0)) := by
  have w0 := w.1.1
  have htn : m 1 1 = tn := w.2.2.2.2.2.2.2.1.1
  rw [cS_if, htn] at hq
  obtain ⟨sp, esp⟩ : ∃ sp, sp = ρ 1 4 := ⟨_, rfl⟩
  obtain ⟨ld, eld⟩ : ∃ ld, ld = ρ 1 3 := ⟨_, rfl⟩
  rw [← esp, ← eld] at hz hQ w0
  rw [← esp]
  rcases hq with ⟨h1, h2, rfl, rfl⟩ | ⟨h1, x, m1, h2, rfl⟩
  · exact ⟨hL, hR, h1, v, fun _ => w, fun h9 => absurd h9 (by omega)⟩
  · obtain ⟨q1, q2, ρ1, m2, u9, q3, q4, q5, q6, q7, q8⟩ := hQ x _ m1 h2
    have hc : cS a tn = 0 := by rw [← htn]; exact cdS_c q2
    have hL1 : LY ρ1 := (LY_wr (r := 37) (k := 1) (x := sp) hL (by decide)).q37 q3
    have hL9 : LY ρ9 := by
      by_cases e : x = 0
      · rw [← (q8 e).1]; exact LY_wr (LY_wr hL1 (by decide)) (by decide)
      · rw [← (q7 e).1]; exact hL1
    have g3 : ρ1 1 3 = ld := by rw [q3 1 3 (by decide), wr_ne (by decide)]; exact eld.symm
    have g4 : ρ1 1 4 = sp := by rw [q3 1 4 (by decide), wr_ne (by decide)]; exact esp.symm
    have hu : isR4 (ρ1 37 2) := by rw [q4.d.ru]; exact q4.d.u4
    have e2 : ∀ a, 38 < a → m2 a = m a := fun a ha => by rw [q5 a (by omega) (by omega) (by omega) (by omega), wr_ne (by omega)]
    have e1 : m2 1 = wr m 1 1 0 1 := q5 1 (by omega) (by omega) (by omega) (by omega)
    have el : ∀ a, ld ≤ a → a ≤ ld + 5 → m2 a = m a := fun a h3 h4 => by rw [q5 a (by omega) (by omega) (by omega) (by omega), wr_ne (by omega)]
    have e11 : m2 1 1 = 0 := by rw [e1, wr_same]
    have e19 : m2 1 9 = m 1 9 := by rw [e1, wr_at, if_neg (by decide)]
    have sN : ∀ a, a ≠ 1 → a ≠ 61 → shNo m2 a = m2 a := fun a h3 h4 => by unfold shNo; rw [wr_ne h4, wr_ne h3]
    have sO : ∀ a, a ≠ 1 → a ≠ 44 → a ≠ 46 → (a < 39 ∨ 43 < a) → shOK m2 sp a = m2 a := fun a h3 h4 h5 h6 => by unfold shOK; rw [wr_ne h3, wr_ne h3, wr_ne h5, wr_ne h4, wr_ne h4, momcp_ne (by omega)]
    have zl : ∀ u, u = ld + 6 ∨ u = ld + 9 → zF.2.2 u = qL ld hl tl u := fun u hu => by
      rw [← hz, lN_Q (by omega) (by omega)]
      show upQ (upQ (qL ld hl tl) (sp + 6) []) (sp + 9) [] u = _
      unfold upQ
      rw [if_neg (by omega), if_neg (by omega)]
    refine ⟨hL9, q1.wr (w32_rg _), by omega, v.high fun a h3 h4 => ?_, fun h9 => absurd hc h9, fun _ => ⟨q4.d.o, fun hb hs => ?_, fun hg o1 o2 => ?_⟩⟩
    · rw [wr_ne (by omega)]
      by_cases e : x = 0
      · rw [← (q8 e).2, sO a (by omega) (by omega) (by omega) (by omega), e2 a (by omega)]
      · rw [← (q7 e).2, sN a (by omega) (by omega), e2 a (by omega)]
    · have hx : x ≠ 0 := by rw [← q6]; exact hs
      obtain ⟨rfl, rfl⟩ := q7 hx
      have eM : ∀ a, a ≠ 1 → a ≠ 61 → a ≠ 122 → wr (shNo m2) 122 0 (w32 x) a = m2 a := fun a h3 h4 h5 => by rw [wr_ne h5, sN a h3 h4]
      have hr6 : RlC m2 (ld + 6) hl := by
        have := q4.q (ld + 6) (by unfold isR4; omega)
        rw [zl _ (Or.inl rfl)] at this
        rw [show qL ld hl tl (ld + 6) = hl from if_pos rfl] at this
        exact this
      have hr9 : RlC m2 (ld + 9) tl := by
        have := q4.q (ld + 9) (by unfold isR4; omega)
        rw [zl _ (Or.inr rfl)] at this
        rw [show qL ld hl tl (ld + 9) = tl from if_neg (by omega)] at this
        exact this
      obtain ⟨⟨_, w1⟩, w2, w3, w4, w5, ⟨w6, w7⟩, w8, w9, wa⟩ := w
      rw [← eld] at w2
      have eN : ∀ a, 38 < a → a ≠ 61 → a ≠ 122 → wr (shNo m2) 122 0 (w32 x) a = m a := fun a h3 h4 h5 => by rw [eM a (by omega) h4 h5, e2 a h3]
      refine ⟨⟨⟨by rw [g3, g4]; exact w0, hu⟩, ?_, w3.gen fun a h3 h4 => eN a (by omega) (by omega) (by omega), w4.c ⟨eN _ (by omega) (by omega) (by omega), eN _ (by omega) (by omega) (by omega)⟩, w5.c ⟨eN _ (by omega) (by omega) (by omega), eN _ (by omega) (by omega) (by omega), eN _ (by omega) (by omega) (by omega), eN _ (by omega) (by omega) (by omega)⟩, ⟨?_, fun h9 => ⟨(w7 h9).1.gen fun a h3 h4 => eN a (by omega) (by omega) (by omega), (w7 h9).2.1.c ⟨eN _ (by omega) (by omega) (by omega), eN _ (by omega) (by omega) (by omega)⟩, (w7 h9).2.2.c ⟨eN _ (by omega) (by omega) (by omega), eN _ (by omega) (by omega) (by omega), eN _ (by omega) (by omega) (by omega), eN _ (by omega) (by omega) (by omega)⟩⟩⟩, fun j j1 j2 => absurd j2 (by omega), ⟨?_, ?_⟩, fun j j1 j2 => ?_⟩, ?_⟩
      · rw [g3]
        exact w2.old (fun a h3 h4 => by rw [eM a (by omega) (by omega) (by omega), el a h3 h4]) (hr6.fr (eM _ (by omega) (by omega) (by omega)) (eM _ (by omega) (by omega) (by omega))) (hr9.fr (eM _ (by omega) (by omega) (by omega)) (eM _ (by omega) (by omega) (by omega)))
      · rw [wr_ne (by decide)]; unfold shNo; rw [wr_ne (by decide), wr_at, if_neg (by decide), e19]; exact w6
      · rw [wr_ne (by decide)]; unfold shNo; rw [wr_ne (by decide), wr_at, if_neg (by decide), e11]
      · rw [wr_ne (by decide)]; unfold shNo; rw [wr_ne (by decide), wr_same]; exact q4.d.w
      · rw [wr_ne (by decide)]
        show wr (wr m2 1 2 (m2 37 5)) 61 0 (m2 61 0 + 1) 61 j = up f 0 (f 0 + 1) j
        rw [wr_at, e2 61 (by decide), wa 0 (by decide) (by decide)]
        by_cases ej : j = 0
        · rw [if_pos ej, ej, up_at]
        · rw [if_neg ej, up_ne ej, wr_ne (by decide), e2 61 (by decide), wa j j1 j2]
      · rw [wr_same, q6]
    · have hx : x = 0 := by
        rw [← q6]
        have h3 := sf_lN (t := t) (n := a) (sp := sp) (z := z0f (qL ld hl tl) sp (ρ 37 2) (m 37 5)) 700
        rw [hz] at h3
        rw [h3 hg]; rfl
      obtain ⟨rfl, rfl⟩ := q8 hx
      have eM : ∀ a, a ≠ 1 → a ≠ 44 → a ≠ 46 → (a < 39 ∨ 43 < a) → a ≠ 122 → wr (shOK m2 sp) 122 0 (w32 x) a = m2 a := fun a h3 h4 h5 h6 h7 => by rw [wr_ne h7, sO a h3 h4 h5 h6]
      obtain ⟨⟨_, w1⟩, w2, w3, w4, w5, ⟨w6, w7⟩, w8, w9, wa⟩ := w
      have hN : NL (wr (shOK m2 sp) 122 0 (w32 x)) sp zF.2.1 := q4.nl.fr (fun a ha => eM a (by omega) (by omega) (by omega) (by omega) (by omega)) (by rw [eM 37 (by decide) (by decide) (by decide) (by decide) (by decide)])
      have h16 := (q4.q (sp + 6) (by unfold isR4; omega)).fr (eM (sp + 6) (by omega) (by omega) (by omega) (by omega) (by omega)) (eM (sp + 6 + 1) (by omega) (by omega) (by omega) (by omega) (by omega))
      have h19 := (q4.q (sp + 9) (by unfold isR4; omega)).fr (eM (sp + 9) (by omega) (by omega) (by omega) (by omega) (by omega)) (eM (sp + 9 + 1) (by omega) (by omega) (by omega) (by omega) (by omega))
      have s3 : wr (wr ρ1 1 3 sp) 1 4 ld 1 3 = sp := by rw [wr_at, if_neg (by decide), wr_same]
      have s4 : wr (wr ρ1 1 3 sp) 1 4 ld 1 4 = ld := wr_same
      have s7 : wr (wr ρ1 1 3 sp) 1 4 ld 37 2 = ρ1 37 2 := by rw [wr_ne (by decide), wr_ne (by decide)]
      have hm : MomC (wr (shOK m2 sp) 122 0 (w32 x)) 39 (zF.2.1 6) := (momcp_mom (m := m2) (o := sp + 12) (r := 39) q4.nl.2.2.2.2.2 (by omega)).gen fun a h3 h4 => by rw [wr_ne (by omega)]; unfold shOK; rw [wr_ne (by omega), wr_ne (by omega), wr_ne (by omega), wr_ne (by omega), wr_ne (by omega)]
      refine ⟨⟨⟨by rw [s3, s4]; omega, by rw [s7]; exact hu⟩, by rw [s3]; exact LandC.new (by omega) hN q4.w h16 h19 o1 o2, hm, ⟨?_, ?_, fun k j k1 k2 => absurd k2 (by omega)⟩, ⟨?_, fun i i1 i2 => absurd (show i < (0 : Int) from i2) (by omega)⟩, ⟨?_, fun h9 => absurd rfl h9⟩, fun j j1 j2 => absurd j2 (by omega), ⟨?_, ?_⟩, fun j j1 j2 => ?_⟩, ?_⟩
      · rw [wr_ne (by decide)]; unfold shOK; rw [wr_ne (by decide), wr_ne (by decide), wr_ne (by decide), wr_same]
      · rw [wr_ne (by decide)]; unfold shOK; rw [wr_ne (by decide), wr_ne (by decide), wr_ne (by decide), wr_at, if_neg (by decide), wr_same]; decide
      · rw [wr_ne (by decide)]; unfold shOK; rw [wr_ne (by decide), wr_ne (by decide), wr_same]
      · rw [wr_ne (by decide)]; unfold shOK; rw [wr_at, if_neg (by decide), wr_same]
      · rw [wr_ne (by decide)]; unfold shOK; rw [wr_at, if_neg (by decide), wr_at, if_neg (by decide), wr_ne (by decide), wr_ne (by decide), wr_ne (by decide), momcp_ne (by omega), e11]
      · rw [wr_ne (by decide)]; unfold shOK; rw [wr_same]
      · rw [eM 61 (by decide) (by decide) (by decide) (by decide) (by decide), e2 61 (by decide)]; exact wa j j1 j2
      · rw [wr_same, hx]
theorem sh_M {N x a sp : Int} {zF : LZ} (p : PW N Λ hl tl s n α κ h s2 n2 α2 κ2 t tn pl f) (v : MW m Λ hl tl s n α κ h s2 n2 α2 κ2 t tn pl f) (hL : LY ρ) (c1 : cS a tn ≠ 0 → CW ρ m Λ hl tl s n α κ h s2 n2 α2 κ2 t tn pl f) (c2 : cS a tn = 0 → (zF.1.1 = 0 ∨ zF.1.1 = 1) ∧ (zF.1.1 = 0 → sF zF.1 ≠ 0 → CW ρ m Λ hl tl s n α κ h s2 n2 α2 κ2 t 0 (sW zF.1) (up f 0 (f 0 + 1)) ∧ m 122 0 = w32 (sF zF.1)) ∧ (zF.1.1 = 1 → (zF.2.2 (sp + 6) ≠ [] → okL (zF.2.2 (sp + 6)) 0) → (zF.2.2 (sp + 9) ≠ [] → okL (zF.2.2 (sp + 9)) 0) → CW ρ m zF.2.1 (zF.2.2 (sp + 6)) (zF.2.2 (sp + 9)) (zF.2.1 6) 0 α (fun _ _ => 0) 0 s2 n2 α2 κ2 t 0 (-1) f ∧ m 122 0 = w32 0))
    (hq : q23 ρ ρ9 ∧ MR m9 ∧ m9 84 0 = cS a tn ∧ (cS a tn ≠ 0 → FX [84] [0] m m9) ∧ (cS a tn = 0 → m9 84 12 = 0 ∧ (∀ i, 0 ≤ i → i < 9 → m9 101 i = 0 ∨ m9 101 i = 1) ∧ (zF.1.1 = 0 → x = sF zF.1 ∧ x ≠ 0 ∧ m9 84 14 = sW zF.1 ∧ m9 92 = up (m 92) 0 (m 92 0 + 1) ∧ FX [84, 92, 93, 94, 95, 96, 97, 98, 99, 100, 101, 102] [0, 12, 13, 14, 16, 17, 18, 19, 20, 21, 22, 24, 25, 26, 27, 28, 29, 30, 31, 32] m m9) ∧ (zF.1.1 = 1 → x = 0 ∧ m9 84 14 = -1 ∧ MLand m9 zF.2.1 (zF.2.2 (sp + 6)) (zF.2.2 (sp + 9)) ∧ WN zF.2.1 ∧ MRow m9 (zF.2.1 6) ∧ m9 84 45 = 0 ∧ m9 84 58 = 0 ∧ m9 84 63 = 0 ∧ ((zF.2.2 (sp + 6)).length ≤ 700 ∧ (zF.2.2 (sp + 9)).length ≤ 700) ∧ m9 92 = m 92 ∧ FX [84, 85, 86, 87, 88, 89, 90, 92, 93, 94, 95, 96, 97, 98, 99, 100, 101, 102, 103] [0, 1, 2, 3, 4, 12, 13, 14, 16, 17, 18, 19, 20, 21, 22, 24, 25, 26, 27, 28, 29, 30, 31, 32, 45, 58, 63] m m9))) : m9 84 0 = cS a tn ∧ m9 122 0 = m 122 0 ∧ (cS a tn = 0 → m 122 0 = w32 x) ∧ IW (N + 1) ρ9 m9 := by
  obtain ⟨q0, q1, q2, q3, q4⟩ := hq
  have hL9 := hL.k23 q0
  have g3 : ρ9 1 3 = ρ 1 3 := q0 1 3 (by decide)
  have g4 : ρ9 1 4 = ρ 1 4 := q0 1 4 (by decide)
  have g7 : ρ9 37 2 = ρ 37 2 := q0 37 2 (by decide)
  by_cases hc : cS a tn = 0
  · obtain ⟨q5, q6, q7, q8⟩ := q4 hc
    obtain ⟨h01, d1, d2⟩ := c2 hc
    obtain ⟨v0, v1, v2, v3, v4, v5, v6, v7, v8⟩ := v
    rcases h01 with h0 | h0
    · obtain ⟨r1, r2, r3, r4, r5⟩ := q7 h0
      obtain ⟨e1, e2⟩ := d1 h0 (by rw [← r1]; exact r2)
      have hf := FX.low r5 (by decide)
      refine ⟨q2, by rw [hf.2], fun _ => by rw [e2, r1], IW.mk hL9 q1 (e1.gen g3 g4 g7 fun a _ h2 _ _ => hf.1 a (by omega)) ⟨v0.x r5 (by decide) (by decide), v1.x r5 (by decide), v2.x r5 (by decide) (by decide), v3.x r5 (by decide) (by decide), v4.x r5 (by decide) (by decide) (by decide) (by decide) (by decide) (by decide), ⟨q5, fun j j1 j2 => absurd j2 (by omega)⟩, ⟨r3, by rw [r5.2 51 (by decide)]; exact v6.2⟩, fun j j1 j2 => ?_, q6⟩ ⟨p.1, p.2.1, p.2.2.1, p.2.2.2.1, ⟨by decide, by decide⟩, (p.rf (kk := 0)).2.2.2.2.2⟩⟩
      rw [r4, v7 0 (by decide) (by decide)]
      by_cases ej : j = 0
      · rw [ej, up_at, up_at]
      · rw [up_ne ej, up_ne ej, v7 j j1 j2]
    · obtain ⟨r1, r2, r3, r4, r5, r6, r7, r8, r9, r10, r11⟩ := q8 h0
      obtain ⟨e1, e2⟩ := d2 h0 r3.2.2.2.2.2.1.1.1 r3.2.2.2.2.2.2.1.1
      have hf := FX.low r11 (by decide)
      exact ⟨q2, by rw [hf.2], fun _ => by rw [e2, r1], IW.mk hL9 q1 (e1.gen g3 g4 g7 fun a _ h2 _ _ => hf.1 a (by omega)) ⟨r3, r5, ⟨r6, fun k j k1 k2 => absurd k2 (by omega)⟩, ⟨r7, fun i i1 i2 => absurd (show i < (0 : Int) from i2) (by omega)⟩, ⟨r8, fun h9 => absurd rfl h9⟩, ⟨q5, fun j j1 j2 => absurd j2 (by omega)⟩, ⟨r2, by rw [r11.2 51 (by decide)]; exact v6.2⟩, fun j j1 j2 => by rw [r10]; exact v7 j j1 j2, q6⟩ ⟨r4.wl, ⟨r4.rw, by decide, fun k k1 k2 => absurd k2 (by omega), ⟨Int.le_refl 0, (by decide : (0 : Int) ≤ 8)⟩, fun i i1 i2 => absurd (show i < (0 : Int) from i2) (by omega)⟩, ⟨Or.inl rfl, fun h9 => absurd rfl h9⟩, p.2.2.2.1, ⟨by decide, by decide⟩, p.inc.2.2.2.2.2⟩⟩
  · have hf := FX.low (q3 hc) (by decide)
    exact ⟨q2, by rw [hf.2], fun h => absurd h hc, IW.mk hL9 q1 ((c1 hc).gen g3 g4 g7 fun a _ h2 _ _ => hf.1 a (by omega)) (v.w0 (q3 hc)) p.inc⟩
end
