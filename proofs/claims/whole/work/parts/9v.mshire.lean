/-! The reference reads a shire: how rules lie, faults stay away. -/
theorem encX_len (x : Int) : ((encX x).length : Int) = if x ≥ -5 then 2 else 1 := by
  unfold encX
  by_cases h : x ≥ 0
  · rw [if_pos h, if_pos (by omega)]; rfl
  · rw [if_neg h]
    by_cases h2 : x ≥ -5
    · rw [if_pos h2, if_pos h2]; rfl
    · rw [if_neg h2, if_neg h2]; rfl
theorem encX_0 (x : Int) (R : List Int) : (encX x ++ R)[0]? = some (opE x) ∧ (x ≥ -5 → (encX x ++ R)[1]? = some (if x ≥ 0 then x else -1 - x)) := by
  unfold encX opE
  by_cases h : x ≥ 0
  · rw [if_pos h, if_pos h, if_pos h]; exact ⟨rfl, fun _ => rfl⟩
  · rw [if_neg h, if_neg h, if_neg h]
    by_cases h2 : x ≥ -5
    · rw [if_pos h2, if_pos h2]; exact ⟨rfl, fun _ => rfl⟩
    · rw [if_neg h2, if_neg h2]; exact ⟨rfl, fun h9 => absurd h9 h2⟩
theorem off_enc {L : List Int} : ∀ j : Nat, j ≤ L.length → offL L j = ((encL (L.take j)).length : Int)
  | 0, _ => rfl
  | j + 1, hj => by
    have ih := off_enc (L := L) j (by omega)
    have hg : L.getD j 0 = L[j] := by rw [List.getD_eq_getElem?_getD, List.getElem?_eq_getElem (by omega)]; rfl
    rw [offL_s, ih, List.take_add_one, encL_app, List.length_append, List.getElem?_eq_getElem (by omega), hg]
    show ((encL (L.take j)).length : Int) + _ = (((encL (L.take j)).length + (encL [L[j]]).length : Nat) : Int)
    rw [encL_1, Int.natCast_add, encX_len]
theorem words_at {m : Mm} {a : Int} {w : List Int} (h : ∀ i : Nat, (k : i < w.length) → m 99 (a + (i : Int)) = w[i]) {k : Nat} {v : Int} (e : w[k]? = some v) : m 99 (a + (k : Int)) = v := by
  obtain ⟨hk, e2⟩ := List.getElem?_eq_some_iff.mp e
  rw [h k hk, e2]
theorem RU.code {m m9 : Mm} {f : Int} {L : List Int} (h : RU m f L) (e : ∀ j, 0 ≤ j → j < 1400 → m9 90 j = m 99 j) (ht : m 84 28 ≤ 1400) : MRule m9 (m 84 f) L := by
  rcases h with ⟨h1, h2⟩ | ⟨h1, h2, h3, h4, h5, h6⟩
  · rw [h2]
    exact ⟨⟨fun h9 => absurd rfl h9, fun c hc => absurd hc (by simp)⟩, Or.inl ⟨rfl, h1⟩⟩
  · refine ⟨⟨fun _ => h4, h5⟩, Or.inr ⟨h3, ?_⟩⟩
    have lw : (encL L ++ [0]).length = (encL L).length + 1 := by rw [List.length_append]; rfl
    rw [lw] at h1
    have oL : offL L L.length = ((encL L).length : Int) := by rw [off_enc L.length (Nat.le_refl _), List.take_length]
    refine ⟨fun j hj => ?_, ?_, h1.1, by rw [oL]; omega⟩
    · have hg : L.getD j 0 = L[j] := by rw [List.getD_eq_getElem?_getD, List.getElem?_eq_getElem hj]; rfl
      have sp : encL L ++ [0] = encL (L.take j) ++ (encX L[j] ++ (encL (L.drop (j + 1)) ++ [0])) := by
        have e1 : L = L.take j ++ ([L[j]] ++ L.drop (j + 1)) := by
          have := List.take_append_drop j L
          rw [List.drop_eq_getElem_cons hj] at this
          exact this.symm
        have e2 : encL L = encL (L.take j) ++ (encX L[j] ++ encL (L.drop (j + 1))) := by
          have e3 := congrArg encL e1
          rw [encL_app, encL_app, encL_1] at e3
          exact e3
        rw [e2, List.append_assoc, List.append_assoc]
      have o := off_enc (L := L) j (by omega)
      have oj := offL_le (L := L) (j := j + 1) (k := L.length) (by omega)
      rw [offL_s, hg, oL] at oj
      have o0 := offL_0 (L := L) j
      have at0 : ∀ (i : Nat) (v : Int), (encX L[j] ++ (encL (L.drop (j + 1)) ++ [0]))[i]? = some v → m 99 (m 84 f + offL L j + (i : Int)) = v := fun i v hv => by
        have := words_at h2 (k := (encL (L.take j)).length + i) (v := v) (by rw [sp, List.getElem?_append_right (by omega), show (encL (L.take j)).length + i - (encL (L.take j)).length = i by omega]; exact hv)
        rw [o]
        rw [Int.natCast_add, ← Int.add_assoc] at this
        exact this
      have ex := encX_0 L[j] (encL (L.drop (j + 1)) ++ [0])
      rw [hg]
      constructor
      · rw [e _ (by omega) (by split at oj <;> omega)]
        have := at0 0 _ ex.1
        rw [show m 84 f + offL L j + ((0 : Nat) : Int) = m 84 f + offL L j by omega] at this
        exact this
      · intro hx
        rw [if_pos hx] at oj
        rw [e _ (by omega) (by omega)]
        exact at0 1 _ (ex.2 hx)
    · rw [e _ (by rw [oL]; omega) (by rw [oL]; omega), oL]
      exact words_at h2 (k := (encL L).length) (v := 0) (by rw [List.getElem?_append_right (Nat.le_refl _), Nat.sub_self]; rfl)
/-- what reads well leaves the fault as it was -/
def SF (F : PS → PS) : Prop := ∀ s, (F s).1 = 1 → sF (F s) = sF s
section
variable {t : Int → Int} {n : Int}
theorem sf_sg {c : Int} : SF (sg9 t n c) := fun s h => by
  unfold sg9 at h ⊢
  by_cases k : tK t n (sP s) = c
  · rw [if_pos k]; rfl
  · rw [if_neg k] at h; exact absurd h fl_n
theorem sf_pt {E : PS → PS} (hE : SF E) : SF (pt9 t n E) := fun s h => by
  unfold pt9 at h ⊢
  by_cases k : tK t n (sP s) = 40
  · rw [if_pos k] at h ⊢
    by_cases k2 : (E (nx9 t n s)).1 = 1
    · rw [if_pos k2] at h ⊢
      rw [sf_sg _ h]
      exact hE _ k2
    · rw [if_neg k2] at h; exact absurd h k2
  · rw [if_neg k] at h ⊢
    by_cases k1 : tK t n (sP s) = 1
    · rw [if_pos k1] at h ⊢
      unfold va9 at h ⊢
      by_cases k3 : vl9 t n (sP s) = 0
      · rw [if_pos k3] at h; exact absurd h fl_n
      · rw [if_neg k3]; rfl
    · rw [if_neg k1] at h ⊢
      by_cases k4 : (nm9 t n s).1 = 1
      · rw [if_pos k4]; rfl
      · rw [if_neg k4] at h; exact absurd h k4
theorem sf_ch {tst : Int → Int} {F : PS → PS} (hF : SF F) : ∀ (k : Nat), SF (fun s => ch9 t n tst F s k)
  | 0 => hF
  | k + 1 => fun s h => by
    have ih := sf_ch (tst := tst) hF k s
    have e : ch9 t n tst F s (k + 1) = st9 t n tst F (ch9 t n tst F s k) := rfl
    have h' : (ch9 t n tst F s (k + 1)).1 = 1 := h
    show sF (ch9 t n tst F s (k + 1)) = sF s
    rw [e] at h' ⊢
    have ih' : (ch9 t n tst F s k).1 = 1 → sF (ch9 t n tst F s k) = sF s := ih
    generalize ch9 t n tst F s k = c at h' ih' ⊢
    unfold st9 at h' ⊢
    by_cases g : c.1 = 1 ∧ tst (sP c) ≠ 0
    · rw [if_pos g] at h' ⊢
      rw [← ih' g.1]
      exact hF (nx9 t n c) h'
    · rw [if_neg g] at h' ⊢
      exact ih' h'
theorem sf_cx {tst : Int → Int} {F : PS → PS} (hF : SF F) : SF (cx9 t n tst F) := by
  intro s h
  unfold cx9 at h ⊢
  generalize 700 = k at h ⊢
  exact sf_ch (tst := tst) hF k s h
theorem sf_cy {tst : Int → Int} {F : PS → PS} (hF : SF F) : SF (cy9 t n tst F) := by
  intro s h
  unfold cy9 at h ⊢
  exact sf_ch (tst := tst) hF 1 s h
theorem sf_pn {G : PS → PS} (hG : SF G) : SF (pn9 t n G) := fun s h => by
  unfold pn9 at h ⊢
  split at h
  · exact absurd h fl_n
  · rename_i k
    rw [if_neg k]
    have b := aN_b (r := G (at9 (no9 t n (sP s) 6).2 s)) (no9 t n (sP s) 6).1.toNat
    rw [b.2.1]
    exact hG (at9 (no9 t n (sP s) 6).2 s) (b.1.symm.trans h)
theorem sf_xk : ∀ k, SF (xk t n k)
  | 0 => fun s h => by
    have h' : (x6 t n s).1 = 1 := h
    unfold x6 at h'
    split at h' <;> exact absurd h' fl_n
  | k + 1 => by
    have ih := sf_xk k
    have e : xk t n (k + 1) = cx9 t n (tO9 t n) (by9 t n (xk t n k)) := rfl
    rw [e]
    unfold by9
    exact sf_cx (sf_cx (sf_pn (sf_cy (sf_cx (sf_cx (sf_pt ih))))))
theorem sf_ln {sp : Int} {z : LZ} (h : (ln9 t n sp z).1.1 = 1) : sF (ln9 t n sp z).1 = sF z.1 := by
  obtain ⟨h1, h2, h3⟩ := ln_k h
  rw [h3]
  show sF (lA9 t n sp z).1 = sF z.1
  obtain ⟨s, ν, Q⟩ := z
  have rC : (rC9 t n s ν).1.1 = 1 → sF (rC9 t n s ν).1 = sF s := fun h => by
    unfold rC9 at h ⊢
    repeat' split at h
    all_goals first | exact absurd h fl_n | (rename_i k; exact absurd h k) | skip
    rw [if_neg (by assumption), if_pos (by assumption), if_pos (by assumption)]
    rfl
  have rR : (rR9 t n s ν).1.1 = 1 → sF (rR9 t n s ν).1 = sF s := fun h => by
    unfold rR9 at h ⊢
    repeat' split at h
    all_goals first | exact absurd h fl_n | (rename_i k; exact absurd h k) | skip
    rw [if_pos (by assumption), if_neg (by assumption), if_pos (by assumption), if_neg (by assumption)]
    rfl
  have rP : (rP9 t n s ν).1.1 = 1 → sF (rP9 t n s ν).1 = sF s := fun h => by
    unfold rP9 at h ⊢
    repeat' split at h
    all_goals first | exact absurd h fl_n | (rename_i k; exact absurd h k) | skip
    rw [if_neg (by assumption), if_pos (by assumption), if_pos (by assumption), if_pos (by assumption)]
    rfl
  have rA : (rA9 t n s ν).1.1 = 1 → sF (rA9 t n s ν).1 = sF s := fun h => by
    unfold rA9 at h ⊢
    repeat' split at h
    all_goals first | exact absurd h fl_n | (rename_i k; exact absurd h k) | skip
    rw [if_pos (by assumption), if_neg (by assumption), if_pos (by assumption)]
    rfl
  have rU : ∀ v, (rU9 t n v s Q).1.1 = 1 → sF (rU9 t n v s Q).1 = sF s := fun v h => by
    unfold rU9 at h ⊢
    by_cases k : (Q v).length = 0
    · rw [if_pos k] at h ⊢
      have k6 := sf_xk (t := t) (n := n) 6 (nx9 t n (wL9 (Q v) s))
      generalize xk t n 6 (nx9 t n (wL9 (Q v) s)) = X at h k6 ⊢
      exact k6 h
    · rw [if_neg k] at h; exact absurd h fl_n
  unfold lA9 at h1 ⊢
  by_cases c2 : wdI t n (sP s) 2 = 1
  · rw [if_pos c2] at h1 ⊢; exact rC h1
  · rw [if_neg c2] at h1 ⊢
    by_cases c3 : wdI t n (sP s) 3 = 1
    · rw [if_pos c3] at h1 ⊢; exact rR h1
    · rw [if_neg c3] at h1 ⊢
      by_cases c4 : wdI t n (sP s) 4 = 1
      · rw [if_pos c4] at h1 ⊢; exact rP h1
      · rw [if_neg c4] at h1 ⊢
        by_cases c5 : wdI t n (sP s) 5 = 1
        · rw [if_pos c5] at h1 ⊢; exact rA h1
        · rw [if_neg c5] at h1 ⊢
          by_cases c6 : wdI t n (sP s) 6 = 1
          · rw [if_pos c6] at h1 ⊢; exact rU _ h1
          · rw [if_neg c6] at h1 ⊢
            by_cases c7 : wdI t n (sP s) 14 = 1
            · rw [if_pos c7] at h1 ⊢; exact rU _ h1
            · rw [if_neg c7] at h1; exact absurd h1 fl_n
theorem sf_lN {sp : Int} {z : LZ} : ∀ k, (lN9 t n sp z k).1.1 = 1 → sF (lN9 t n sp z k).1 = sF z.1
  | 0, _ => rfl
  | k + 1, h => by
    have ih := sf_lN (sp := sp) (z := z) k
    have e : lN9 t n sp z (k + 1) = lS9 t n sp (lN9 t n sp z k) := rfl
    rw [e] at h ⊢
    unfold lS9 at h ⊢
    by_cases g : (lN9 t n sp z k).1.1 = 1 ∧ tK t n (sP (lN9 t n sp z k).1) ≠ 0
    · rw [if_pos g] at h ⊢
      rw [sf_ln h]
      exact ih g.1
    · rw [if_neg g] at h ⊢
      exact ih h
theorem lN_st {sp : Int} {z : LZ} {i : Nat} (h : ¬ ((lN9 t n sp z i).1.1 = 1 ∧ tK t n (sP (lN9 t n sp z i).1) ≠ 0)) : ∀ k, i ≤ k → lN9 t n sp z k = lN9 t n sp z i
  | 0, hk => by
    have : i = 0 := by omega
    rw [this]
  | k + 1, hk => by
    by_cases e : i = k + 1
    · rw [e]
    · have ih := lN_st h k (by omega)
      have e2 : lN9 t n sp z (k + 1) = lS9 t n sp (lN9 t n sp z k) := rfl
      rw [e2, ih]
      exact if_neg h
end
theorem mp_copies93 {l : Launch} {γ : Gh} {ρ m : Mm} (hL : LY ρ) (hR : MR m) : gE l γ μX11_copies 0 0 0 (rV KK fun ρ9 m9 => ρ = ρ9 ∧ MR m9 ∧ Cp 93 85 m m9 9 ∧ Fr [85] m m9) xN KK ρ m [vR 84, vR 93, vR 85] := by
  refine gE.ofw cl_X11.2 ?_ rfl rfl (Nat.le_of_ble_eq_true rfl)
  show gT l γ μX11_copies 0 0 0 _ _ KK ρ m 0 [some (vR 84), some (vR 93), some (vR 85), none] []
  refine tz_iconst (n := 1) (g_at ck_X11_copies 0 rfl) rfl ?_
  refine tz_istore3 (n := 2) (g_at ck_X11_copies 1 rfl) rfl (by decide) g_hpR ?_
  refine g_for (fun i : Nat => ∀ m1 : Mm, (MR m1 ∧ Cp 93 85 m m1 (i : Int) ∧ Fr [85] m m1) → gT l γ μX11_copies 0 0 0 _ _ KK ρ m1 2 [some (vR 84), some (vR 93), some (vR 85), some (vI (i : Int))] []) 9 ?_ (fun i hi ihi => ?_) 0 (Nat.zero_le _) _ ⟨hR, fun x h8 h9 => absurd h9 (by omega), Fr.rf⟩
  · intro m1 hinv
    obtain ⟨hR1, hC1, hF1⟩ := hinv
    refine tz_iload3 (n := 3) (g_at ck_X11_copies 2 rfl) rfl ?_
    refine tz_aload1 (n := 4) (g_at ck_X11_copies 3 rfl) rfl (g_ne kd_93) ?_
    refine tz_alen (n := 5) kd_93 (g_at ck_X11_copies 4 rfl) rfl ?_
    refine tz_icmp_ge (n := 8) (tgt := 20) (g_at ck_X11_copies 5 rfl) rfl rfl (by omega) (fun h5 => ?_) (fun h5 => absurd h5 (by omega))
    exact tz_vret (g_at ck_X11_copies 14 rfl) rfl (rV_mk ⟨rfl, hR1, hC1, hF1⟩)
  · intro m1 hinv
    obtain ⟨hR1, hC1, hF1⟩ := hinv
    refine tz_iload3 (n := 3) (g_at ck_X11_copies 2 rfl) rfl ?_
    refine tz_aload1 (n := 4) (g_at ck_X11_copies 3 rfl) rfl (g_ne kd_93) ?_
    refine tz_alen (n := 5) kd_93 (g_at ck_X11_copies 4 rfl) rfl ?_
    refine tz_icmp_ge (n := 8) (tgt := 20) (g_at ck_X11_copies 5 rfl) rfl rfl (by omega) (fun h5 => absurd h5 (by omega)) (fun h5 => ?_)
    refine tz_aload2 (n := 9) (g_at ck_X11_copies 6 rfl) rfl (g_ne kd_85) ?_
    refine tz_iload3 (n := 10) (g_at ck_X11_copies 7 rfl) rfl ?_
    refine tz_aload1 (n := 11) (g_at ck_X11_copies 8 rfl) rfl (g_ne kd_93) ?_
    refine tz_iload3 (n := 12) (g_at ck_X11_copies 9 rfl) rfl ?_
    refine tz_iald (n := 13) kd_93 (by omega) (g_at ck_X11_copies 10 rfl) rfl ?_
    refine tz_iastr (n := 14) kd_85 (by omega) (g_at ck_X11_copies 11 rfl) rfl hR1 ⟨(hR1 _ _).1, (hR1 _ _).2⟩ (fun hR1 => ?_)
    refine tz_iinc3 (n := 17) (g_at ck_X11_copies 12 rfl) rfl (by decide) g_hpR ?_
    refine tz_goto (tgt := 2) (g_at ck_X11_copies 13 rfl) rfl ?_
    exact ihi _ ⟨hR1, hC1.s (by rw [hF1 93 (by decide)]), hF1.wrc⟩
theorem mp_copies94 {l : Launch} {γ : Gh} {ρ m : Mm} (hL : LY ρ) (hR : MR m) : gE l γ μX11_copies 0 0 0 (rV KK fun ρ9 m9 => ρ = ρ9 ∧ MR m9 ∧ Cp 94 86 m m9 9 ∧ Fr [86] m m9) xN KK ρ m [vR 84, vR 94, vR 86] := by
  refine gE.ofw cl_X11.2 ?_ rfl rfl (Nat.le_of_ble_eq_true rfl)
  show gT l γ μX11_copies 0 0 0 _ _ KK ρ m 0 [some (vR 84), some (vR 94), some (vR 86), none] []
  refine tz_iconst (n := 1) (g_at ck_X11_copies 0 rfl) rfl ?_
  refine tz_istore3 (n := 2) (g_at ck_X11_copies 1 rfl) rfl (by decide) g_hpR ?_
  refine g_for (fun i : Nat => ∀ m1 : Mm, (MR m1 ∧ Cp 94 86 m m1 (i : Int) ∧ Fr [86] m m1) → gT l γ μX11_copies 0 0 0 _ _ KK ρ m1 2 [some (vR 84), some (vR 94), some (vR 86), some (vI (i : Int))] []) 9 ?_ (fun i hi ihi => ?_) 0 (Nat.zero_le _) _ ⟨hR, fun x h8 h9 => absurd h9 (by omega), Fr.rf⟩
  · intro m1 hinv
    obtain ⟨hR1, hC1, hF1⟩ := hinv
    refine tz_iload3 (n := 3) (g_at ck_X11_copies 2 rfl) rfl ?_
    refine tz_aload1 (n := 4) (g_at ck_X11_copies 3 rfl) rfl (g_ne kd_94) ?_
    refine tz_alen (n := 5) kd_94 (g_at ck_X11_copies 4 rfl) rfl ?_
    refine tz_icmp_ge (n := 8) (tgt := 20) (g_at ck_X11_copies 5 rfl) rfl rfl (by omega) (fun h5 => ?_) (fun h5 => absurd h5 (by omega))
    exact tz_vret (g_at ck_X11_copies 14 rfl) rfl (rV_mk ⟨rfl, hR1, hC1, hF1⟩)
  · intro m1 hinv
    obtain ⟨hR1, hC1, hF1⟩ := hinv
    refine tz_iload3 (n := 3) (g_at ck_X11_copies 2 rfl) rfl ?_
    refine tz_aload1 (n := 4) (g_at ck_X11_copies 3 rfl) rfl (g_ne kd_94) ?_
    refine tz_alen (n := 5) kd_94 (g_at ck_X11_copies 4 rfl) rfl ?_
    refine tz_icmp_ge (n := 8) (tgt := 20) (g_at ck_X11_copies 5 rfl) rfl rfl (by omega) (fun h5 => absurd h5 (by omega)) (fun h5 => ?_)
    refine tz_aload2 (n := 9) (g_at ck_X11_copies 6 rfl) rfl (g_ne kd_86) ?_
    refine tz_iload3 (n := 10) (g_at ck_X11_copies 7 rfl) rfl ?_
    refine tz_aload1 (n := 11) (g_at ck_X11_copies 8 rfl) rfl (g_ne kd_94) ?_
    refine tz_iload3 (n := 12) (g_at ck_X11_copies 9 rfl) rfl ?_
    refine tz_iald (n := 13) kd_94 (by omega) (g_at ck_X11_copies 10 rfl) rfl ?_
    refine tz_iastr (n := 14) kd_86 (by omega) (g_at ck_X11_copies 11 rfl) rfl hR1 ⟨(hR1 _ _).1, (hR1 _ _).2⟩ (fun hR1 => ?_)
    refine tz_iinc3 (n := 17) (g_at ck_X11_copies 12 rfl) rfl (by decide) g_hpR ?_
    refine tz_goto (tgt := 2) (g_at ck_X11_copies 13 rfl) rfl ?_
    exact ihi _ ⟨hR1, hC1.s (by rw [hF1 94 (by decide)]), hF1.wrc⟩
theorem mp_copies95 {l : Launch} {γ : Gh} {ρ m : Mm} (hL : LY ρ) (hR : MR m) : gE l γ μX11_copies 0 0 0 (rV KK fun ρ9 m9 => ρ = ρ9 ∧ MR m9 ∧ Cp 95 87 m m9 9 ∧ Fr [87] m m9) xN KK ρ m [vR 84, vR 95, vR 87] := by
  refine gE.ofw cl_X11.2 ?_ rfl rfl (Nat.le_of_ble_eq_true rfl)
  show gT l γ μX11_copies 0 0 0 _ _ KK ρ m 0 [some (vR 84), some (vR 95), some (vR 87), none] []
  refine tz_iconst (n := 1) (g_at ck_X11_copies 0 rfl) rfl ?_
  refine tz_istore3 (n := 2) (g_at ck_X11_copies 1 rfl) rfl (by decide) g_hpR ?_
  refine g_for (fun i : Nat => ∀ m1 : Mm, (MR m1 ∧ Cp 95 87 m m1 (i : Int) ∧ Fr [87] m m1) → gT l γ μX11_copies 0 0 0 _ _ KK ρ m1 2 [some (vR 84), some (vR 95), some (vR 87), some (vI (i : Int))] []) 9 ?_ (fun i hi ihi => ?_) 0 (Nat.zero_le _) _ ⟨hR, fun x h8 h9 => absurd h9 (by omega), Fr.rf⟩
  · intro m1 hinv
    obtain ⟨hR1, hC1, hF1⟩ := hinv
    refine tz_iload3 (n := 3) (g_at ck_X11_copies 2 rfl) rfl ?_
    refine tz_aload1 (n := 4) (g_at ck_X11_copies 3 rfl) rfl (g_ne kd_95) ?_
    refine tz_alen (n := 5) kd_95 (g_at ck_X11_copies 4 rfl) rfl ?_
    refine tz_icmp_ge (n := 8) (tgt := 20) (g_at ck_X11_copies 5 rfl) rfl rfl (by omega) (fun h5 => ?_) (fun h5 => absurd h5 (by omega))
    exact tz_vret (g_at ck_X11_copies 14 rfl) rfl (rV_mk ⟨rfl, hR1, hC1, hF1⟩)
  · intro m1 hinv
    obtain ⟨hR1, hC1, hF1⟩ := hinv
    refine tz_iload3 (n := 3) (g_at ck_X11_copies 2 rfl) rfl ?_
    refine tz_aload1 (n := 4) (g_at ck_X11_copies 3 rfl) rfl (g_ne kd_95) ?_
    refine tz_alen (n := 5) kd_95 (g_at ck_X11_copies 4 rfl) rfl ?_
    refine tz_icmp_ge (n := 8) (tgt := 20) (g_at ck_X11_copies 5 rfl) rfl rfl (by omega) (fun h5 => absurd h5 (by omega)) (fun h5 => ?_)
    refine tz_aload2 (n := 9) (g_at ck_X11_copies 6 rfl) rfl (g_ne kd_87) ?_
    refine tz_iload3 (n := 10) (g_at ck_X11_copies 7 rfl) rfl ?_
    refine tz_aload1 (n := 11) (g_at ck_X11_copies 8 rfl) rfl (g_ne kd_95) ?_
    refine tz_iload3 (n := 12) (g_at ck_X11_copies 9 rfl) rfl ?_
    refine tz_iald (n := 13) kd_95 (by omega) (g_at ck_X11_copies 10 rfl) rfl ?_
    refine tz_iastr (n := 14) kd_87 (by omega) (g_at ck_X11_copies 11 rfl) rfl hR1 ⟨(hR1 _ _).1, (hR1 _ _).2⟩ (fun hR1 => ?_)
    refine tz_iinc3 (n := 17) (g_at ck_X11_copies 12 rfl) rfl (by decide) g_hpR ?_
    refine tz_goto (tgt := 2) (g_at ck_X11_copies 13 rfl) rfl ?_
    exact ihi _ ⟨hR1, hC1.s (by rw [hF1 95 (by decide)]), hF1.wrc⟩
theorem mp_copies96 {l : Launch} {γ : Gh} {ρ m : Mm} (hL : LY ρ) (hR : MR m) : gE l γ μX11_copies 0 0 0 (rV KK fun ρ9 m9 => ρ = ρ9 ∧ MR m9 ∧ Cp 96 88 m m9 45 ∧ Fr [88] m m9) xN KK ρ m [vR 84, vR 96, vR 88] := by
  refine gE.ofw cl_X11.2 ?_ rfl rfl (Nat.le_of_ble_eq_true rfl)
  show gT l γ μX11_copies 0 0 0 _ _ KK ρ m 0 [some (vR 84), some (vR 96), some (vR 88), none] []
  refine tz_iconst (n := 1) (g_at ck_X11_copies 0 rfl) rfl ?_
  refine tz_istore3 (n := 2) (g_at ck_X11_copies 1 rfl) rfl (by decide) g_hpR ?_
  refine g_for (fun i : Nat => ∀ m1 : Mm, (MR m1 ∧ Cp 96 88 m m1 (i : Int) ∧ Fr [88] m m1) → gT l γ μX11_copies 0 0 0 _ _ KK ρ m1 2 [some (vR 84), some (vR 96), some (vR 88), some (vI (i : Int))] []) 45 ?_ (fun i hi ihi => ?_) 0 (Nat.zero_le _) _ ⟨hR, fun x h8 h9 => absurd h9 (by omega), Fr.rf⟩
  · intro m1 hinv
    obtain ⟨hR1, hC1, hF1⟩ := hinv
    refine tz_iload3 (n := 3) (g_at ck_X11_copies 2 rfl) rfl ?_
    refine tz_aload1 (n := 4) (g_at ck_X11_copies 3 rfl) rfl (g_ne kd_96) ?_
    refine tz_alen (n := 5) kd_96 (g_at ck_X11_copies 4 rfl) rfl ?_
    refine tz_icmp_ge (n := 8) (tgt := 20) (g_at ck_X11_copies 5 rfl) rfl rfl (by omega) (fun h5 => ?_) (fun h5 => absurd h5 (by omega))
    exact tz_vret (g_at ck_X11_copies 14 rfl) rfl (rV_mk ⟨rfl, hR1, hC1, hF1⟩)
  · intro m1 hinv
    obtain ⟨hR1, hC1, hF1⟩ := hinv
    refine tz_iload3 (n := 3) (g_at ck_X11_copies 2 rfl) rfl ?_
    refine tz_aload1 (n := 4) (g_at ck_X11_copies 3 rfl) rfl (g_ne kd_96) ?_
    refine tz_alen (n := 5) kd_96 (g_at ck_X11_copies 4 rfl) rfl ?_
    refine tz_icmp_ge (n := 8) (tgt := 20) (g_at ck_X11_copies 5 rfl) rfl rfl (by omega) (fun h5 => absurd h5 (by omega)) (fun h5 => ?_)
    refine tz_aload2 (n := 9) (g_at ck_X11_copies 6 rfl) rfl (g_ne kd_88) ?_
    refine tz_iload3 (n := 10) (g_at ck_X11_copies 7 rfl) rfl ?_
    refine tz_aload1 (n := 11) (g_at ck_X11_copies 8 rfl) rfl (g_ne kd_96) ?_
    refine tz_iload3 (n := 12) (g_at ck_X11_copies 9 rfl) rfl ?_
    refine tz_iald (n := 13) kd_96 (by omega) (g_at ck_X11_copies 10 rfl) rfl ?_
    refine tz_iastr (n := 14) kd_88 (by omega) (g_at ck_X11_copies 11 rfl) rfl hR1 ⟨(hR1 _ _).1, (hR1 _ _).2⟩ (fun hR1 => ?_)
    refine tz_iinc3 (n := 17) (g_at ck_X11_copies 12 rfl) rfl (by decide) g_hpR ?_
    refine tz_goto (tgt := 2) (g_at ck_X11_copies 13 rfl) rfl ?_
    exact ihi _ ⟨hR1, hC1.s (by rw [hF1 96 (by decide)]), hF1.wrc⟩
theorem mp_copies97 {l : Launch} {γ : Gh} {ρ m : Mm} (hL : LY ρ) (hR : MR m) : gE l γ μX11_copies 0 0 0 (rV KK fun ρ9 m9 => ρ = ρ9 ∧ MR m9 ∧ Cp 97 89 m m9 8 ∧ Fr [89] m m9) xN KK ρ m [vR 84, vR 97, vR 89] := by
  refine gE.ofw cl_X11.2 ?_ rfl rfl (Nat.le_of_ble_eq_true rfl)
  show gT l γ μX11_copies 0 0 0 _ _ KK ρ m 0 [some (vR 84), some (vR 97), some (vR 89), none] []
  refine tz_iconst (n := 1) (g_at ck_X11_copies 0 rfl) rfl ?_
  refine tz_istore3 (n := 2) (g_at ck_X11_copies 1 rfl) rfl (by decide) g_hpR ?_
  refine g_for (fun i : Nat => ∀ m1 : Mm, (MR m1 ∧ Cp 97 89 m m1 (i : Int) ∧ Fr [89] m m1) → gT l γ μX11_copies 0 0 0 _ _ KK ρ m1 2 [some (vR 84), some (vR 97), some (vR 89), some (vI (i : Int))] []) 8 ?_ (fun i hi ihi => ?_) 0 (Nat.zero_le _) _ ⟨hR, fun x h8 h9 => absurd h9 (by omega), Fr.rf⟩
  · intro m1 hinv
    obtain ⟨hR1, hC1, hF1⟩ := hinv
    refine tz_iload3 (n := 3) (g_at ck_X11_copies 2 rfl) rfl ?_
    refine tz_aload1 (n := 4) (g_at ck_X11_copies 3 rfl) rfl (g_ne kd_97) ?_
    refine tz_alen (n := 5) kd_97 (g_at ck_X11_copies 4 rfl) rfl ?_
    refine tz_icmp_ge (n := 8) (tgt := 20) (g_at ck_X11_copies 5 rfl) rfl rfl (by omega) (fun h5 => ?_) (fun h5 => absurd h5 (by omega))
    exact tz_vret (g_at ck_X11_copies 14 rfl) rfl (rV_mk ⟨rfl, hR1, hC1, hF1⟩)
  · intro m1 hinv
    obtain ⟨hR1, hC1, hF1⟩ := hinv
    refine tz_iload3 (n := 3) (g_at ck_X11_copies 2 rfl) rfl ?_
    refine tz_aload1 (n := 4) (g_at ck_X11_copies 3 rfl) rfl (g_ne kd_97) ?_
    refine tz_alen (n := 5) kd_97 (g_at ck_X11_copies 4 rfl) rfl ?_
    refine tz_icmp_ge (n := 8) (tgt := 20) (g_at ck_X11_copies 5 rfl) rfl rfl (by omega) (fun h5 => absurd h5 (by omega)) (fun h5 => ?_)
    refine tz_aload2 (n := 9) (g_at ck_X11_copies 6 rfl) rfl (g_ne kd_89) ?_
    refine tz_iload3 (n := 10) (g_at ck_X11_copies 7 rfl) rfl ?_
    refine tz_aload1 (n := 11) (g_at ck_X11_copies 8 rfl) rfl (g_ne kd_97) ?_
    refine tz_iload3 (n := 12) (g_at ck_X11_copies 9 rfl) rfl ?_
    refine tz_iald (n := 13) kd_97 (by omega) (g_at ck_X11_copies 10 rfl) rfl ?_
    refine tz_iastr (n := 14) kd_89 (by omega) (g_at ck_X11_copies 11 rfl) rfl hR1 ⟨(hR1 _ _).1, (hR1 _ _).2⟩ (fun hR1 => ?_)
    refine tz_iinc3 (n := 17) (g_at ck_X11_copies 12 rfl) rfl (by decide) g_hpR ?_
    refine tz_goto (tgt := 2) (g_at ck_X11_copies 13 rfl) rfl ?_
    exact ihi _ ⟨hR1, hC1.s (by rw [hF1 97 (by decide)]), hF1.wrc⟩
theorem mp_copies99 {l : Launch} {γ : Gh} {ρ m : Mm} (hL : LY ρ) (hR : MR m) : gE l γ μX11_copies 0 0 0 (rV KK fun ρ9 m9 => ρ = ρ9 ∧ MR m9 ∧ Cp 99 90 m m9 1400 ∧ Fr [90] m m9) xN KK ρ m [vR 84, vR 99, vR 90] := by
  refine gE.ofw cl_X11.2 ?_ rfl rfl (Nat.le_of_ble_eq_true rfl)
  show gT l γ μX11_copies 0 0 0 _ _ KK ρ m 0 [some (vR 84), some (vR 99), some (vR 90), none] []
  refine tz_iconst (n := 1) (g_at ck_X11_copies 0 rfl) rfl ?_
  refine tz_istore3 (n := 2) (g_at ck_X11_copies 1 rfl) rfl (by decide) g_hpR ?_
  refine g_for (fun i : Nat => ∀ m1 : Mm, (MR m1 ∧ Cp 99 90 m m1 (i : Int) ∧ Fr [90] m m1) → gT l γ μX11_copies 0 0 0 _ _ KK ρ m1 2 [some (vR 84), some (vR 99), some (vR 90), some (vI (i : Int))] []) 1400 ?_ (fun i hi ihi => ?_) 0 (Nat.zero_le _) _ ⟨hR, fun x h8 h9 => absurd h9 (by omega), Fr.rf⟩
  · intro m1 hinv
    obtain ⟨hR1, hC1, hF1⟩ := hinv
    refine tz_iload3 (n := 3) (g_at ck_X11_copies 2 rfl) rfl ?_
    refine tz_aload1 (n := 4) (g_at ck_X11_copies 3 rfl) rfl (g_ne kd_99) ?_
    refine tz_alen (n := 5) kd_99 (g_at ck_X11_copies 4 rfl) rfl ?_
    refine tz_icmp_ge (n := 8) (tgt := 20) (g_at ck_X11_copies 5 rfl) rfl rfl (by omega) (fun h5 => ?_) (fun h5 => absurd h5 (by omega))
    exact tz_vret (g_at ck_X11_copies 14 rfl) rfl (rV_mk ⟨rfl, hR1, hC1, hF1⟩)
  · intro m1 hinv
    obtain ⟨hR1, hC1, hF1⟩ := hinv
    refine tz_iload3 (n := 3) (g_at ck_X11_copies 2 rfl) rfl ?_
    refine tz_aload1 (n := 4) (g_at ck_X11_copies 3 rfl) rfl (g_ne kd_99) ?_
    refine tz_alen (n := 5) kd_99 (g_at ck_X11_copies 4 rfl) rfl ?_
    refine tz_icmp_ge (n := 8) (tgt := 20) (g_at ck_X11_copies 5 rfl) rfl rfl (by omega) (fun h5 => absurd h5 (by omega)) (fun h5 => ?_)
    refine tz_aload2 (n := 9) (g_at ck_X11_copies 6 rfl) rfl (g_ne kd_90) ?_
    refine tz_iload3 (n := 10) (g_at ck_X11_copies 7 rfl) rfl ?_
    refine tz_aload1 (n := 11) (g_at ck_X11_copies 8 rfl) rfl (g_ne kd_99) ?_
    refine tz_iload3 (n := 12) (g_at ck_X11_copies 9 rfl) rfl ?_
    refine tz_iald (n := 13) kd_99 (by omega) (g_at ck_X11_copies 10 rfl) rfl ?_
    refine tz_iastr (n := 14) kd_90 (by omega) (g_at ck_X11_copies 11 rfl) rfl hR1 ⟨(hR1 _ _).1, (hR1 _ _).2⟩ (fun hR1 => ?_)
    refine tz_iinc3 (n := 17) (g_at ck_X11_copies 12 rfl) rfl (by decide) g_hpR ?_
    refine tz_goto (tgt := 2) (g_at ck_X11_copies 13 rfl) rfl ?_
    exact ihi _ ⟨hR1, hC1.s (by rw [hF1 99 (by decide)]), hF1.wrc⟩
