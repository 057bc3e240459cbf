/-! The reference reads: a line. -/
/-- a rule being told lies at field f -/
def RU (m : Mm) (f : Int) (L : List Int) : Prop := (m 84 f = -1 ∧ L = []) ∨ ((0 ≤ m 84 f ∧ m 84 f + ((encL L ++ [0]).length : Int) ≤ m 84 28) ∧ (∀ i : Nat, (h : i < (encL L ++ [0]).length) → m 99 (m 84 f + (i : Int)) = (encL L ++ [0])[i]) ∧ L ≠ [] ∧ okL L 0 ∧ (∀ c ∈ L, -14 ≤ c ∧ c ≤ 9999) ∧ L.length ≤ 700)
theorem RU.x {m m9 : Mm} {f : Int} {L : List Int} {b : Int} (h : RU m f L) (e : m9 84 f = m 84 f) (hb : below b m m9) (h1 : m 84 28 ≤ b) (h2 : m 84 28 ≤ m9 84 28) : RU m9 f L := by
  rcases h with ⟨h3, h4⟩ | ⟨h3, h4, h5⟩
  · exact Or.inl ⟨e.trans h3, h4⟩
  · refine Or.inr ⟨by rw [e]; omega, fun i hi => ?_, h5⟩
    rw [e, hb _ (by omega)]
    exact h4 i hi
theorem RU.k {m m9 : Mm} {f : Int} {L : List Int} {K ks : List Int} (h : RU m f L) (k : FX K ks m m9) (h1 : f ∉ ks) (h2 : (28 : Int) ∉ ks) (h3 : (99 : Int) ∉ K) : RU m9 f L := h.x (b := m 84 28) (k.2 f h1) (below.x k h3) (Int.le_refl _) (by rw [k.2 28 h2]; exact Int.le_refl _)
theorem RU.nw {m9 : Mm} {f b : Int} {N : List Int} (e : m9 84 f = b) (hb : 0 ≤ b) (h : CdC m9 b (encL N ++ [0])) (h1 : N ≠ []) (h2 : OKp N 31) (h3 : ∀ c ∈ N, -14 ≤ c ∧ c ≤ 9999) (h4 : N.length ≤ 700) : RU m9 f N := Or.inr ⟨by rw [e, h.1]; omega, by rw [e]; exact h.2, h1, okp_ok h2 (by decide), h3, h4⟩
theorem RU.ne {m : Mm} {f : Int} {L : List Int} (h : RU m f L) : m 84 f = -1 ↔ L.length = 0 := by
  rcases h with ⟨h1, h2⟩ | ⟨h1, _, h3, _⟩
  · rw [h2]; exact ⟨fun _ => rfl, fun _ => h1⟩
  · constructor
    · intro h9; omega
    · intro h9; exact absurd (List.eq_nil_of_length_eq_zero h9) h3
section
variable {t : Int → Int} {n sp : Int} {s : PS} {ν : Mm} {Q : Int → List Int}
theorem lA_C (h : wdI t n (sP s) 2 = 1) : lA9 t n sp (s, ν, Q) = ((rC9 t n s ν).1, (rC9 t n s ν).2, Q) := if_pos h
theorem lA_R (h2 : ¬ wdI t n (sP s) 2 = 1) (h : wdI t n (sP s) 3 = 1) : lA9 t n sp (s, ν, Q) = ((rR9 t n s ν).1, (rR9 t n s ν).2, Q) := (if_neg h2).trans (if_pos h)
theorem lA_P (h2 : ¬ wdI t n (sP s) 2 = 1) (h3 : ¬ wdI t n (sP s) 3 = 1) (h : wdI t n (sP s) 4 = 1) : lA9 t n sp (s, ν, Q) = ((rP9 t n s ν).1, (rP9 t n s ν).2, Q) := (if_neg h2).trans ((if_neg h3).trans (if_pos h))
theorem lA_A (h2 : ¬ wdI t n (sP s) 2 = 1) (h3 : ¬ wdI t n (sP s) 3 = 1) (h4 : ¬ wdI t n (sP s) 4 = 1) (h : wdI t n (sP s) 5 = 1) : lA9 t n sp (s, ν, Q) = ((rA9 t n s ν).1, (rA9 t n s ν).2, Q) := (if_neg h2).trans ((if_neg h3).trans ((if_neg h4).trans (if_pos h)))
theorem lA_H (h2 : ¬ wdI t n (sP s) 2 = 1) (h3 : ¬ wdI t n (sP s) 3 = 1) (h4 : ¬ wdI t n (sP s) 4 = 1) (h5 : ¬ wdI t n (sP s) 5 = 1) (h : wdI t n (sP s) 6 = 1) : lA9 t n sp (s, ν, Q) = ((rU9 t n (sp + 6) s Q).1, ν, (rU9 t n (sp + 6) s Q).2) := (if_neg h2).trans ((if_neg h3).trans ((if_neg h4).trans ((if_neg h5).trans (if_pos h))))
theorem lA_T (h2 : ¬ wdI t n (sP s) 2 = 1) (h3 : ¬ wdI t n (sP s) 3 = 1) (h4 : ¬ wdI t n (sP s) 4 = 1) (h5 : ¬ wdI t n (sP s) 5 = 1) (h6 : ¬ wdI t n (sP s) 6 = 1) (h : wdI t n (sP s) 14 = 1) : lA9 t n sp (s, ν, Q) = ((rU9 t n (sp + 9) s Q).1, ν, (rU9 t n (sp + 9) s Q).2) := (if_neg h2).trans ((if_neg h3).trans ((if_neg h4).trans ((if_neg h5).trans ((if_neg h6).trans (if_pos h)))))
theorem lA_N (h2 : ¬ wdI t n (sP s) 2 = 1) (h3 : ¬ wdI t n (sP s) 3 = 1) (h4 : ¬ wdI t n (sP s) 4 = 1) (h5 : ¬ wdI t n (sP s) 5 = 1) (h6 : ¬ wdI t n (sP s) 6 = 1) (h : ¬ wdI t n (sP s) 14 = 1) : lA9 t n sp (s, ν, Q) = (fl9 t n 1 s, ν, Q) := (if_neg h2).trans ((if_neg h3).trans ((if_neg h4).trans ((if_neg h5).trans ((if_neg h6).trans (if_neg h)))))
end
/-- what a line leaves, when all is well -/
def LK (m : Mm) (t : Int → Int) (n sp p : Int) (z : LZ) : Prop := (NM m z.2.1 ∧ WN z.2.1) ∧ (RU m 26 (z.2.2 (sp + 6)) ∧ RU m 27 (z.2.2 (sp + 9))) ∧ (0 ≤ m 84 28 ∧ m 84 28 ≤ 2 * sP z.1) ∧ p ≤ sP z.1
def sgM (m : Mm) (c : Int) : Int := if m 84 18 = 3 ∧ m 84 22 = c then 1 else 0
theorem sgM_01 (m : Mm) (c : Int) : sgM m c = 0 ∨ sgM m c = 1 := by unfold sgM; split <;> simp
theorem GS.sg {ρ m : Mm} {t : Int → Int} {n c : Int} {s : PS} (h : GS ρ m t n s) (hc : 40 ≤ c ∧ c ≤ 61) (g : s.1 = 1) : sgM m c = ki9 t n (sP s) c := by
  have K := (h.g g).1
  have so := so9_1 (tK t n (sP s))
  unfold sgM ki9
  rw [K.2.2.2.2.2.1]
  by_cases e : tK t n (sP s) = c
  · rw [if_pos e, if_pos ⟨by omega, by rw [K.2.2.2.2.2.2.2.1 (by omega)]; exact e⟩]
  · rw [if_neg e, if_neg]
    intro h9
    have h3 : 3 < tK t n (sP s) ∨ tK t n (sP s) < 0 := by omega
    rcases h3 with h3 | h3
    · rw [K.2.2.2.2.2.2.2.1 h3] at h9; exact e h9.2
    · have := (Tk_is t n (sP s)).2
      rcases this with ⟨_, k, _⟩ | ⟨_, _, k, _⟩ | ⟨_, _, k, _, _⟩ | ⟨_, _, _, k, _⟩
      · omega
      · omega
      · omega
      · rcases k with k | k
        · have := k.1
          unfold sgnC at this
          omega
        · omega
theorem mp_isSignM {l : Launch} {γ : Gh} {ρ m : Mm} {c : Int} (hR : MR m) (hc : 40 ≤ c ∧ c ≤ 61) : gE l γ μX11_isSign 0 0 0 (rI KK fun x ρ9 m9 => ρ = ρ9 ∧ MR m9 ∧ sgM m c = x ∧ m = m9) xN KK ρ m [vR 84, vI c] := by
  refine gE.ofw cl_X11.2 ?_ rfl rfl (Nat.le_of_ble_eq_true rfl)
  show gT l γ μX11_isSign 0 0 0 _ _ KK ρ m 0 [some (vR 84), some (vI c)] []
  have h18 := hR 84 18
  have h22 := hR 84 22
  refine tz_aload0 (n := 1) (g_at ck_X11_isSign 0 rfl) rfl (g_ne kd_84) ?_
  refine tz_getIw (n := 4) (kz := 18) fk_X11_165 kd_84 (g_at ck_X11_isSign 1 rfl) rfl rfl ?_
  refine tz_iconst (n := 5) (g_at ck_X11_isSign 2 rfl) rfl ?_
  refine tz_icmp_ne (n := 8) (tgt := 20) (g_at ck_X11_isSign 3 rfl) rfl rfl (by omega) (fun h5 => ?_) (fun h5 => ?_)
  · skip
    refine tz_iconst (n := 21) (g_at ck_X11_isSign 10 rfl) rfl ?_
    exact tz_bret (g_at ck_X11_isSign 11 rfl) rfl (by decide) (rI_mk ⟨rfl, hR, if_neg (fun h9 => h5 h9.1), rfl⟩)
  · skip
    refine tz_aload0 (n := 9) (g_at ck_X11_isSign 4 rfl) rfl (g_ne kd_84) ?_
    refine tz_getIw (n := 12) (kz := 22) fk_X11_162 kd_84 (g_at ck_X11_isSign 5 rfl) rfl rfl ?_
    refine tz_iload1 (n := 13) (g_at ck_X11_isSign 6 rfl) rfl ?_
    refine tz_icmp_ne (n := 16) (tgt := 20) (g_at ck_X11_isSign 7 rfl) rfl rfl (by omega) (fun h13 => ?_) (fun h13 => ?_)
    · skip
      refine tz_iconst (n := 21) (g_at ck_X11_isSign 10 rfl) rfl ?_
      exact tz_bret (g_at ck_X11_isSign 11 rfl) rfl (by decide) (rI_mk ⟨rfl, hR, if_neg (fun h9 => h13 h9.2), rfl⟩)
    · skip
      refine tz_iconst (n := 17) (g_at ck_X11_isSign 8 rfl) rfl ?_
      refine tz_goto (tgt := 21) (g_at ck_X11_isSign 9 rfl) rfl ?_
      exact tz_bret (g_at ck_X11_isSign 11 rfl) rfl (by decide) (rI_mk ⟨rfl, hR, if_pos ⟨h5, h13⟩, rfl⟩)
theorem nx_le {t : Int → Int} {n : Int} {s : PS} (hB : BY t) (hp : 0 ≤ sP s ∧ sP s ≤ n) : sP s ≤ sP (nx9 t n s) ∧ sP (nx9 t n s) ≤ n := by
  have r := tk_rg (t := t) (n := n) hB hp
  show sP s ≤ tQ t n (sP s) ∧ tQ t n (sP s) ≤ n
  omega
section
variable {t : Int → Int} {n : Int} {s : PS} {ν : Mm}
theorem td_s {k : Int} (h : (td9 t n k s).1 = 1) : td9 t n k s = s ∨ ¬ s.1 = 1 := by
  by_cases g : s.1 = 1
  · left
    have e := tB_ok (t := t) (n := n) (k := k) g (by rw [show tB9 t n k s = td9 t n k s from if_pos g]; omega)
    rw [← show tB9 t n k s = td9 t n k s from if_pos g]
    exact e.1
  · exact Or.inr g
theorem rC_p (hB : BY t) (hp : 0 ≤ sP s ∧ sP s ≤ n) (h : (rC9 t n s ν).1.1 = 1) : sP s ≤ sP (rC9 t n s ν).1 := by
  have a1 := nx_le (t := t) (n := n) hB hp
  have a2 := nx_le (t := t) (n := n) (s := nx9 t n s) hB (by omega)
  have a3 := nx_le (t := t) (n := n) (s := nx9 t n (nx9 t n s)) hB (by omega)
  unfold rC9 at h ⊢
  repeat' split at h
  all_goals first | exact absurd h fl_n | (rename_i k; exact absurd h k) | skip
  · rw [if_neg (by assumption), if_pos (by assumption), if_pos (by assumption)]
    show sP s ≤ sP (nx9 t n (nx9 t n (nx9 t n s)))
    omega
theorem rR_p (hB : BY t) (hp : 0 ≤ sP s ∧ sP s ≤ n) (h : (rR9 t n s ν).1.1 = 1) : sP s ≤ sP (rR9 t n s ν).1 := by
  have a1 := nx_le (t := t) (n := n) hB hp
  have a2 := nx_le (t := t) (n := n) (s := nx9 t n s) hB (by omega)
  have a3 := nx_le (t := t) (n := n) (s := nx9 t n (nx9 t n s)) hB (by omega)
  unfold rR9 at h ⊢
  repeat' split at h
  all_goals first | exact absurd h fl_n | (rename_i k; exact absurd h k) | skip
  · rw [if_pos (by assumption), if_neg (by assumption), if_pos (by assumption), if_neg (by assumption)]
    show sP s ≤ sP (nx9 t n (nx9 t n (nx9 t n s)))
    omega
theorem rP_p (hB : BY t) (hp : 0 ≤ sP s ∧ sP s ≤ n) (h : (rP9 t n s ν).1.1 = 1) : sP s ≤ sP (rP9 t n s ν).1 := by
  have a1 := nx_le (t := t) (n := n) hB hp
  have a2 := nx_le (t := t) (n := n) (s := nx9 t n s) hB (by omega)
  have a3 := nx_le (t := t) (n := n) (s := nx9 t n (nx9 t n s)) hB (by omega)
  have a4 := nx_le (t := t) (n := n) (s := nx9 t n (nx9 t n (nx9 t n s))) hB (by omega)
  unfold rP9 at h ⊢
  repeat' split at h
  all_goals first | exact absurd h fl_n | (rename_i k; exact absurd h k) | skip
  · rw [if_neg (by assumption), if_pos (by assumption), if_pos (by assumption), if_pos (by assumption)]
    show sP s ≤ sP (nx9 t n (nx9 t n (nx9 t n (nx9 t n s))))
    omega
theorem rA_p (hB : BY t) (hp : 0 ≤ sP s ∧ sP s ≤ n) (h : (rA9 t n s ν).1.1 = 1) : sP s ≤ sP (rA9 t n s ν).1 := by
  have a1 := nx_le (t := t) (n := n) hB hp
  have a2 := nx_le (t := t) (n := n) (s := nx9 t n s) hB (by omega)
  have a3 := nx_le (t := t) (n := n) (s := nx9 t n (nx9 t n s)) hB (by omega)
  unfold rA9 at h ⊢
  repeat' split at h
  all_goals first | exact absurd h fl_n | (rename_i k; exact absurd h k) | skip
  · rw [if_pos (by assumption), if_neg (by assumption), if_pos (by assumption)]
    show sP s ≤ sP (nx9 t n (nx9 t n (nx9 t n s)))
    omega
end
