/-! Tokens: one by one; words. -/
theorem sLen_1 : sLen 1 = 9 := by
  unfold sLen
  rw [g_len_v]
  rfl
theorem sCh_1 (j : Int) : sCh 1 j = (([59, 40, 41, 43, 45, 42, 47, 60, 61] : List Int32).getD j.toNat 0).toInt := by
  unfold sCh
  rw [g_byt_v]
  rfl
theorem sgn_y {c x : Int} (h : 0 ≤ x ∧ x < sLen 1 ∧ sCh 1 x = c) : sgnC c := by
  rw [sLen_1] at h
  have hx : x = 0 ∨ x = 1 ∨ x = 2 ∨ x = 3 ∨ x = 4 ∨ x = 5 ∨ x = 6 ∨ x = 7 ∨ x = 8 := by omega
  have h3 := h.2.2
  rw [sCh_1] at h3
  unfold sgnC
  rcases hx with rfl | rfl | rfl | rfl | rfl | rfl | rfl | rfl | rfl
  · exact Or.inl h3.symm
  · exact Or.inr (Or.inl h3.symm)
  · exact Or.inr (Or.inr (Or.inl h3.symm))
  · exact Or.inr (Or.inr (Or.inr (Or.inl h3.symm)))
  · exact Or.inr (Or.inr (Or.inr (Or.inr (Or.inl h3.symm))))
  · exact Or.inr (Or.inr (Or.inr (Or.inr (Or.inr (Or.inl h3.symm)))))
  · exact Or.inr (Or.inr (Or.inr (Or.inr (Or.inr (Or.inr (Or.inl h3.symm))))))
  · exact Or.inr (Or.inr (Or.inr (Or.inr (Or.inr (Or.inr (Or.inr (Or.inl h3.symm)))))))
  · exact Or.inr (Or.inr (Or.inr (Or.inr (Or.inr (Or.inr (Or.inr (Or.inr h3.symm)))))))
theorem sgn_n {c : Int} (h : ∀ j : Nat, (j : Int) < sLen 1 → sCh 1 (j : Int) ≠ c) : ¬ sgnC c := fun k => by
  rw [sLen_1] at h
  have q : ∀ (j : Nat), j < 9 → (([59, 40, 41, 43, 45, 42, 47, 60, 61] : List Int32).getD j 0).toInt ≠ c := fun j hj => by
    have := h j (by omega)
    rw [sCh_1] at this
    exact this
  unfold sgnC at k
  rcases k with k | k | k | k | k | k | k | k | k
  · exact q 0 (by decide) k.symm
  · exact q 1 (by decide) k.symm
  · exact q 2 (by decide) k.symm
  · exact q 3 (by decide) k.symm
  · exact q 4 (by decide) k.symm
  · exact q 5 (by decide) k.symm
  · exact q 6 (by decide) k.symm
  · exact q 7 (by decide) k.symm
  · exact q 8 (by decide) k.symm
theorem b2c_id {c : Int} (h : 0 ≤ c ∧ c < 256) : b2c c = c := by
  have : ∀ k : Nat, k < 256 → b2c (k : Int) = (k : Int) := by decide +kernel
  have := this c.toNat (by omega)
  rw [show ((c.toNat : Nat) : Int) = c by omega] at this
  exact this
section
variable {m : Mm} {t : Int → Int} {n p : Int}
theorem TokC.a (h : TokC m t n p) : m 38 4 = tA t n p := (Tk_uni h.2.2 (Tk_is t n p)).1
theorem TokC.k (h : TokC m t n p) : m 38 3 = tK t n p := (Tk_uni h.2.2 (Tk_is t n p)).2.1
theorem TokC.q (h : TokC m t n p) : m 38 2 = tQ t n p := (Tk_uni h.2.2 (Tk_is t n p)).2.2.1
theorem TokC.v (h : TokC m t n p) (hk : tK t n p = 2) : m 38 5 = tV t n p := (Tk_uni h.2.2 (Tk_is t n p)).2.2.2 (h.k.trans hk)
theorem tk_rg (hB : BY t) (hp : 0 ≤ p ∧ p ≤ n) : (p ≤ tA t n p ∧ tA t n p ≤ n) ∧ (tA t n p ≤ tQ t n p ∧ tQ t n p ≤ n) ∧ (0 ≤ tK t n p ∧ tK t n p < 256) ∧ (tK t n p ≠ 0 → tA t n p < tQ t n p) := Tk_rg (Tk_is t n p) hp hB
theorem tv_rg (h : tK t n p = 2) : 0 ≤ tV t n p ∧ tV t n p ≤ 9999 := by
  have k := (Tk_is t n p).2
  rcases k with ⟨e1, e2, e3⟩ | ⟨e1, e2, e3, e4⟩ | ⟨e1, e2, e3, e4, e5⟩ | ⟨e1, e2, e3, e4, e5⟩
  · omega
  · omega
  · rw [e5]
    refine nmV_9 (by unfold mn4; split <;> omega) (fun j hj => (e4.2.1 _ (by omega) ?_).2)
    unfold mn4 at hj
    split at hj <;> omega
  · rcases e4 with e4 | e4
    · have := e4.1
      unfold sgnC at this
      omega
    · omega
end
theorem TokC.fr {m m9 : Mm} {t : Int → Int} {n p : Int} (h : TokC m t n p) (k : m9 38 = m 38) (k2 : m9 2 = m 2) : TokC m9 t n p := ⟨by rw [k]; exact h.1, fun j h1 h2 => by rw [k2]; exact h.2.1 j h1 h2, by rw [k]; exact h.2.2⟩
def kdR (c x : Int) : Prop := (letter c ∧ x = 1) ∨ (¬ letter c ∧ digit c ∧ x = 2) ∨ (¬ letter c ∧ ¬ digit c ∧ ((sgnC c ∧ x = c) ∨ (¬ sgnC c ∧ x = 3)))
section
variable {c x y : Int}
theorem kq_rg (h : kdR c x) (hc : 0 ≤ c ∧ c < 256) : 0 < x ∧ x < 256 := by
  rcases h with ⟨h1, h2⟩ | ⟨h1, h2, h3⟩ | ⟨h1, h2, ⟨h3, h4⟩ | ⟨h3, h4⟩⟩
  · omega
  · omega
  · unfold sgnC at h3
    omega
  · omega
theorem kq_1 (h : kdR c x) (e : x = 1) : letter c := by
  rcases h with ⟨h1, h2⟩ | ⟨h1, h2, h3⟩ | ⟨h1, h2, ⟨h3, h4⟩ | ⟨h3, h4⟩⟩
  · exact h1
  · omega
  · unfold sgnC at h3
    omega
  · omega
theorem kq_2 (h : kdR c x) (e : x = 2) : digit c := by
  rcases h with ⟨h1, h2⟩ | ⟨h1, h2, h3⟩ | ⟨h1, h2, ⟨h3, h4⟩ | ⟨h3, h4⟩⟩
  · omega
  · exact h2
  · unfold sgnC at h3
    omega
  · omega
theorem kq_l (h : kdR c x) (k : letter c) : x = 1 := by
  rcases h with ⟨h1, h2⟩ | ⟨h1, h2, h3⟩ | ⟨h1, h2, h3⟩
  · exact h2
  · exact absurd k h1
  · exact absurd k h1
theorem kq_d (h : kdR c x) (k : digit c) : x = 2 := by
  rcases h with ⟨h1, h2⟩ | ⟨h1, h2, h3⟩ | ⟨h1, h2, h3⟩
  · unfold letter at h1
    unfold digit at k
    omega
  · exact h3
  · exact absurd k h2
theorem kq_n (h : kdR c x) (h1 : x ≠ 1) (h2 : x ≠ 2) : ¬ letter c ∧ ¬ digit c ∧ ((sgnC c ∧ x = c) ∨ (¬ sgnC c ∧ x = 3)) := by
  rcases h with ⟨h3, h4⟩ | ⟨h3, h4, h5⟩ | h3
  · exact absurd h4 h1
  · exact absurd h5 h2
  · exact h3
theorem kq_u (h : kdR c x) (k : kdR c y) : x = y := by
  rcases h with ⟨h1, h2⟩ | ⟨h1, h2, h3⟩ | ⟨h1, h2, h3⟩
  · rw [h2, kq_l k h1]
  · rw [h3, kq_d k h2]
  · rcases k with ⟨k1, k2⟩ | ⟨k1, k2, k3⟩ | ⟨k1, k2, k3⟩
    · exact absurd k1 h1
    · exact absurd k2 h2
    · rcases h3 with h3 | h3
      · rcases k3 with k3 | k3
        · rw [h3.2, k3.2]
        · exact absurd h3.1 k3.1
      · rcases k3 with k3 | k3
        · exact absurd k3.1 h3.1
        · rw [h3.2, k3.2]
end
theorem sp_kindOf {l : Launch} {γ : Gh} {ρ m : Mm} {c : Int} (hR : MR m) (hc : 0 ≤ c ∧ c < 256) : gE l γ μX7_kindOf 5 0 0 (rI KK fun x ρ9 m9 => ρ = ρ9 ∧ MR m9 ∧ kdR c x ∧ m = m9) xN KK ρ m [vI c] := by
  refine gE.ofw cl_X7.2 ?_ rfl rfl (Nat.le_of_ble_eq_true rfl)
  show gT l γ μX7_kindOf 5 0 0 _ _ KK ρ m 0 [some (vI c)] []
  refine tz_iload0 (n := 1) (g_at ck_X7_kindOf 0 rfl) rfl ?_
  refine tz_bipush (n := 3) (g_at ck_X7_kindOf 1 rfl) rfl rfl ?_
  refine tz_icmp_lt (n := 6) (tgt := 14) (g_at ck_X7_kindOf 2 rfl) rfl rfl ⟨(by omega), (by omega), (by decide), (by decide)⟩ (fun h3 => ?_) (fun h3 => ?_)
  · skip
    refine tz_iload0 (n := 15) (g_at ck_X7_kindOf 8 rfl) rfl ?_
    refine tz_bipush (n := 17) (g_at ck_X7_kindOf 9 rfl) rfl rfl ?_
    refine tz_icmp_lt (n := 20) (tgt := 28) (g_at ck_X7_kindOf 10 rfl) rfl rfl ⟨(by omega), (by omega), (by decide), (by decide)⟩ (fun h17 => ?_) (fun h17 => ?_)
    · skip
      refine tz_ldcSw (n := 30) st_1 (g_at ck_X7_kindOf 16 rfl) rfl ?_
      refine tz_iload0 (n := 31) (g_at ck_X7_kindOf 17 rfl) rfl ?_
      refine tz_i2c (n := 32) (g_at ck_X7_kindOf 18 rfl) rfl ?_
      rw [b2c_id hc]
      refine tz_cvS1 (n := 35) (μ' := μJ0_indexOf_0f7a4) (cb' := 0) (sb' := 0) (g_in (g_m3 (List.mem_of_getElem? (i := 233) rfl)) rfl) mo_J0_indexOf_0f7a4 mv_J0_indexOf_0f7a4 np_J0_indexOf_0f7a4 sn_1 (g_at ck_X7_kindOf 19 rfl) (sp_indexOf (i9 := 1) sn_1 hR hc) rfl rfl rfl ⟨by decide, by decide⟩ (Nat.le_of_ble_eq_true rfl) (by decide) (by decide) (fun x32 ρ9 m32 hq => ?_)
      obtain ⟨rfl, hR1, hx32, rfl⟩ := hq
      have hx9 : -1 ≤ x32 ∧ x32 < 2147483648 := by have := sLen_1; omega
      refine tz_if_lt (n := 38) (tgt := 42) (g_at ck_X7_kindOf 20 rfl) rfl rfl (by omega) (fun h35 => ?_) (fun h35 => ?_)
      · skip
        refine tz_iconst (n := 43) (g_at ck_X7_kindOf 23 rfl) rfl ?_
        exact tz_iret (g_at ck_X7_kindOf 24 rfl) rfl (rI_mk ⟨rfl, hR1, Or.inr (Or.inr ⟨by unfold letter; omega, by unfold digit; omega, Or.inr ⟨sgn_n (hx32.resolve_right (by omega)).2, rfl⟩⟩), rfl⟩)
      · skip
        refine tz_iload0 (n := 39) (g_at ck_X7_kindOf 21 rfl) rfl ?_
        refine tz_goto (tgt := 43) (g_at ck_X7_kindOf 22 rfl) rfl ?_
        exact tz_iret (g_at ck_X7_kindOf 24 rfl) rfl (rI_mk ⟨rfl, hR1, Or.inr (Or.inr ⟨by unfold letter; omega, by unfold digit; omega, Or.inl ⟨sgn_y (hx32.resolve_left (by omega)), rfl⟩⟩), rfl⟩)
    · skip
      refine tz_iload0 (n := 21) (g_at ck_X7_kindOf 11 rfl) rfl ?_
      refine tz_bipush (n := 23) (g_at ck_X7_kindOf 12 rfl) rfl rfl ?_
      refine tz_icmp_gt (n := 26) (tgt := 28) (g_at ck_X7_kindOf 13 rfl) rfl rfl ⟨(by omega), (by omega), (by decide), (by decide)⟩ (fun h23 => ?_) (fun h23 => ?_)
      · skip
        refine tz_ldcSw (n := 30) st_1 (g_at ck_X7_kindOf 16 rfl) rfl ?_
        refine tz_iload0 (n := 31) (g_at ck_X7_kindOf 17 rfl) rfl ?_
        refine tz_i2c (n := 32) (g_at ck_X7_kindOf 18 rfl) rfl ?_
        rw [b2c_id hc]
        refine tz_cvS1 (n := 35) (μ' := μJ0_indexOf_0f7a4) (cb' := 0) (sb' := 0) (g_in (g_m3 (List.mem_of_getElem? (i := 233) rfl)) rfl) mo_J0_indexOf_0f7a4 mv_J0_indexOf_0f7a4 np_J0_indexOf_0f7a4 sn_1 (g_at ck_X7_kindOf 19 rfl) (sp_indexOf (i9 := 1) sn_1 hR hc) rfl rfl rfl ⟨by decide, by decide⟩ (Nat.le_of_ble_eq_true rfl) (by decide) (by decide) (fun x32 ρ9 m32 hq => ?_)
        obtain ⟨rfl, hR2, hx32, rfl⟩ := hq
        have hx9 : -1 ≤ x32 ∧ x32 < 2147483648 := by have := sLen_1; omega
        refine tz_if_lt (n := 38) (tgt := 42) (g_at ck_X7_kindOf 20 rfl) rfl rfl (by omega) (fun h35 => ?_) (fun h35 => ?_)
        · skip
          refine tz_iconst (n := 43) (g_at ck_X7_kindOf 23 rfl) rfl ?_
          exact tz_iret (g_at ck_X7_kindOf 24 rfl) rfl (rI_mk ⟨rfl, hR2, Or.inr (Or.inr ⟨by unfold letter; omega, by unfold digit; omega, Or.inr ⟨sgn_n (hx32.resolve_right (by omega)).2, rfl⟩⟩), rfl⟩)
        · skip
          refine tz_iload0 (n := 39) (g_at ck_X7_kindOf 21 rfl) rfl ?_
          refine tz_goto (tgt := 43) (g_at ck_X7_kindOf 22 rfl) rfl ?_
          exact tz_iret (g_at ck_X7_kindOf 24 rfl) rfl (rI_mk ⟨rfl, hR2, Or.inr (Or.inr ⟨by unfold letter; omega, by unfold digit; omega, Or.inl ⟨sgn_y (hx32.resolve_left (by omega)), rfl⟩⟩), rfl⟩)
      · skip
        refine tz_iconst (n := 27) (g_at ck_X7_kindOf 14 rfl) rfl ?_
        exact tz_iret (g_at ck_X7_kindOf 15 rfl) rfl (rI_mk ⟨rfl, hR, Or.inr (Or.inl ⟨by unfold letter; omega, by unfold digit; omega, rfl⟩), rfl⟩)
  · skip
    refine tz_iload0 (n := 7) (g_at ck_X7_kindOf 3 rfl) rfl ?_
    refine tz_bipush (n := 9) (g_at ck_X7_kindOf 4 rfl) rfl rfl ?_
    refine tz_icmp_gt (n := 12) (tgt := 14) (g_at ck_X7_kindOf 5 rfl) rfl rfl ⟨(by omega), (by omega), (by decide), (by decide)⟩ (fun h9 => ?_) (fun h9 => ?_)
    · skip
      refine tz_iload0 (n := 15) (g_at ck_X7_kindOf 8 rfl) rfl ?_
      refine tz_bipush (n := 17) (g_at ck_X7_kindOf 9 rfl) rfl rfl ?_
      refine tz_icmp_lt (n := 20) (tgt := 28) (g_at ck_X7_kindOf 10 rfl) rfl rfl ⟨(by omega), (by omega), (by decide), (by decide)⟩ (fun h17 => ?_) (fun h17 => ?_)
      · skip
        refine tz_ldcSw (n := 30) st_1 (g_at ck_X7_kindOf 16 rfl) rfl ?_
        refine tz_iload0 (n := 31) (g_at ck_X7_kindOf 17 rfl) rfl ?_
        refine tz_i2c (n := 32) (g_at ck_X7_kindOf 18 rfl) rfl ?_
        rw [b2c_id hc]
        refine tz_cvS1 (n := 35) (μ' := μJ0_indexOf_0f7a4) (cb' := 0) (sb' := 0) (g_in (g_m3 (List.mem_of_getElem? (i := 233) rfl)) rfl) mo_J0_indexOf_0f7a4 mv_J0_indexOf_0f7a4 np_J0_indexOf_0f7a4 sn_1 (g_at ck_X7_kindOf 19 rfl) (sp_indexOf (i9 := 1) sn_1 hR hc) rfl rfl rfl ⟨by decide, by decide⟩ (Nat.le_of_ble_eq_true rfl) (by decide) (by decide) (fun x32 ρ9 m32 hq => ?_)
        obtain ⟨rfl, hR3, hx32, rfl⟩ := hq
        have hx9 : -1 ≤ x32 ∧ x32 < 2147483648 := by have := sLen_1; omega
        refine tz_if_lt (n := 38) (tgt := 42) (g_at ck_X7_kindOf 20 rfl) rfl rfl (by omega) (fun h35 => ?_) (fun h35 => ?_)
        · skip
          refine tz_iconst (n := 43) (g_at ck_X7_kindOf 23 rfl) rfl ?_
          exact tz_iret (g_at ck_X7_kindOf 24 rfl) rfl (rI_mk ⟨rfl, hR3, Or.inr (Or.inr ⟨by unfold letter; omega, by unfold digit; omega, Or.inr ⟨sgn_n (hx32.resolve_right (by omega)).2, rfl⟩⟩), rfl⟩)
        · skip
          refine tz_iload0 (n := 39) (g_at ck_X7_kindOf 21 rfl) rfl ?_
          refine tz_goto (tgt := 43) (g_at ck_X7_kindOf 22 rfl) rfl ?_
          exact tz_iret (g_at ck_X7_kindOf 24 rfl) rfl (rI_mk ⟨rfl, hR3, Or.inr (Or.inr ⟨by unfold letter; omega, by unfold digit; omega, Or.inl ⟨sgn_y (hx32.resolve_left (by omega)), rfl⟩⟩), rfl⟩)
      · skip
        refine tz_iload0 (n := 21) (g_at ck_X7_kindOf 11 rfl) rfl ?_
        refine tz_bipush (n := 23) (g_at ck_X7_kindOf 12 rfl) rfl rfl ?_
        refine tz_icmp_gt (n := 26) (tgt := 28) (g_at ck_X7_kindOf 13 rfl) rfl rfl ⟨(by omega), (by omega), (by decide), (by decide)⟩ (fun h23 => ?_) (fun h23 => ?_)
        · skip
          refine tz_ldcSw (n := 30) st_1 (g_at ck_X7_kindOf 16 rfl) rfl ?_
          refine tz_iload0 (n := 31) (g_at ck_X7_kindOf 17 rfl) rfl ?_
          refine tz_i2c (n := 32) (g_at ck_X7_kindOf 18 rfl) rfl ?_
          rw [b2c_id hc]
          refine tz_cvS1 (n := 35) (μ' := μJ0_indexOf_0f7a4) (cb' := 0) (sb' := 0) (g_in (g_m3 (List.mem_of_getElem? (i := 233) rfl)) rfl) mo_J0_indexOf_0f7a4 mv_J0_indexOf_0f7a4 np_J0_indexOf_0f7a4 sn_1 (g_at ck_X7_kindOf 19 rfl) (sp_indexOf (i9 := 1) sn_1 hR hc) rfl rfl rfl ⟨by decide, by decide⟩ (Nat.le_of_ble_eq_true rfl) (by decide) (by decide) (fun x32 ρ9 m32 hq => ?_)
          obtain ⟨rfl, hR4, hx32, rfl⟩ := hq
          have hx9 : -1 ≤ x32 ∧ x32 < 2147483648 := by have := sLen_1; omega
          refine tz_if_lt (n := 38) (tgt := 42) (g_at ck_X7_kindOf 20 rfl) rfl rfl (by omega) (fun h35 => ?_) (fun h35 => ?_)
          · skip
            refine tz_iconst (n := 43) (g_at ck_X7_kindOf 23 rfl) rfl ?_
            exact tz_iret (g_at ck_X7_kindOf 24 rfl) rfl (rI_mk ⟨rfl, hR4, Or.inr (Or.inr ⟨by unfold letter; omega, by unfold digit; omega, Or.inr ⟨sgn_n (hx32.resolve_right (by omega)).2, rfl⟩⟩), rfl⟩)
          · skip
            refine tz_iload0 (n := 39) (g_at ck_X7_kindOf 21 rfl) rfl ?_
            refine tz_goto (tgt := 43) (g_at ck_X7_kindOf 22 rfl) rfl ?_
            exact tz_iret (g_at ck_X7_kindOf 24 rfl) rfl (rI_mk ⟨rfl, hR4, Or.inr (Or.inr ⟨by unfold letter; omega, by unfold digit; omega, Or.inl ⟨sgn_y (hx32.resolve_left (by omega)), rfl⟩⟩), rfl⟩)
        · skip
          refine tz_iconst (n := 27) (g_at ck_X7_kindOf 14 rfl) rfl ?_
          exact tz_iret (g_at ck_X7_kindOf 15 rfl) rfl (rI_mk ⟨rfl, hR, Or.inr (Or.inl ⟨by unfold letter; omega, by unfold digit; omega, rfl⟩), rfl⟩)
    · skip
      refine tz_iconst (n := 13) (g_at ck_X7_kindOf 6 rfl) rfl ?_
      exact tz_iret (g_at ck_X7_kindOf 7 rfl) rfl (rI_mk ⟨rfl, hR, Or.inl ⟨by unfold letter; omega, rfl⟩, rfl⟩)
theorem sp_advance {l : Launch} {γ : Gh} {ρ m : Mm} {t : Int → Int} {n p : Int} (hL : LY ρ) (hR : MR m) (hB : BY t) (hn : 0 ≤ n ∧ n ≤ 700) (hp : 0 ≤ p ∧ p ≤ n) (hn1 : m 38 1 = n) (hT : TpC m t n) (hat : m 38 2 = p) : gE l γ μX7_advance 6 0 0 (rV KK fun ρ9 m9 => ρ = ρ9 ∧ MR m9 ∧ Fr [38] m m9 ∧ TokC m9 t n p) xN KK ρ m [vR 38] := by
  refine gE.ofw cl_X7.2 ?_ rfl rfl (Nat.le_of_ble_eq_true rfl)
  show gT l γ μX7_advance 6 0 0 _ _ KK ρ m 0 [some (vR 38), none] []
  refine g_cut (T := ∀ m1 : Mm, (MR m1 ∧ Fr [38] m m1 ∧ m1 38 1 = n ∧ isEnd blnk t n p (m1 38 2)) → gT l γ μX7_advance 6 0 0 (rV KK fun ρ9 m9 => ρ = ρ9 ∧ MR m9 ∧ Fr [38] m m9 ∧ TokC m9 t n p) xN KK ρ m1 52 [some (vR 38), none] []) (fun hj52 => ?_) ?_
  · skip
    refine g_for (fun i : Nat => ∀ m1 : Mm, (MR m1 ∧ Fr [38] m m1 ∧ m1 38 1 = n ∧ m1 38 2 = p + (i : Int) ∧ ∀ j, p ≤ j → j < p + (i : Int) → j < n ∧ blnk (t j)) → gT l γ μX7_advance 6 0 0 _ _ KK ρ m1 0 [some (vR 38), none] []) (n - p).toNat ?_ (fun i hi ihi => ?_) 0 (Nat.zero_le _) _ ⟨hR, Fr.rf, hn1, by rw [hat]; show p = p + 0; omega, fun j h1 h2 => absurd h2 (by show ¬ j < p + 0; omega)⟩
    · intro m1 hinv
      obtain ⟨hR1, hF1, hl1, ha1, hw1⟩ := hinv
      refine tz_aload0 (n := 1) (g_at ck_X7_advance 0 rfl) rfl (g_ne kd_38) ?_
      refine tz_getIw (n := 4) (kz := 2) fk_X7_23 kd_38 (g_at ck_X7_advance 1 rfl) rfl rfl ?_
      rw [ha1]
      refine tz_aload0 (n := 5) (g_at ck_X7_advance 2 rfl) rfl (g_ne kd_38) ?_
      refine tz_getIw (n := 8) (kz := 1) fk_X7_19 kd_38 (g_at ck_X7_advance 3 rfl) rfl rfl ?_
      rw [hl1]
      refine tz_icmp_ge (n := 11) (tgt := 52) (g_at ck_X7_advance 4 rfl) rfl rfl ⟨by omega, by omega, by omega, by omega⟩ (fun h8 => ?_) (fun h8 => absurd h8 (by omega))
      exact hj52 _ ⟨hR1, hF1, hl1, by rw [ha1]; exact ⟨by omega, hw1, fun h9 => absurd h9.1 (by omega)⟩⟩
    · intro m1 hinv
      obtain ⟨hR1, hF1, hl1, ha1, hw1⟩ := hinv
      have hT1 := hT.fr hF1
      have hb9 := hB (p + (i : Int))
      refine tz_aload0 (n := 1) (g_at ck_X7_advance 0 rfl) rfl (g_ne kd_38) ?_
      refine tz_getIw (n := 4) (kz := 2) fk_X7_23 kd_38 (g_at ck_X7_advance 1 rfl) rfl rfl ?_
      rw [ha1]
      refine tz_aload0 (n := 5) (g_at ck_X7_advance 2 rfl) rfl (g_ne kd_38) ?_
      refine tz_getIw (n := 8) (kz := 1) fk_X7_19 kd_38 (g_at ck_X7_advance 3 rfl) rfl rfl ?_
      rw [hl1]
      refine tz_icmp_ge (n := 11) (tgt := 52) (g_at ck_X7_advance 4 rfl) rfl rfl ⟨by omega, by omega, by omega, by omega⟩ (fun h8 => absurd h8 (by omega)) (fun h8 => ?_)
      refine tz_aload0 (n := 12) (g_at ck_X7_advance 5 rfl) rfl (g_ne kd_38) ?_
      refine tz_getAv (n := 15) (a := 2) fk_X7_7 kd_38 (ly_38_0 hL) (g_at ck_X7_advance 6 rfl) rfl ?_
      refine tz_aload0 (n := 16) (g_at ck_X7_advance 7 rfl) rfl (g_ne kd_38) ?_
      refine tz_getIw (n := 19) (kz := 2) fk_X7_23 kd_38 (g_at ck_X7_advance 8 rfl) rfl rfl ?_
      rw [ha1]
      refine tz_iald (n := 20) kd_2 (by omega) (g_at ck_X7_advance 9 rfl) rfl ?_
      rw [hT1 _ (by omega) (by omega)]
      refine tz_bipush (n := 22) (g_at ck_X7_advance 10 rfl) rfl rfl ?_
      refine tz_icmp_eq (n := 25) (tgt := 39) (g_at ck_X7_advance 11 rfl) rfl rfl ⟨by omega, by omega, by decide, by decide⟩ (fun h22 => ?_) (fun h22 => ?_)
      · skip
        refine tz_aload0 (n := 40) (g_at ck_X7_advance 19 rfl) rfl (g_ne kd_38) ?_
        refine tz_dupR (n := 41) (g_at ck_X7_advance 20 rfl) rfl ?_
        refine tz_getIw (n := 44) (kz := 2) fk_X7_23 kd_38 (g_at ck_X7_advance 21 rfl) rfl rfl ?_
        rw [ha1]
        refine tz_iconst (n := 45) (g_at ck_X7_advance 22 rfl) rfl ?_
        refine tz_iadd (n := 46) (g_at ck_X7_advance 23 rfl) rfl ?_
        refine tz_putIr (n := 49) (kz := 2) fk_X7_23 kd_38 (g_at ck_X7_advance 24 rfl) rfl hR1 (by omega) rfl (fun hR1 => ?_)
        refine tz_goto (tgt := 0) (g_at ck_X7_advance 25 rfl) rfl ?_
        exact ihi _ ⟨hR1, hF1.wr (by decide), by rw [wr_at, if_neg (by decide)]; exact hl1, by rw [wr_same]; omega, end_step hw1 (by omega) (Or.inl h22)⟩
      · skip
        refine tz_aload0 (n := 26) (g_at ck_X7_advance 12 rfl) rfl (g_ne kd_38) ?_
        refine tz_getAv (n := 29) (a := 2) fk_X7_7 kd_38 (ly_38_0 hL) (g_at ck_X7_advance 13 rfl) rfl ?_
        refine tz_aload0 (n := 30) (g_at ck_X7_advance 14 rfl) rfl (g_ne kd_38) ?_
        refine tz_getIw (n := 33) (kz := 2) fk_X7_23 kd_38 (g_at ck_X7_advance 15 rfl) rfl rfl ?_
        rw [ha1]
        refine tz_iald (n := 34) kd_2 (by omega) (g_at ck_X7_advance 16 rfl) rfl ?_
        rw [hT1 _ (by omega) (by omega)]
        refine tz_bipush (n := 36) (g_at ck_X7_advance 17 rfl) rfl rfl ?_
        refine tz_icmp_ne (n := 39) (tgt := 52) (g_at ck_X7_advance 18 rfl) rfl rfl ⟨by omega, by omega, by decide, by decide⟩ (fun h36 => ?_) (fun h36 => ?_)
        · skip
          exact hj52 _ ⟨hR1, hF1, hl1, by rw [ha1]; exact ⟨by omega, hw1, fun h9 => (show ¬ blnk (t (p + (i : Int))) from fun h8 => h8.elim h22 h36) h9.2⟩⟩
        · skip
          refine tz_aload0 (n := 40) (g_at ck_X7_advance 19 rfl) rfl (g_ne kd_38) ?_
          refine tz_dupR (n := 41) (g_at ck_X7_advance 20 rfl) rfl ?_
          refine tz_getIw (n := 44) (kz := 2) fk_X7_23 kd_38 (g_at ck_X7_advance 21 rfl) rfl rfl ?_
          rw [ha1]
          refine tz_iconst (n := 45) (g_at ck_X7_advance 22 rfl) rfl ?_
          refine tz_iadd (n := 46) (g_at ck_X7_advance 23 rfl) rfl ?_
          refine tz_putIr (n := 49) (kz := 2) fk_X7_23 kd_38 (g_at ck_X7_advance 24 rfl) rfl hR1 (by omega) rfl (fun hR2 => ?_)
          refine tz_goto (tgt := 0) (g_at ck_X7_advance 25 rfl) rfl ?_
          exact ihi _ ⟨hR2, hF1.wr (by decide), by rw [wr_at, if_neg (by decide)]; exact hl1, by rw [wr_same]; omega, end_step hw1 (by omega) (Or.inr h36)⟩
  · intro m1 hinv
    obtain ⟨hR1, hF1, hl1, he1⟩ := hinv
    have hT1 := hT.fr hF1
    obtain ⟨a, ha0⟩ : ∃ a, m1 38 2 = a := ⟨_, rfl⟩
    rw [ha0] at he1
    have hle := isEnd_le he1 hp.2
    have hge := he1.1
    have hb9 := hB a
    refine tz_aload0 (n := 53) (g_at ck_X7_advance 26 rfl) rfl (g_ne kd_38) ?_
    refine tz_aload0 (n := 54) (g_at ck_X7_advance 27 rfl) rfl (g_ne kd_38) ?_
    refine tz_getIw (n := 57) (kz := 2) fk_X7_23 kd_38 (g_at ck_X7_advance 28 rfl) rfl rfl ?_
    rw [ha0]
    refine tz_putIr (n := 60) (kz := 4) fk_X7_29 kd_38 (g_at ck_X7_advance 29 rfl) rfl hR1 (by omega) rfl (fun hR3 => ?_)
    refine tz_aload0 (n := 61) (g_at ck_X7_advance 30 rfl) rfl (g_ne kd_38) ?_
    refine tz_iconst (n := 62) (g_at ck_X7_advance 31 rfl) rfl ?_
    refine tz_putIr (n := 65) (kz := 5) fk_X7_32 kd_38 (g_at ck_X7_advance 32 rfl) rfl hR3 ⟨(by decide), (by decide)⟩ rfl (fun hR4 => ?_)
    refine tz_aload0 (n := 66) (g_at ck_X7_advance 33 rfl) rfl (g_ne kd_38) ?_
    refine tz_aload0 (n := 67) (g_at ck_X7_advance 34 rfl) rfl (g_ne kd_38) ?_
    refine tz_getIw (n := 70) (kz := 2) fk_X7_23 kd_38 (g_at ck_X7_advance 35 rfl) rfl rfl ?_
    rw [wr_at, if_neg (by decide), wr_at, if_neg (by decide), ha0]
    refine tz_aload0 (n := 71) (g_at ck_X7_advance 36 rfl) rfl (g_ne kd_38) ?_
    refine tz_getIw (n := 74) (kz := 1) fk_X7_19 kd_38 (g_at ck_X7_advance 37 rfl) rfl rfl ?_
    rw [wr_at, if_neg (by decide), wr_at, if_neg (by decide), hl1]
    refine tz_icmp_ge (n := 77) (tgt := 92) (g_at ck_X7_advance 38 rfl) rfl rfl ⟨by omega, by omega, by omega, by omega⟩ (fun h74 => ?_) (fun h74 => ?_)
    · skip
      refine tz_iconst (n := 93) (g_at ck_X7_advance 46 rfl) rfl ?_
      refine tz_putIr (n := 96) (kz := 3) fk_X7_39 kd_38 (g_at ck_X7_advance 47 rfl) rfl hR4 (by omega) rfl (fun hR5 => ?_)
      refine tz_aload0 (n := 97) (g_at ck_X7_advance 48 rfl) rfl (g_ne kd_38) ?_
      refine tz_getIw (n := 100) (kz := 3) fk_X7_39 kd_38 (g_at ck_X7_advance 49 rfl) rfl rfl ?_
      rw [wr_same]
      refine tz_iconst (n := 101) (g_at ck_X7_advance 50 rfl) rfl ?_
      refine tz_icmp_eq (n := 104) (tgt := 112) (g_at ck_X7_advance 51 rfl) rfl rfl ⟨by omega, by omega, by omega, by omega⟩ (fun h101 => absurd h101 (by omega)) (fun h101 => ?_)
      refine tz_aload0 (n := 105) (g_at ck_X7_advance 52 rfl) rfl (g_ne kd_38) ?_
      refine tz_getIw (n := 108) (kz := 3) fk_X7_39 kd_38 (g_at ck_X7_advance 53 rfl) rfl rfl ?_
      rw [wr_same]
      refine tz_iconst (n := 109) (g_at ck_X7_advance 54 rfl) rfl ?_
      refine tz_icmp_ne (n := 112) (tgt := 119) (g_at ck_X7_advance 55 rfl) rfl rfl ⟨by omega, by omega, by omega, by omega⟩ (fun h109 => ?_) (fun h109 => absurd h109 (by omega))
      refine tz_aload0 (n := 120) (g_at ck_X7_advance 59 rfl) rfl (g_ne kd_38) ?_
      refine tz_getIw (n := 123) (kz := 1) fk_X7_19 kd_38 (g_at ck_X7_advance 60 rfl) rfl rfl ?_
      rw [wr_at, if_neg (by decide), wr_at, if_neg (by decide), wr_at, if_neg (by decide), hl1]
      refine tz_aload0 (n := 124) (g_at ck_X7_advance 61 rfl) rfl (g_ne kd_38) ?_
      refine tz_getIw (n := 127) (kz := 2) fk_X7_23 kd_38 (g_at ck_X7_advance 62 rfl) rfl rfl ?_
      rw [wr_at, if_neg (by decide), wr_at, if_neg (by decide), wr_at, if_neg (by decide), ha0]
      refine tz_iconst (n := 128) (g_at ck_X7_advance 63 rfl) rfl ?_
      refine tz_iadd (n := 129) (g_at ck_X7_advance 64 rfl) rfl ?_
      refine tz_mmin (n := 132) mm_X7_13 mmin_1 mm_i mmin_2 ⟨by omega, by omega, by omega, by omega⟩ (g_at ck_X7_advance 65 rfl) rfl (by decide) (Nat.le_of_ble_eq_true rfl) ?_
      rw [if_neg (show ¬ a + 1 < n by omega)]
      refine tz_istore1 (n := 133) (g_at ck_X7_advance 66 rfl) rfl (by decide) g_hpR ?_
      refine tz_aload0 (n := 134) (g_at ck_X7_advance 67 rfl) rfl (g_ne kd_38) ?_
      refine tz_getIw (n := 137) (kz := 2) fk_X7_23 kd_38 (g_at ck_X7_advance 68 rfl) rfl rfl ?_
      rw [wr_at, if_neg (by decide), wr_at, if_neg (by decide), wr_at, if_neg (by decide), ha0]
      refine tz_iload1 (n := 138) (g_at ck_X7_advance 69 rfl) rfl ?_
      refine tz_icmp_ge (n := 141) (tgt := 218) (g_at ck_X7_advance 70 rfl) rfl rfl ⟨by omega, by omega, by omega, by omega⟩ (fun h138 => ?_) (fun h138 => absurd h138 (by omega))
      exact tz_vret (g_at ck_X7_advance 112 rfl) rfl (rV_mk ⟨rfl, hR5, ((hF1.wr (by decide)).wr (by decide)).wr (by decide), ⟨by simp only [wr_at, Int.reduceEq, if_true, if_false]; exact hl1, hT.fr (((hF1.wr (by decide)).wr (by decide)).wr (by decide)), by simp only [wr_at, Int.reduceEq, if_true, if_false]; rw [ha0]; exact ⟨he1, Or.inl ⟨by omega, rfl, rfl⟩⟩⟩⟩)
    · skip
      refine tz_aload0 (n := 78) (g_at ck_X7_advance 39 rfl) rfl (g_ne kd_38) ?_
      refine tz_getAv (n := 81) (a := 2) fk_X7_7 kd_38 (ly_38_0 hL) (g_at ck_X7_advance 40 rfl) rfl ?_
      refine tz_aload0 (n := 82) (g_at ck_X7_advance 41 rfl) rfl (g_ne kd_38) ?_
      refine tz_getIw (n := 85) (kz := 2) fk_X7_23 kd_38 (g_at ck_X7_advance 42 rfl) rfl rfl ?_
      rw [wr_at, if_neg (by decide), wr_at, if_neg (by decide), ha0]
      refine tz_iald (n := 86) kd_2 (by omega) (g_at ck_X7_advance 43 rfl) rfl ?_
      rw [wr_ne (show (2 : Int) ≠ 38 by decide), wr_ne (show (2 : Int) ≠ 38 by decide), hT1 _ (by omega) (by omega)]
      refine tz_csI1 (n := 89) (μ' := μX7_kindOf) (cb' := 0) (sb' := 0) ml_X7_35 mo_X7_kindOf ms_X7_kindOf np_X7_kindOf (g_at ck_X7_advance 44 rfl) (sp_kindOf hR4 hb9) rfl rfl ⟨by decide, by decide⟩ (Nat.le_of_ble_eq_true rfl) (by decide) (by decide) (fun x86 ρ9 m86 hq => ?_)
      obtain ⟨rfl, hR6, hx86, rfl⟩ := hq
      have hk9 := kq_rg hx86 hb9
      refine tz_goto (tgt := 93) (g_at ck_X7_advance 45 rfl) rfl ?_
      refine tz_putIr (n := 96) (kz := 3) fk_X7_39 kd_38 (g_at ck_X7_advance 47 rfl) rfl hR6 (by omega) rfl (fun hR7 => ?_)
      refine tz_aload0 (n := 97) (g_at ck_X7_advance 48 rfl) rfl (g_ne kd_38) ?_
      refine tz_getIw (n := 100) (kz := 3) fk_X7_39 kd_38 (g_at ck_X7_advance 49 rfl) rfl rfl ?_
      rw [wr_same]
      refine tz_iconst (n := 101) (g_at ck_X7_advance 50 rfl) rfl ?_
      refine tz_icmp_eq (n := 104) (tgt := 112) (g_at ck_X7_advance 51 rfl) rfl rfl ⟨by omega, by omega, by omega, by omega⟩ (fun h101 => ?_) (fun h101 => ?_)
      · skip
        refine tz_aload0 (n := 113) (g_at ck_X7_advance 56 rfl) rfl (g_ne kd_38) ?_
        refine tz_getIw (n := 116) (kz := 1) fk_X7_19 kd_38 (g_at ck_X7_advance 57 rfl) rfl rfl ?_
        rw [wr_at, if_neg (by decide), wr_at, if_neg (by decide), wr_at, if_neg (by decide), hl1]
        refine tz_goto (tgt := 132) (g_at ck_X7_advance 58 rfl) rfl ?_
        refine tz_istore1 (n := 133) (g_at ck_X7_advance 66 rfl) rfl (by decide) g_hpR ?_
        refine g_for (fun i : Nat => ∀ m2 : Mm, (MR m2 ∧ Fr [38] m m2 ∧ m2 38 1 = n ∧ m2 38 4 = a ∧ m2 38 3 = x86 ∧ m2 38 2 = a + (i : Int) ∧ (∀ j, a ≤ j → j < a + (i : Int) → j < n ∧ kdR (t j) x86)) → gT l γ μX7_advance 6 0 0 _ _ KK ρ m2 133 [some (vR 38), some (vI n)] []) (n - a).toNat ?_ (fun i hi ihi => ?_) 0 (Nat.zero_le _) _ ⟨hR7, ((hF1.wr (by decide)).wr (by decide)).wr (by decide), by simp only [wr_at, Int.reduceEq, if_true, if_false]; exact hl1, by simp only [wr_at, Int.reduceEq, if_true, if_false], by simp only [wr_at, Int.reduceEq, if_true, if_false], by simp only [wr_at, Int.reduceEq, if_true, if_false]; rw [ha0]; show a = a + 0; omega, fun j h1 h2 => absurd h2 (by show ¬ j < a + 0; omega)⟩
        · intro m2 hinv
          obtain ⟨hRq, hF2, hl2, hs2, hk2, ha2, hw2⟩ := hinv
          refine tz_aload0 (n := 134) (g_at ck_X7_advance 67 rfl) rfl (g_ne kd_38) ?_
          refine tz_getIw (n := 137) (kz := 2) fk_X7_23 kd_38 (g_at ck_X7_advance 68 rfl) rfl rfl ?_
          rw [ha2]
          refine tz_iload1 (n := 138) (g_at ck_X7_advance 69 rfl) rfl ?_
          refine tz_icmp_ge (n := 141) (tgt := 218) (g_at ck_X7_advance 70 rfl) rfl rfl ⟨by omega, by omega, by omega, by omega⟩ (fun h138 => ?_) (fun h138 => absurd h138 (by omega))
          exact tz_vret (g_at ck_X7_advance 112 rfl) rfl (rV_mk ⟨rfl, hRq, hF2, ⟨hl2, hT.fr hF2, by rw [hs2, hk2, ha2]; exact ⟨he1, Or.inr (Or.inl ⟨by omega, kq_1 hx86 h101, h101, ⟨by omega, fun j h1 h2 => ⟨(hw2 j h1 h2).1, kq_1 (hw2 j h1 h2).2 h101⟩, fun h9 => absurd h9.1 (by omega)⟩⟩)⟩⟩⟩)
        · intro m2 hinv
          obtain ⟨hRq, hF2, hl2, hs2, hk2, ha2, hw2⟩ := hinv
          have hT2 := hT.fr hF2
          have hb2 := hB (a + (i : Int))
          refine tz_aload0 (n := 134) (g_at ck_X7_advance 67 rfl) rfl (g_ne kd_38) ?_
          refine tz_getIw (n := 137) (kz := 2) fk_X7_23 kd_38 (g_at ck_X7_advance 68 rfl) rfl rfl ?_
          rw [ha2]
          refine tz_iload1 (n := 138) (g_at ck_X7_advance 69 rfl) rfl ?_
          refine tz_icmp_ge (n := 141) (tgt := 218) (g_at ck_X7_advance 70 rfl) rfl rfl ⟨by omega, by omega, by omega, by omega⟩ (fun h138 => absurd h138 (by omega)) (fun h138 => ?_)
          refine tz_aload0 (n := 142) (g_at ck_X7_advance 71 rfl) rfl (g_ne kd_38) ?_
          refine tz_getAv (n := 145) (a := 2) fk_X7_7 kd_38 (ly_38_0 hL) (g_at ck_X7_advance 72 rfl) rfl ?_
          refine tz_aload0 (n := 146) (g_at ck_X7_advance 73 rfl) rfl (g_ne kd_38) ?_
          refine tz_getIw (n := 149) (kz := 2) fk_X7_23 kd_38 (g_at ck_X7_advance 74 rfl) rfl rfl ?_
          rw [ha2]
          refine tz_iald (n := 150) kd_2 (by omega) (g_at ck_X7_advance 75 rfl) rfl ?_
          rw [hT2 _ (by omega) (by omega)]
          refine tz_csI1 (n := 153) (μ' := μX7_kindOf) (cb' := 0) (sb' := 0) ml_X7_35 mo_X7_kindOf ms_X7_kindOf np_X7_kindOf (g_at ck_X7_advance 76 rfl) (sp_kindOf hRq hb2) rfl rfl ⟨by decide, by decide⟩ (Nat.le_of_ble_eq_true rfl) (by decide) (by decide) (fun x150 ρ9 m150 hq => ?_)
          obtain ⟨rfl, hR8, hx150, rfl⟩ := hq
          have hk8 := kq_rg hx150 hb2
          refine tz_aload0 (n := 154) (g_at ck_X7_advance 77 rfl) rfl (g_ne kd_38) ?_
          refine tz_getIw (n := 157) (kz := 3) fk_X7_39 kd_38 (g_at ck_X7_advance 78 rfl) rfl rfl ?_
          rw [hk2]
          refine tz_icmp_ne (n := 160) (tgt := 218) (g_at ck_X7_advance 79 rfl) rfl rfl ⟨by omega, by omega, by omega, by omega⟩ (fun h157 => ?_) (fun h157 => ?_)
          · skip
            exact tz_vret (g_at ck_X7_advance 112 rfl) rfl (rV_mk ⟨rfl, hR8, hF2, ⟨hl2, hT.fr hF2, by rw [hs2, hk2, ha2]; exact ⟨he1, Or.inr (Or.inl ⟨by omega, kq_1 hx86 h101, h101, ⟨by omega, fun j h1 h2 => ⟨(hw2 j h1 h2).1, kq_1 (hw2 j h1 h2).2 h101⟩, fun h9 => h157 ((kq_l hx150 h9.2).trans h101.symm)⟩⟩)⟩⟩⟩)
          · skip
            refine tz_aload0 (n := 161) (g_at ck_X7_advance 80 rfl) rfl (g_ne kd_38) ?_
            refine tz_getIw (n := 164) (kz := 3) fk_X7_39 kd_38 (g_at ck_X7_advance 81 rfl) rfl rfl ?_
            rw [hk2]
            refine tz_iconst (n := 165) (g_at ck_X7_advance 82 rfl) rfl ?_
            refine tz_icmp_ne (n := 168) (tgt := 205) (g_at ck_X7_advance 83 rfl) rfl rfl ⟨by omega, by omega, by omega, by omega⟩ (fun h165 => ?_) (fun h165 => absurd h165 (by omega))
            refine tz_aload0 (n := 206) (g_at ck_X7_advance 105 rfl) rfl (g_ne kd_38) ?_
            refine tz_dupR (n := 207) (g_at ck_X7_advance 106 rfl) rfl ?_
            refine tz_getIw (n := 210) (kz := 2) fk_X7_23 kd_38 (g_at ck_X7_advance 107 rfl) rfl rfl ?_
            rw [ha2]
            refine tz_iconst (n := 211) (g_at ck_X7_advance 108 rfl) rfl ?_
            refine tz_iadd (n := 212) (g_at ck_X7_advance 109 rfl) rfl ?_
            refine tz_putIr (n := 215) (kz := 2) fk_X7_23 kd_38 (g_at ck_X7_advance 110 rfl) rfl hR8 (by omega) rfl (fun hR9 => ?_)
            refine tz_goto (tgt := 133) (g_at ck_X7_advance 111 rfl) rfl ?_
            exact ihi _ ⟨hR9, hF2.wr (by decide), by simp only [wr_at, Int.reduceEq, if_true, if_false]; exact hl2, by simp only [wr_at, Int.reduceEq, if_true, if_false]; exact hs2, by simp only [wr_at, Int.reduceEq, if_true, if_false]; exact hk2, by rw [wr_same]; omega, end_step (P := fun c => kdR c x86) hw2 (by omega) (show kdR (t (a + (i : Int))) x86 by rw [← h157]; exact hx150)⟩
      · skip
        refine tz_aload0 (n := 105) (g_at ck_X7_advance 52 rfl) rfl (g_ne kd_38) ?_
        refine tz_getIw (n := 108) (kz := 3) fk_X7_39 kd_38 (g_at ck_X7_advance 53 rfl) rfl rfl ?_
        rw [wr_same]
        refine tz_iconst (n := 109) (g_at ck_X7_advance 54 rfl) rfl ?_
        refine tz_icmp_ne (n := 112) (tgt := 119) (g_at ck_X7_advance 55 rfl) rfl rfl ⟨by omega, by omega, by omega, by omega⟩ (fun h109 => ?_) (fun h109 => ?_)
        · skip
          refine tz_aload0 (n := 120) (g_at ck_X7_advance 59 rfl) rfl (g_ne kd_38) ?_
          refine tz_getIw (n := 123) (kz := 1) fk_X7_19 kd_38 (g_at ck_X7_advance 60 rfl) rfl rfl ?_
          rw [wr_at, if_neg (by decide), wr_at, if_neg (by decide), wr_at, if_neg (by decide), hl1]
          refine tz_aload0 (n := 124) (g_at ck_X7_advance 61 rfl) rfl (g_ne kd_38) ?_
          refine tz_getIw (n := 127) (kz := 2) fk_X7_23 kd_38 (g_at ck_X7_advance 62 rfl) rfl rfl ?_
          rw [wr_at, if_neg (by decide), wr_at, if_neg (by decide), wr_at, if_neg (by decide), ha0]
          refine tz_iconst (n := 128) (g_at ck_X7_advance 63 rfl) rfl ?_
          refine tz_iadd (n := 129) (g_at ck_X7_advance 64 rfl) rfl ?_
          refine tz_mmin (n := 132) mm_X7_13 mmin_1 mm_i mmin_2 ⟨by omega, by omega, by omega, by omega⟩ (g_at ck_X7_advance 65 rfl) rfl (by decide) (Nat.le_of_ble_eq_true rfl) ?_
          rw [show (if a + 1 < n then a + 1 else n) = a + 1 by split <;> omega]
          refine tz_istore1 (n := 133) (g_at ck_X7_advance 66 rfl) rfl (by decide) g_hpR ?_
          refine g_for (fun i : Nat => ∀ m2 : Mm, (MR m2 ∧ Fr [38] m m2 ∧ m2 38 1 = n ∧ m2 38 4 = a ∧ m2 38 3 = x86 ∧ m2 38 2 = a + (i : Int) ∧ (∀ j, a ≤ j → j < a + (i : Int) → j < n ∧ kdR (t j) x86)) → gT l γ μX7_advance 6 0 0 _ _ KK ρ m2 133 [some (vR 38), some (vI (a + 1))] []) 1 ?_ (fun i hi ihi => ?_) 0 (Nat.zero_le _) _ ⟨hR7, ((hF1.wr (by decide)).wr (by decide)).wr (by decide), by simp only [wr_at, Int.reduceEq, if_true, if_false]; exact hl1, by simp only [wr_at, Int.reduceEq, if_true, if_false], by simp only [wr_at, Int.reduceEq, if_true, if_false], by simp only [wr_at, Int.reduceEq, if_true, if_false]; rw [ha0]; show a = a + 0; omega, fun j h1 h2 => absurd h2 (by show ¬ j < a + 0; omega)⟩
          · intro m2 hinv
            obtain ⟨hRq, hF2, hl2, hs2, hk2, ha2, hw2⟩ := hinv
            refine tz_aload0 (n := 134) (g_at ck_X7_advance 67 rfl) rfl (g_ne kd_38) ?_
            refine tz_getIw (n := 137) (kz := 2) fk_X7_23 kd_38 (g_at ck_X7_advance 68 rfl) rfl rfl ?_
            rw [ha2]
            refine tz_iload1 (n := 138) (g_at ck_X7_advance 69 rfl) rfl ?_
            refine tz_icmp_ge (n := 141) (tgt := 218) (g_at ck_X7_advance 70 rfl) rfl rfl ⟨by omega, by omega, by omega, by omega⟩ (fun h138 => ?_) (fun h138 => absurd h138 (by omega))
            exact tz_vret (g_at ck_X7_advance 112 rfl) rfl (rV_mk ⟨rfl, hRq, hF2, ⟨hl2, hT.fr hF2, by rw [hs2, hk2, ha2]; exact ⟨he1, Or.inr (Or.inr (Or.inr ⟨by omega, (kq_n hx86 h101 h109).1, (kq_n hx86 h101 h109).2.1, (kq_n hx86 h101 h109).2.2, by omega⟩))⟩⟩⟩)
          · intro m2 hinv
            obtain ⟨hRq, hF2, hl2, hs2, hk2, ha2, hw2⟩ := hinv
            have hT2 := hT.fr hF2
            have hb2 := hB (a + (i : Int))
            refine tz_aload0 (n := 134) (g_at ck_X7_advance 67 rfl) rfl (g_ne kd_38) ?_
            refine tz_getIw (n := 137) (kz := 2) fk_X7_23 kd_38 (g_at ck_X7_advance 68 rfl) rfl rfl ?_
            rw [ha2]
            refine tz_iload1 (n := 138) (g_at ck_X7_advance 69 rfl) rfl ?_
            refine tz_icmp_ge (n := 141) (tgt := 218) (g_at ck_X7_advance 70 rfl) rfl rfl ⟨by omega, by omega, by omega, by omega⟩ (fun h138 => absurd h138 (by omega)) (fun h138 => ?_)
            refine tz_aload0 (n := 142) (g_at ck_X7_advance 71 rfl) rfl (g_ne kd_38) ?_
            refine tz_getAv (n := 145) (a := 2) fk_X7_7 kd_38 (ly_38_0 hL) (g_at ck_X7_advance 72 rfl) rfl ?_
            refine tz_aload0 (n := 146) (g_at ck_X7_advance 73 rfl) rfl (g_ne kd_38) ?_
            refine tz_getIw (n := 149) (kz := 2) fk_X7_23 kd_38 (g_at ck_X7_advance 74 rfl) rfl rfl ?_
            rw [ha2]
            refine tz_iald (n := 150) kd_2 (by omega) (g_at ck_X7_advance 75 rfl) rfl ?_
            rw [hT2 _ (by omega) (by omega)]
            refine tz_csI1 (n := 153) (μ' := μX7_kindOf) (cb' := 0) (sb' := 0) ml_X7_35 mo_X7_kindOf ms_X7_kindOf np_X7_kindOf (g_at ck_X7_advance 76 rfl) (sp_kindOf hRq hb2) rfl rfl ⟨by decide, by decide⟩ (Nat.le_of_ble_eq_true rfl) (by decide) (by decide) (fun x150 ρ9 m150 hq => ?_)
            obtain ⟨rfl, hR10, hx150, rfl⟩ := hq
            have hk8 := kq_rg hx150 hb2
            have hk7 : x150 = x86 := kq_u hx150 (by rw [show a + (i : Int) = a by omega]; exact hx86)
            refine tz_aload0 (n := 154) (g_at ck_X7_advance 77 rfl) rfl (g_ne kd_38) ?_
            refine tz_getIw (n := 157) (kz := 3) fk_X7_39 kd_38 (g_at ck_X7_advance 78 rfl) rfl rfl ?_
            rw [hk2]
            refine tz_icmp_ne (n := 160) (tgt := 218) (g_at ck_X7_advance 79 rfl) rfl rfl ⟨by omega, by omega, by omega, by omega⟩ (fun h157 => absurd h157 (by omega)) (fun h157 => ?_)
            refine tz_aload0 (n := 161) (g_at ck_X7_advance 80 rfl) rfl (g_ne kd_38) ?_
            refine tz_getIw (n := 164) (kz := 3) fk_X7_39 kd_38 (g_at ck_X7_advance 81 rfl) rfl rfl ?_
            rw [hk2]
            refine tz_iconst (n := 165) (g_at ck_X7_advance 82 rfl) rfl ?_
            refine tz_icmp_ne (n := 168) (tgt := 205) (g_at ck_X7_advance 83 rfl) rfl rfl ⟨by omega, by omega, by omega, by omega⟩ (fun h165 => ?_) (fun h165 => absurd h165 (by omega))
            refine tz_aload0 (n := 206) (g_at ck_X7_advance 105 rfl) rfl (g_ne kd_38) ?_
            refine tz_dupR (n := 207) (g_at ck_X7_advance 106 rfl) rfl ?_
            refine tz_getIw (n := 210) (kz := 2) fk_X7_23 kd_38 (g_at ck_X7_advance 107 rfl) rfl rfl ?_
            rw [ha2]
            refine tz_iconst (n := 211) (g_at ck_X7_advance 108 rfl) rfl ?_
            refine tz_iadd (n := 212) (g_at ck_X7_advance 109 rfl) rfl ?_
            refine tz_putIr (n := 215) (kz := 2) fk_X7_23 kd_38 (g_at ck_X7_advance 110 rfl) rfl hR10 (by omega) rfl (fun hR11 => ?_)
            refine tz_goto (tgt := 133) (g_at ck_X7_advance 111 rfl) rfl ?_
            exact ihi _ ⟨hR11, hF2.wr (by decide), by simp only [wr_at, Int.reduceEq, if_true, if_false]; exact hl2, by simp only [wr_at, Int.reduceEq, if_true, if_false]; exact hs2, by simp only [wr_at, Int.reduceEq, if_true, if_false]; exact hk2, by rw [wr_same]; omega, end_step (P := fun c => kdR c x86) hw2 (by omega) (show kdR (t (a + (i : Int))) x86 by rw [← h157]; exact hx150)⟩
        · skip
          refine tz_aload0 (n := 113) (g_at ck_X7_advance 56 rfl) rfl (g_ne kd_38) ?_
          refine tz_getIw (n := 116) (kz := 1) fk_X7_19 kd_38 (g_at ck_X7_advance 57 rfl) rfl rfl ?_
          rw [wr_at, if_neg (by decide), wr_at, if_neg (by decide), wr_at, if_neg (by decide), hl1]
          refine tz_goto (tgt := 132) (g_at ck_X7_advance 58 rfl) rfl ?_
          refine tz_istore1 (n := 133) (g_at ck_X7_advance 66 rfl) rfl (by decide) g_hpR ?_
          refine g_for (fun i : Nat => ∀ m2 : Mm, (MR m2 ∧ Fr [38] m m2 ∧ m2 38 1 = n ∧ m2 38 4 = a ∧ m2 38 3 = x86 ∧ m2 38 2 = a + (i : Int) ∧ (∀ j, a ≤ j → j < a + (i : Int) → j < n ∧ kdR (t j) x86) ∧ m2 38 5 = nmV t a (mn4 (i : Int))) → gT l γ μX7_advance 6 0 0 _ _ KK ρ m2 133 [some (vR 38), some (vI n)] []) (n - a).toNat ?_ (fun i hi ihi => ?_) 0 (Nat.zero_le _) _ ⟨hR7, ((hF1.wr (by decide)).wr (by decide)).wr (by decide), by simp only [wr_at, Int.reduceEq, if_true, if_false]; exact hl1, by simp only [wr_at, Int.reduceEq, if_true, if_false], by simp only [wr_at, Int.reduceEq, if_true, if_false], by simp only [wr_at, Int.reduceEq, if_true, if_false]; rw [ha0]; show a = a + 0; omega, fun j h1 h2 => absurd h2 (by show ¬ j < a + 0; omega), by simp only [wr_at, Int.reduceEq, if_true, if_false]; rfl⟩
          · intro m2 hinv
            obtain ⟨hRq, hF2, hl2, hs2, hk2, ha2, hw2, hv2⟩ := hinv
            refine tz_aload0 (n := 134) (g_at ck_X7_advance 67 rfl) rfl (g_ne kd_38) ?_
            refine tz_getIw (n := 137) (kz := 2) fk_X7_23 kd_38 (g_at ck_X7_advance 68 rfl) rfl rfl ?_
            rw [ha2]
            refine tz_iload1 (n := 138) (g_at ck_X7_advance 69 rfl) rfl ?_
            refine tz_icmp_ge (n := 141) (tgt := 218) (g_at ck_X7_advance 70 rfl) rfl rfl ⟨by omega, by omega, by omega, by omega⟩ (fun h138 => ?_) (fun h138 => absurd h138 (by omega))
            exact tz_vret (g_at ck_X7_advance 112 rfl) rfl (rV_mk ⟨rfl, hRq, hF2, ⟨hl2, hT.fr hF2, by rw [hs2, hk2, ha2]; exact ⟨he1, Or.inr (Or.inr (Or.inl ⟨by omega, kq_2 hx86 h109, h109, ⟨by omega, fun j h1 h2 => ⟨(hw2 j h1 h2).1, kq_2 (hw2 j h1 h2).2 h109⟩, fun h9 => absurd h9.1 (by omega)⟩, by rw [hv2, show a + ((n - a).toNat : Int) - a = ((n - a).toNat : Int) by omega]⟩))⟩⟩⟩)
          · intro m2 hinv
            obtain ⟨hRq, hF2, hl2, hs2, hk2, ha2, hw2, hv2⟩ := hinv
            have hT2 := hT.fr hF2
            have hb2 := hB (a + (i : Int))
            have hv9 := nmV_9 (t := t) (a := a) (w := mn4 (i : Int)) (by unfold mn4; split <;> omega) (fun j hj => kq_2 (hw2 (a + (j : Int)) (by omega) (by have h7 := mn4_le i; omega)).2 h109)
            refine tz_aload0 (n := 134) (g_at ck_X7_advance 67 rfl) rfl (g_ne kd_38) ?_
            refine tz_getIw (n := 137) (kz := 2) fk_X7_23 kd_38 (g_at ck_X7_advance 68 rfl) rfl rfl ?_
            rw [ha2]
            refine tz_iload1 (n := 138) (g_at ck_X7_advance 69 rfl) rfl ?_
            refine tz_icmp_ge (n := 141) (tgt := 218) (g_at ck_X7_advance 70 rfl) rfl rfl ⟨by omega, by omega, by omega, by omega⟩ (fun h138 => absurd h138 (by omega)) (fun h138 => ?_)
            refine tz_aload0 (n := 142) (g_at ck_X7_advance 71 rfl) rfl (g_ne kd_38) ?_
            refine tz_getAv (n := 145) (a := 2) fk_X7_7 kd_38 (ly_38_0 hL) (g_at ck_X7_advance 72 rfl) rfl ?_
            refine tz_aload0 (n := 146) (g_at ck_X7_advance 73 rfl) rfl (g_ne kd_38) ?_
            refine tz_getIw (n := 149) (kz := 2) fk_X7_23 kd_38 (g_at ck_X7_advance 74 rfl) rfl rfl ?_
            rw [ha2]
            refine tz_iald (n := 150) kd_2 (by omega) (g_at ck_X7_advance 75 rfl) rfl ?_
            rw [hT2 _ (by omega) (by omega)]
            refine tz_csI1 (n := 153) (μ' := μX7_kindOf) (cb' := 0) (sb' := 0) ml_X7_35 mo_X7_kindOf ms_X7_kindOf np_X7_kindOf (g_at ck_X7_advance 76 rfl) (sp_kindOf hRq hb2) rfl rfl ⟨by decide, by decide⟩ (Nat.le_of_ble_eq_true rfl) (by decide) (by decide) (fun x150 ρ9 m150 hq => ?_)
            obtain ⟨rfl, hR12, hx150, rfl⟩ := hq
            have hk8 := kq_rg hx150 hb2
            refine tz_aload0 (n := 154) (g_at ck_X7_advance 77 rfl) rfl (g_ne kd_38) ?_
            refine tz_getIw (n := 157) (kz := 3) fk_X7_39 kd_38 (g_at ck_X7_advance 78 rfl) rfl rfl ?_
            rw [hk2]
            refine tz_icmp_ne (n := 160) (tgt := 218) (g_at ck_X7_advance 79 rfl) rfl rfl ⟨by omega, by omega, by omega, by omega⟩ (fun h157 => ?_) (fun h157 => ?_)
            · skip
              exact tz_vret (g_at ck_X7_advance 112 rfl) rfl (rV_mk ⟨rfl, hR12, hF2, ⟨hl2, hT.fr hF2, by rw [hs2, hk2, ha2]; exact ⟨he1, Or.inr (Or.inr (Or.inl ⟨by omega, kq_2 hx86 h109, h109, ⟨by omega, fun j h1 h2 => ⟨(hw2 j h1 h2).1, kq_2 (hw2 j h1 h2).2 h109⟩, fun h9 => h157 ((kq_d hx150 h9.2).trans h109.symm)⟩, by rw [hv2, show a + (i : Int) - a = (i : Int) by omega]⟩))⟩⟩⟩)
            · skip
              refine tz_aload0 (n := 161) (g_at ck_X7_advance 80 rfl) rfl (g_ne kd_38) ?_
              refine tz_getIw (n := 164) (kz := 3) fk_X7_39 kd_38 (g_at ck_X7_advance 81 rfl) rfl rfl ?_
              rw [hk2]
              refine tz_iconst (n := 165) (g_at ck_X7_advance 82 rfl) rfl ?_
              refine tz_icmp_ne (n := 168) (tgt := 205) (g_at ck_X7_advance 83 rfl) rfl rfl ⟨by omega, by omega, by omega, by omega⟩ (fun h165 => absurd h165 (by omega)) (fun h165 => ?_)
              refine tz_aload0 (n := 169) (g_at ck_X7_advance 84 rfl) rfl (g_ne kd_38) ?_
              refine tz_getIw (n := 172) (kz := 2) fk_X7_23 kd_38 (g_at ck_X7_advance 85 rfl) rfl rfl ?_
              rw [ha2]
              refine tz_aload0 (n := 173) (g_at ck_X7_advance 86 rfl) rfl (g_ne kd_38) ?_
              refine tz_getIw (n := 176) (kz := 4) fk_X7_29 kd_38 (g_at ck_X7_advance 87 rfl) rfl rfl ?_
              rw [hs2]
              refine tz_isub (n := 177) (g_at ck_X7_advance 88 rfl) rfl ?_
              refine tz_iconst (n := 178) (g_at ck_X7_advance 89 rfl) rfl ?_
              refine tz_icmp_ge (n := 181) (tgt := 205) (g_at ck_X7_advance 90 rfl) rfl rfl ⟨by omega, by omega, by omega, by omega⟩ (fun h178 => ?_) (fun h178 => ?_)
              · skip
                refine tz_aload0 (n := 206) (g_at ck_X7_advance 105 rfl) rfl (g_ne kd_38) ?_
                refine tz_dupR (n := 207) (g_at ck_X7_advance 106 rfl) rfl ?_
                refine tz_getIw (n := 210) (kz := 2) fk_X7_23 kd_38 (g_at ck_X7_advance 107 rfl) rfl rfl ?_
                rw [ha2]
                refine tz_iconst (n := 211) (g_at ck_X7_advance 108 rfl) rfl ?_
                refine tz_iadd (n := 212) (g_at ck_X7_advance 109 rfl) rfl ?_
                refine tz_putIr (n := 215) (kz := 2) fk_X7_23 kd_38 (g_at ck_X7_advance 110 rfl) rfl hR12 (by omega) rfl (fun hR13 => ?_)
                refine tz_goto (tgt := 133) (g_at ck_X7_advance 111 rfl) rfl ?_
                have e9 : mn4 (((i + 1 : Nat)) : Int) = mn4 (i : Int) := by unfold mn4; split <;> split <;> omega
                exact ihi _ ⟨hR13, hF2.wr (by decide), by simp only [wr_at, Int.reduceEq, if_true, if_false]; exact hl2, by simp only [wr_at, Int.reduceEq, if_true, if_false]; exact hs2, by simp only [wr_at, Int.reduceEq, if_true, if_false]; exact hk2, by rw [wr_same]; omega, end_step (P := fun c => kdR c x86) hw2 (by omega) (show kdR (t (a + (i : Int))) x86 by rw [← h157]; exact hx150), by rw [wr_at, if_neg (by decide), e9]; exact hv2⟩
              · skip
                refine tz_aload0 (n := 182) (g_at ck_X7_advance 91 rfl) rfl (g_ne kd_38) ?_
                refine tz_aload0 (n := 183) (g_at ck_X7_advance 92 rfl) rfl (g_ne kd_38) ?_
                refine tz_getIw (n := 186) (kz := 5) fk_X7_32 kd_38 (g_at ck_X7_advance 93 rfl) rfl rfl ?_
                rw [hv2]
                refine tz_bipush (n := 188) (g_at ck_X7_advance 94 rfl) rfl rfl ?_
                refine tz_imul (n := 189) (g_at ck_X7_advance 95 rfl) rfl ?_
                refine tz_aload0 (n := 190) (g_at ck_X7_advance 96 rfl) rfl (g_ne kd_38) ?_
                refine tz_getAv (n := 193) (a := 2) fk_X7_7 kd_38 (ly_38_0 hL) (g_at ck_X7_advance 97 rfl) rfl ?_
                refine tz_aload0 (n := 194) (g_at ck_X7_advance 98 rfl) rfl (g_ne kd_38) ?_
                refine tz_getIw (n := 197) (kz := 2) fk_X7_23 kd_38 (g_at ck_X7_advance 99 rfl) rfl rfl ?_
                rw [ha2]
                refine tz_iald (n := 198) kd_2 (by omega) (g_at ck_X7_advance 100 rfl) rfl ?_
                rw [hT2 _ (by omega) (by omega)]
                refine tz_iadd (n := 199) (g_at ck_X7_advance 101 rfl) rfl ?_
                refine tz_bipush (n := 201) (g_at ck_X7_advance 102 rfl) rfl rfl ?_
                refine tz_isub (n := 202) (g_at ck_X7_advance 103 rfl) rfl ?_
                refine tz_putIr (n := 205) (kz := 5) fk_X7_32 kd_38 (g_at ck_X7_advance 104 rfl) rfl hR12 (by omega) rfl (fun hR14 => ?_)
                refine tz_aload0 (n := 206) (g_at ck_X7_advance 105 rfl) rfl (g_ne kd_38) ?_
                refine tz_dupR (n := 207) (g_at ck_X7_advance 106 rfl) rfl ?_
                refine tz_getIw (n := 210) (kz := 2) fk_X7_23 kd_38 (g_at ck_X7_advance 107 rfl) rfl rfl ?_
                rw [wr_at, if_neg (by decide), ha2]
                refine tz_iconst (n := 211) (g_at ck_X7_advance 108 rfl) rfl ?_
                refine tz_iadd (n := 212) (g_at ck_X7_advance 109 rfl) rfl ?_
                refine tz_putIr (n := 215) (kz := 2) fk_X7_23 kd_38 (g_at ck_X7_advance 110 rfl) rfl hR14 (by omega) rfl (fun hR15 => ?_)
                refine tz_goto (tgt := 133) (g_at ck_X7_advance 111 rfl) rfl ?_
                have e9 : mn4 (((i + 1 : Nat)) : Int) = mn4 (i : Int) + 1 := by unfold mn4; split <;> split <;> omega
                have e8 : mn4 (i : Int) = i := by unfold mn4; split <;> omega
                exact ihi _ ⟨hR15, (hF2.wr (by decide)).wr (by decide), by simp only [wr_at, Int.reduceEq, if_true, if_false]; exact hl2, by simp only [wr_at, Int.reduceEq, if_true, if_false]; exact hs2, by simp only [wr_at, Int.reduceEq, if_true, if_false]; exact hk2, by rw [wr_same]; omega, end_step (P := fun c => kdR c x86) hw2 (by omega) (show kdR (t (a + (i : Int))) x86 by rw [← h157]; exact hx150), by rw [wr_at, if_neg (by decide), wr_same, e9, e8]; rfl⟩
theorem sp_isTooLong {l : Launch} {γ : Gh} {ρ m : Mm} {t : Int → Int} {n p : Int} (hR : MR m) (hB : BY t) (hn : 0 ≤ n ∧ n ≤ 700) (hp : 0 ≤ p ∧ p ≤ n) (hC : TokC m t n p) : gE l γ μX7_isTooLong 0 0 0 (rI KK fun x ρ9 m9 => ρ = ρ9 ∧ MR m9 ∧ (if 4 < tQ t n p - tA t n p then 1 else 0) = x ∧ m = m9) xN KK ρ m [vR 38] := by
  refine gE.ofw cl_X7.2 ?_ rfl rfl (Nat.le_of_ble_eq_true rfl)
  show gT l γ μX7_isTooLong 0 0 0 _ _ KK ρ m 0 [some (vR 38)] []
  have hr9 := tk_rg hB hp
  refine tz_aload0 (n := 1) (g_at ck_X7_isTooLong 0 rfl) rfl (g_ne kd_38) ?_
  refine tz_getIw (n := 4) (kz := 2) fk_X7_23 kd_38 (g_at ck_X7_isTooLong 1 rfl) rfl rfl ?_
  rw [hC.q]
  refine tz_aload0 (n := 5) (g_at ck_X7_isTooLong 2 rfl) rfl (g_ne kd_38) ?_
  refine tz_getIw (n := 8) (kz := 4) fk_X7_29 kd_38 (g_at ck_X7_isTooLong 3 rfl) rfl rfl ?_
  rw [hC.a]
  refine tz_isub (n := 9) (g_at ck_X7_isTooLong 4 rfl) rfl ?_
  refine tz_iconst (n := 10) (g_at ck_X7_isTooLong 5 rfl) rfl ?_
  refine tz_icmp_le (n := 13) (tgt := 17) (g_at ck_X7_isTooLong 6 rfl) rfl rfl ⟨by omega, by omega, by decide, by decide⟩ (fun h10 => ?_) (fun h10 => ?_)
  · skip
    refine tz_iconst (n := 18) (g_at ck_X7_isTooLong 9 rfl) rfl ?_
    exact tz_bret (g_at ck_X7_isTooLong 10 rfl) rfl (by decide) (rI_mk ⟨rfl, hR, if_neg (by omega), rfl⟩)
  · skip
    refine tz_iconst (n := 14) (g_at ck_X7_isTooLong 7 rfl) rfl ?_
    refine tz_goto (tgt := 18) (g_at ck_X7_isTooLong 8 rfl) rfl ?_
    exact tz_bret (g_at ck_X7_isTooLong 10 rfl) rfl (by decide) (rI_mk ⟨rfl, hR, if_pos (by omega), rfl⟩)
noncomputable def wdI (t : Int → Int) (n p : Int) (i9 : Nat) : Int := if tK t n p = 1 ∧ tQ t n p - tA t n p = sLen i9 ∧ ∀ k : Nat, k < (sLen i9).toNat → t (tA t n p + (k : Int)) = sCh i9 (k : Int) then 1 else 0
theorem wdI_01 {t : Int → Int} {n p : Int} {i9 : Nat} : wdI t n p i9 = 0 ∨ wdI t n p i9 = 1 := by
  unfold wdI
  split <;> simp
theorem sp_isWord {l : Launch} {γ : Gh} {ρ m : Mm} {i9 : Nat} {t : Int → Int} {n p : Int} (hj9 : i9 < g_st.length) (hL : LY ρ) (hR : MR m) (hB : BY t) (hn : 0 ≤ n ∧ n ≤ 700) (hp : 0 ≤ p ∧ p ≤ n) (hC : TokC m t n p) : gE l γ μX7_isWord 4 0 0 (rI KK fun x ρ9 m9 => ρ = ρ9 ∧ MR m9 ∧ wdI t n p i9 = x ∧ m = m9) xN KK ρ m [vR 38, vR (sR i9)] := by
  refine gE.ofw cl_X7.2 ?_ rfl rfl (Nat.le_of_ble_eq_true rfl)
  show gT l γ μX7_isWord 4 0 0 _ _ KK ρ m 0 [some (vR 38), some (vR (sR i9)), none] []
  have hr9 := tk_rg hB hp
  have hl9 := sLen_rg hj9
  refine tz_aload0 (n := 1) (g_at ck_X7_isWord 0 rfl) rfl (g_ne kd_38) ?_
  refine tz_getIw (n := 4) (kz := 3) fk_X7_39 kd_38 (g_at ck_X7_isWord 1 rfl) rfl rfl ?_
  rw [hC.k]
  refine tz_iconst (n := 5) (g_at ck_X7_isWord 2 rfl) rfl ?_
  refine tz_icmp_ne (n := 8) (tgt := 24) (g_at ck_X7_isWord 3 rfl) rfl rfl ⟨by omega, by omega, by decide, by decide⟩ (fun h5 => ?_) (fun h5 => ?_)
  · skip
    refine tz_iconst (n := 25) (g_at ck_X7_isWord 12 rfl) rfl ?_
    exact tz_bret (g_at ck_X7_isWord 13 rfl) rfl (by decide) (rI_mk ⟨rfl, hR, if_neg (fun h9 => h5 h9.1), rfl⟩)
  · skip
    refine tz_aload0 (n := 9) (g_at ck_X7_isWord 4 rfl) rfl (g_ne kd_38) ?_
    refine tz_getIw (n := 12) (kz := 2) fk_X7_23 kd_38 (g_at ck_X7_isWord 5 rfl) rfl rfl ?_
    rw [hC.q]
    refine tz_aload0 (n := 13) (g_at ck_X7_isWord 6 rfl) rfl (g_ne kd_38) ?_
    refine tz_getIw (n := 16) (kz := 4) fk_X7_29 kd_38 (g_at ck_X7_isWord 7 rfl) rfl rfl ?_
    rw [hC.a]
    refine tz_isub (n := 17) (g_at ck_X7_isWord 8 rfl) rfl ?_
    refine tz_aload1 (n := 18) (g_at ck_X7_isWord 9 rfl) rfl sR_ne ?_
    refine tz_cvS0 (n := 21) (μ' := μJ0_length_8abf5) (cb' := 0) (sb' := 0) (g_in (g_m4 (List.mem_of_getElem? (i := 84) rfl)) rfl) mo_J0_length_8abf5 mv_J0_length_8abf5 np_J0_length_8abf5 hj9 (g_at ck_X7_isWord 10 rfl) (sp_strLen (i9 := i9) hj9 hR) rfl rfl rfl ⟨by decide, by decide⟩ (Nat.le_of_ble_eq_true rfl) (by decide) (by decide) (fun x18 ρ9 m18 hq => ?_)
    obtain ⟨rfl, hR1, rfl, rfl⟩ := hq
    refine tz_icmp_eq (n := 24) (tgt := 26) (g_at ck_X7_isWord 11 rfl) rfl rfl ⟨by omega, by omega, by omega, by omega⟩ (fun h21 => ?_) (fun h21 => ?_)
    · skip
      refine tz_iconst (n := 27) (g_at ck_X7_isWord 14 rfl) rfl ?_
      refine tz_istore2 (n := 28) (g_at ck_X7_isWord 15 rfl) rfl (by decide) g_hpR ?_
      refine g_for (fun i : Nat => (∀ k : Nat, k < i → t (tA t n p + (k : Int)) = sCh i9 (k : Int)) → gT l γ μX7_isWord 4 0 0 _ _ KK ρ m 28 [some (vR 38), some (vR (sR i9)), some (vI (i : Int))] []) (sLen i9).toNat ?_ (fun i hi ihi => ?_) 0 (Nat.zero_le _) (fun k hk => absurd hk (Nat.not_lt_zero k))
      · intro hinv
        refine tz_iload2 (n := 29) (g_at ck_X7_isWord 16 rfl) rfl ?_
        refine tz_aload1 (n := 30) (g_at ck_X7_isWord 17 rfl) rfl sR_ne ?_
        refine tz_cvS0 (n := 33) (μ' := μJ0_length_8abf5) (cb' := 0) (sb' := 0) (g_in (g_m4 (List.mem_of_getElem? (i := 84) rfl)) rfl) mo_J0_length_8abf5 mv_J0_length_8abf5 np_J0_length_8abf5 hj9 (g_at ck_X7_isWord 18 rfl) (sp_strLen (i9 := i9) hj9 hR1) rfl rfl rfl ⟨by decide, by decide⟩ (Nat.le_of_ble_eq_true rfl) (by decide) (by decide) (fun x30 ρ9 m30 hq => ?_)
        obtain ⟨rfl, hR2, rfl, rfl⟩ := hq
        refine tz_icmp_ge (n := 36) (tgt := 63) (g_at ck_X7_isWord 19 rfl) rfl rfl ⟨(by omega), (by omega), (by omega), (by omega)⟩ (fun h33 => ?_) (fun h33 => absurd h33 (by omega))
        refine tz_iconst (n := 64) (g_at ck_X7_isWord 35 rfl) rfl ?_
        exact tz_bret (g_at ck_X7_isWord 36 rfl) rfl (by decide) (rI_mk ⟨rfl, hR2, if_pos ⟨h5, h21, hinv⟩, rfl⟩)
      · intro hinv
        have hc9 := sCh_rg hj9 (j := (i : Int)) (by omega)
        have hb9 := hB (tA t n p + (i : Int))
        refine tz_iload2 (n := 29) (g_at ck_X7_isWord 16 rfl) rfl ?_
        refine tz_aload1 (n := 30) (g_at ck_X7_isWord 17 rfl) rfl sR_ne ?_
        refine tz_cvS0 (n := 33) (μ' := μJ0_length_8abf5) (cb' := 0) (sb' := 0) (g_in (g_m4 (List.mem_of_getElem? (i := 84) rfl)) rfl) mo_J0_length_8abf5 mv_J0_length_8abf5 np_J0_length_8abf5 hj9 (g_at ck_X7_isWord 18 rfl) (sp_strLen (i9 := i9) hj9 hR1) rfl rfl rfl ⟨by decide, by decide⟩ (Nat.le_of_ble_eq_true rfl) (by decide) (by decide) (fun x30 ρ9 m30 hq => ?_)
        obtain ⟨rfl, hR3, rfl, rfl⟩ := hq
        refine tz_icmp_ge (n := 36) (tgt := 63) (g_at ck_X7_isWord 19 rfl) rfl rfl ⟨(by omega), (by omega), (by omega), (by omega)⟩ (fun h33 => absurd h33 (by omega)) (fun h33 => ?_)
        refine tz_aload0 (n := 37) (g_at ck_X7_isWord 20 rfl) rfl (g_ne kd_38) ?_
        refine tz_getAv (n := 40) (a := 2) fk_X7_7 kd_38 (ly_38_0 hL) (g_at ck_X7_isWord 21 rfl) rfl ?_
        refine tz_aload0 (n := 41) (g_at ck_X7_isWord 22 rfl) rfl (g_ne kd_38) ?_
        refine tz_getIw (n := 44) (kz := 4) fk_X7_29 kd_38 (g_at ck_X7_isWord 23 rfl) rfl rfl ?_
        rw [hC.a]
        refine tz_iload2 (n := 45) (g_at ck_X7_isWord 24 rfl) rfl ?_
        refine tz_iadd (n := 46) (g_at ck_X7_isWord 25 rfl) rfl ?_
        refine tz_iald (n := 47) kd_2 (by omega) (g_at ck_X7_isWord 26 rfl) rfl ?_
        rw [hC.2.1 _ (by omega) (by omega)]
        refine tz_aload1 (n := 48) (g_at ck_X7_isWord 27 rfl) rfl sR_ne ?_
        refine tz_iload2 (n := 49) (g_at ck_X7_isWord 28 rfl) rfl ?_
        refine tz_cvS1 (n := 52) (μ' := μJ0_charAt_5068e) (cb' := 0) (sb' := 0) (g_in (g_m4 (List.mem_of_getElem? (i := 85) rfl)) rfl) mo_J0_charAt_5068e mv_J0_charAt_5068e np_J0_charAt_5068e hj9 (g_at ck_X7_isWord 29 rfl) (sp_charAt (i9 := i9) hj9 hR3 (by omega)) rfl rfl rfl ⟨by decide, by decide⟩ (Nat.le_of_ble_eq_true rfl) (by decide) (by decide) (fun x49 ρ9 m49 hq => ?_)
        obtain ⟨rfl, hR4, rfl, rfl⟩ := hq
        refine tz_icmp_eq (n := 55) (tgt := 57) (g_at ck_X7_isWord 30 rfl) rfl rfl ⟨by omega, by omega, by omega, by omega⟩ (fun h52 => ?_) (fun h52 => ?_)
        · skip
          refine tz_iinc2 (n := 60) (g_at ck_X7_isWord 33 rfl) rfl (by decide) g_hpR ?_
          refine tz_goto (tgt := 28) (g_at ck_X7_isWord 34 rfl) rfl ?_
          exact ihi (fun k hk => by
            by_cases e9 : k = i
            · rw [e9]; exact h52
            · exact hinv k (by omega))
        · skip
          refine tz_iconst (n := 56) (g_at ck_X7_isWord 31 rfl) rfl ?_
          exact tz_bret (g_at ck_X7_isWord 32 rfl) rfl (by decide) (rI_mk ⟨rfl, hR4, if_neg (fun h9 => h52 (h9.2.2 i (by omega))), rfl⟩)
    · skip
      refine tz_iconst (n := 25) (g_at ck_X7_isWord 12 rfl) rfl ?_
      exact tz_bret (g_at ck_X7_isWord 13 rfl) rfl (by decide) (rI_mk ⟨rfl, hR1, if_neg (fun h9 => h21 h9.2.1), rfl⟩)
theorem sp_open {l : Launch} {γ : Gh} {ρ m : Mm} {t : Int → Int} {n : Int} (hL : LY ρ) (hR : MR m) (hB : BY t) (hn : 0 ≤ n ∧ n ≤ 700) (hT : TpC m t n) : gE l γ μX7_open 7 0 0 (rV KK fun ρ9 m9 => ρ = ρ9 ∧ MR m9 ∧ Fr [38] m m9 ∧ TokC m9 t n 0) xN KK ρ m [vR 38, vI n] := by
  refine gE.ofw cl_X7.2 ?_ rfl rfl (Nat.le_of_ble_eq_true rfl)
  show gT l γ μX7_open 7 0 0 _ _ KK ρ m 0 [some (vR 38), some (vI n)] []
  refine tz_aload0 (n := 1) (g_at ck_X7_open 0 rfl) rfl (g_ne kd_38) ?_
  refine tz_iload1 (n := 2) (g_at ck_X7_open 1 rfl) rfl ?_
  refine tz_aload0 (n := 3) (g_at ck_X7_open 2 rfl) rfl (g_ne kd_38) ?_
  refine tz_getAv (n := 6) (a := 2) fk_X7_7 kd_38 (ly_38_0 hL) (g_at ck_X7_open 3 rfl) rfl ?_
  refine tz_alen (n := 7) kd_2 (g_at ck_X7_open 4 rfl) rfl ?_
  refine tz_mmin (n := 10) mm_X7_13 mmin_1 mm_i mmin_2 ⟨by omega, by omega, by decide, by decide⟩ (g_at ck_X7_open 5 rfl) rfl (by decide) (Nat.le_of_ble_eq_true rfl) ?_
  rw [if_neg (show ¬ ((700 : Nat) : Int) < n by omega)]
  refine tz_putIr (n := 13) (kz := 1) fk_X7_19 kd_38 (g_at ck_X7_open 6 rfl) rfl hR (by omega) rfl (fun hR1 => ?_)
  refine tz_aload0 (n := 14) (g_at ck_X7_open 7 rfl) rfl (g_ne kd_38) ?_
  refine tz_iconst (n := 15) (g_at ck_X7_open 8 rfl) rfl ?_
  refine tz_putIr (n := 18) (kz := 2) fk_X7_23 kd_38 (g_at ck_X7_open 9 rfl) rfl hR1 ⟨(by decide), (by decide)⟩ rfl (fun hR2 => ?_)
  refine tz_aload0 (n := 19) (g_at ck_X7_open 10 rfl) rfl (g_ne kd_38) ?_
  refine tz_cvV0 (n := 22) (μ' := μX7_advance) (cb' := 0) (sb' := 0) ml_X7_26 mo_X7_advance mv_X7_advance np_X7_advance kd_38 (g_at ck_X7_open 11 rfl) (sp_advance hL hR2 hB hn (show 0 ≤ (0 : Int) ∧ (0 : Int) ≤ n by omega) (by simp only [wr_at, Int.reduceEq, if_true, if_false]) (hT.fr ((Fr.rf.wr (by decide)).wr (by decide))) (by simp only [wr_at, Int.reduceEq, if_true, if_false])) rfl rfl rfl ⟨by decide, by decide⟩ (Nat.le_of_ble_eq_true rfl) (by decide) (by decide) (fun ρ9 m19 hq => ?_)
  obtain ⟨rfl, hR3, hF19, hC19⟩ := hq
  exact tz_vret (g_at ck_X7_open 12 rfl) rfl (rV_mk ⟨rfl, hR3, ((Fr.rf.wr (by decide)).wr (by decide)).tr hF19, hC19⟩)
