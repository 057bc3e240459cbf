/-! Tokens: one by one; words. -/
theorem sLen_1 : sLen 1 = 9 := by
  unfold sLen
  rw [g_len_v]
  rfl
theorem sCh_1 (j : Int) : sCh 1 j = (([59, 40, 41, 43, 45, 42, 47, 60, 61] : List Int32).getD j.toNat 0).toInt := by
  unfold sCh
  rw [g_byt_v]
  rfl
theorem sgn_y {c x : Int} (h : 0 ≤ x ∧ x < sLen 1 ∧ sCh 1 x = c) : sgnC c := by
  rw [sLen_1] at h
  have hx : x = 0 ∨ x = 1 ∨ x = 2 ∨ x = 3 ∨ x = 4 ∨ x = 5 ∨ x = 6 ∨ x = 7 ∨ x = 8 := by omega
  have h3 := h.2.2
  rw [sCh_1] at h3
  unfold sgnC
  rcases hx with rfl | rfl | rfl | rfl | rfl | rfl | rfl | rfl | rfl
  · exact Or.inl h3.symm
  · exact Or.inr (Or.inl h3.symm)
  · exact Or.inr (Or.inr (Or.inl h3.symm))
  · exact Or.inr (Or.inr (Or.inr (Or.inl h3.symm)))
  · exact Or.inr (Or.inr (Or.inr (Or.inr (Or.inl h3.symm))))
  · exact Or.inr (Or.inr (Or.inr (Or.inr (Or.inr (Or.inl h3.symm)))))
  · exact Or.inr (Or.inr (Or.inr (Or.inr (Or.inr (Or.inr (Or.inl h3.symm))))))
  · exact Or.inr (Or.inr (Or.inr (Or.inr (Or.inr (Or.inr (Or.inr (Or.inl h3.symm)))))))
  · exact Or.inr (Or.inr (Or.inr (Or.inr (Or.inr (Or.inr (Or.inr (Or.inr h3.symm)))))))
theorem sgn_n {c : Int} (h : ∀ j : Nat, (j : Int) < sLen 1 → sCh 1 (j : Int) ≠ c) : ¬ sgnC c := fun k => by
  rw [sLen_1] at h
  have q : ∀ (j : Nat), j < 9 → (([59, 40, 41, 43, 45, 42, 47, 60, 61] : List Int32).getD j 0).toInt ≠ c := fun j hj => by
    have := h j (by omega)
    rw [sCh_1] at this
    exact this
  unfold sgnC at k
  rcases k with k | k | k | k | k | k | k | k | k
  · exact q 0 (by decide) k.symm
  · exact q 1 (by decide) k.symm
  · exact q 2 (by decide) k.symm
  · exact q 3 (by decide) k.symm
  · exact q 4 (by decide) k.symm
  · exact q 5 (by decide) k.symm
  · exact q 6 (by decide) k.symm
  · exact q 7 (by decide) k.symm
  · exact q 8 (by decide) k.symm
theorem b2c_id {c : Int} (h : 0 ≤ c ∧ c < 256) : b2c c = c := by
  have : ∀ k : Nat, k < 256 → b2c (k : Int) = (k : Int) := by decide +kernel
  have := this c.toNat (by omega)
  rw [show ((c.toNat : Nat) : Int) = c by omega] at this
  exact this
section
variable {m : Mm} {t : Int → Int} {n p : Int}
theorem TokC.a (h : TokC m t n p) : m 38 4 = tA t n p := (Tk_uni h.2.2 (Tk_is t n p)).1
theorem TokC.k (h : TokC m t n p) : m 38 3 = tK t n p := (Tk_uni h.2.2 (Tk_is t n p)).2.1
theorem TokC.q (h : TokC m t n p) : m 38 2 = tQ t n p := (Tk_uni h.2.2 (Tk_is t n p)).2.2.1
theorem TokC.v (h : TokC m t n p) (hk : tK t n p = 2) : m 38 5 = tV t n p := (Tk_uni h.2.2 (Tk_is t n p)).2.2.2 (h.k.trans hk)
theorem tk_rg (hB : BY t) (hp : 0 ≤ p ∧ p ≤ n) : (p ≤ tA t n p ∧ tA t n p ≤ n) ∧ (tA t n p ≤ tQ t n p ∧ tQ t n p ≤ n) ∧ (0 ≤ tK t n p ∧ tK t n p < 256) ∧ (tK t n p ≠ 0 → tA t n p < tQ t n p) := Tk_rg (Tk_is t n p) hp hB
theorem tv_rg (h : tK t n p = 2) : 0 ≤ tV t n p ∧ tV t n p ≤ 9999 := by
  have k := (Tk_is t n p).2
  rcases k with ⟨e1, e2, e3⟩ | ⟨e1, e2, e3, e4⟩ | ⟨e1, e2, e3, e4, e5⟩ | ⟨e1, e2, e3, e4, e5⟩
  · omega
  · omega
  · rw [e5]
    refine nmV_9 (by unfold mn4; split <;> omega) (fun j hj => (e4.2.1 _ (by omega) ?_).2)
    unfold mn4 at hj
    split at hj <;> omega
  · rcases e4 with e4 | e4
    · have := e4.1
      unfold sgnC at this
      omega
    · omega
end
theorem TokC.fr {m m9 : Mm} {t : Int → Int} {n p : Int} (h : TokC m t n p) (k : m9 38 = m 38) (k2 : m9 2 = m 2) : TokC m9 t n p := ⟨by rw [k]; exact h.1, fun j h1 h2 => by rw [k2]; exact h.2.1 j h1 h2, by rw [k]; exact h.2.2⟩
theorem sp_advance {l : Launch} {γ : Gh} {ρ m : Mm} {t : Int → Int} {n p : Int} (hL : LY ρ) (hR : MR m) (hB : BY t) (hn : 0 ≤ n ∧ n ≤ 700) (hp : 0 ≤ p ∧ p ≤ n) (hn1 : m 38 1 = n) (hT : TpC m t n) (hat : m 38 2 = p) : gE l γ μX7_advance 5 0 0 (rV KK fun ρ9 m9 => ρ = ρ9 ∧ MR m9 ∧ Fr [38] m m9 ∧ TokC m9 t n p) xN KK ρ m [vR 38] := by
  refine gE.ofw cl_X7.2 ?_ rfl rfl (Nat.le_of_ble_eq_true rfl)
  show gT l γ μX7_advance 5 0 0 _ _ KK ρ m 0 [some (vR 38)] []
  refine g_cut (T := ∀ m1 : Mm, (MR m1 ∧ Fr [38] m m1 ∧ m1 38 1 = n ∧ isEnd blnk t n p (m1 38 2)) → gT l γ μX7_advance 5 0 0 (rV KK fun ρ9 m9 => ρ = ρ9 ∧ MR m9 ∧ Fr [38] m m9 ∧ TokC m9 t n p) xN KK ρ m1 52 [some (vR 38)] []) (fun hj52 => ?_) ?_
  · skip
    refine g_for (fun i : Nat => ∀ m1 : Mm, (MR m1 ∧ Fr [38] m m1 ∧ m1 38 1 = n ∧ m1 38 2 = p + (i : Int) ∧ ∀ j, p ≤ j → j < p + (i : Int) → j < n ∧ blnk (t j)) → gT l γ μX7_advance 5 0 0 _ _ KK ρ m1 0 [some (vR 38)] []) (n - p).toNat ?_ (fun i hi ihi => ?_) 0 (Nat.zero_le _) _ ⟨hR, Fr.rf, hn1, by rw [hat]; show p = p + 0; omega, fun j h1 h2 => absurd h2 (by show ¬ j < p + 0; omega)⟩
    · intro m1 hinv
      obtain ⟨hR1, hF1, hl1, ha1, hw1⟩ := hinv
      refine tz_aload0 (n := 1) (g_at ck_X7_advance 0 rfl) rfl (g_ne kd_38) ?_
      refine tz_getIw (n := 4) (kz := 2) fk_X7_23 kd_38 (g_at ck_X7_advance 1 rfl) rfl rfl ?_
      rw [ha1]
      refine tz_aload0 (n := 5) (g_at ck_X7_advance 2 rfl) rfl (g_ne kd_38) ?_
      refine tz_getIw (n := 8) (kz := 1) fk_X7_19 kd_38 (g_at ck_X7_advance 3 rfl) rfl rfl ?_
      rw [hl1]
      refine tz_icmp_ge (n := 11) (tgt := 52) (g_at ck_X7_advance 4 rfl) rfl rfl ⟨by omega, by omega, by omega, by omega⟩ (fun h8 => ?_) (fun h8 => absurd h8 (by omega))
      exact hj52 _ ⟨hR1, hF1, hl1, by rw [ha1]; exact ⟨by omega, hw1, fun h9 => absurd h9.1 (by omega)⟩⟩
    · intro m1 hinv
      obtain ⟨hR1, hF1, hl1, ha1, hw1⟩ := hinv
      have hT1 := hT.fr hF1
      have hb9 := hB (p + (i : Int))
      refine tz_aload0 (n := 1) (g_at ck_X7_advance 0 rfl) rfl (g_ne kd_38) ?_
      refine tz_getIw (n := 4) (kz := 2) fk_X7_23 kd_38 (g_at ck_X7_advance 1 rfl) rfl rfl ?_
      rw [ha1]
      refine tz_aload0 (n := 5) (g_at ck_X7_advance 2 rfl) rfl (g_ne kd_38) ?_
      refine tz_getIw (n := 8) (kz := 1) fk_X7_19 kd_38 (g_at ck_X7_advance 3 rfl) rfl rfl ?_
      rw [hl1]
      refine tz_icmp_ge (n := 11) (tgt := 52) (g_at ck_X7_advance 4 rfl) rfl rfl ⟨by omega, by omega, by omega, by omega⟩ (fun h8 => absurd h8 (by omega)) (fun h8 => ?_)
      refine tz_aload0 (n := 12) (g_at ck_X7_advance 5 rfl) rfl (g_ne kd_38) ?_
      refine tz_getAv (n := 15) (a := 2) fk_X7_7 kd_38 (ly_38_0 hL) (g_at ck_X7_advance 6 rfl) rfl ?_
      refine tz_aload0 (n := 16) (g_at ck_X7_advance 7 rfl) rfl (g_ne kd_38) ?_
      refine tz_getIw (n := 19) (kz := 2) fk_X7_23 kd_38 (g_at ck_X7_advance 8 rfl) rfl rfl ?_
      rw [ha1]
      refine tz_iald (n := 20) kd_2 (by omega) (g_at ck_X7_advance 9 rfl) rfl ?_
      rw [hT1 _ (by omega) (by omega)]
      refine tz_bipush (n := 22) (g_at ck_X7_advance 10 rfl) rfl rfl ?_
      refine tz_icmp_eq (n := 25) (tgt := 39) (g_at ck_X7_advance 11 rfl) rfl rfl ⟨by omega, by omega, by decide, by decide⟩ (fun h22 => ?_) (fun h22 => ?_)
      · skip
        refine tz_aload0 (n := 40) (g_at ck_X7_advance 19 rfl) rfl (g_ne kd_38) ?_
        refine tz_dupR (n := 41) (g_at ck_X7_advance 20 rfl) rfl ?_
        refine tz_getIw (n := 44) (kz := 2) fk_X7_23 kd_38 (g_at ck_X7_advance 21 rfl) rfl rfl ?_
        rw [ha1]
        refine tz_iconst (n := 45) (g_at ck_X7_advance 22 rfl) rfl ?_
        refine tz_iadd (n := 46) (g_at ck_X7_advance 23 rfl) rfl ?_
        refine tz_putIr (n := 49) (kz := 2) fk_X7_23 kd_38 (g_at ck_X7_advance 24 rfl) rfl hR1 (by omega) rfl (fun hR1 => ?_)
        refine tz_goto (tgt := 0) (g_at ck_X7_advance 25 rfl) rfl ?_
        exact ihi _ ⟨hR1, hF1.wr (by decide), by rw [wr_at, if_neg (by decide)]; exact hl1, by rw [wr_same]; omega, end_step hw1 (by omega) (Or.inl h22)⟩
      · skip
        refine tz_aload0 (n := 26) (g_at ck_X7_advance 12 rfl) rfl (g_ne kd_38) ?_
        refine tz_getAv (n := 29) (a := 2) fk_X7_7 kd_38 (ly_38_0 hL) (g_at ck_X7_advance 13 rfl) rfl ?_
        refine tz_aload0 (n := 30) (g_at ck_X7_advance 14 rfl) rfl (g_ne kd_38) ?_
        refine tz_getIw (n := 33) (kz := 2) fk_X7_23 kd_38 (g_at ck_X7_advance 15 rfl) rfl rfl ?_
        rw [ha1]
        refine tz_iald (n := 34) kd_2 (by omega) (g_at ck_X7_advance 16 rfl) rfl ?_
        rw [hT1 _ (by omega) (by omega)]
        refine tz_bipush (n := 36) (g_at ck_X7_advance 17 rfl) rfl rfl ?_
        refine tz_icmp_ne (n := 39) (tgt := 52) (g_at ck_X7_advance 18 rfl) rfl rfl ⟨by omega, by omega, by decide, by decide⟩ (fun h36 => ?_) (fun h36 => ?_)
        · skip
          exact hj52 _ ⟨hR1, hF1, hl1, by rw [ha1]; exact ⟨by omega, hw1, fun h9 => (show ¬ blnk (t (p + (i : Int))) from fun h8 => h8.elim h22 h36) h9.2⟩⟩
        · skip
          refine tz_aload0 (n := 40) (g_at ck_X7_advance 19 rfl) rfl (g_ne kd_38) ?_
          refine tz_dupR (n := 41) (g_at ck_X7_advance 20 rfl) rfl ?_
          refine tz_getIw (n := 44) (kz := 2) fk_X7_23 kd_38 (g_at ck_X7_advance 21 rfl) rfl rfl ?_
          rw [ha1]
          refine tz_iconst (n := 45) (g_at ck_X7_advance 22 rfl) rfl ?_
          refine tz_iadd (n := 46) (g_at ck_X7_advance 23 rfl) rfl ?_
          refine tz_putIr (n := 49) (kz := 2) fk_X7_23 kd_38 (g_at ck_X7_advance 24 rfl) rfl hR1 (by omega) rfl (fun hR2 => ?_)
          refine tz_goto (tgt := 0) (g_at ck_X7_advance 25 rfl) rfl ?_
          exact ihi _ ⟨hR2, hF1.wr (by decide), by rw [wr_at, if_neg (by decide)]; exact hl1, by rw [wr_same]; omega, end_step hw1 (by omega) (Or.inr h36)⟩
  · intro m1 hinv
    obtain ⟨hR1, hF1, hl1, he1⟩ := hinv
    have hT1 := hT.fr hF1
    have hle := isEnd_le he1 hp.2
    have hge := he1.1
    have hb9 := hB (m1 38 2)
    refine tz_aload0 (n := 53) (g_at ck_X7_advance 26 rfl) rfl (g_ne kd_38) ?_
    refine tz_aload0 (n := 54) (g_at ck_X7_advance 27 rfl) rfl (g_ne kd_38) ?_
    refine tz_getIw (n := 57) (kz := 2) fk_X7_23 kd_38 (g_at ck_X7_advance 28 rfl) rfl rfl ?_
    refine tz_putIr (n := 60) (kz := 4) fk_X7_29 kd_38 (g_at ck_X7_advance 29 rfl) rfl hR1 (hR1 _ _) rfl (fun hR3 => ?_)
    refine tz_aload0 (n := 61) (g_at ck_X7_advance 30 rfl) rfl (g_ne kd_38) ?_
    refine tz_getIw (n := 64) (kz := 2) fk_X7_23 kd_38 (g_at ck_X7_advance 31 rfl) rfl rfl ?_
    rw [wr_at, if_neg (by decide)]
    refine tz_aload0 (n := 65) (g_at ck_X7_advance 32 rfl) rfl (g_ne kd_38) ?_
    refine tz_getIw (n := 68) (kz := 1) fk_X7_19 kd_38 (g_at ck_X7_advance 33 rfl) rfl rfl ?_
    rw [wr_at, if_neg (by decide), hl1]
    refine tz_icmp_lt (n := 71) (tgt := 79) (g_at ck_X7_advance 34 rfl) rfl rfl ⟨by omega, by omega, by omega, by omega⟩ (fun h68 => ?_) (fun h68 => ?_)
    · skip
      refine tz_aload0 (n := 80) (g_at ck_X7_advance 39 rfl) rfl (g_ne kd_38) ?_
      refine tz_getAv (n := 83) (a := 2) fk_X7_7 kd_38 (ly_38_0 hL) (g_at ck_X7_advance 40 rfl) rfl ?_
      refine tz_aload0 (n := 84) (g_at ck_X7_advance 41 rfl) rfl (g_ne kd_38) ?_
      refine tz_getIw (n := 87) (kz := 2) fk_X7_23 kd_38 (g_at ck_X7_advance 42 rfl) rfl rfl ?_
      rw [wr_at, if_neg (by decide)]
      refine tz_iald (n := 88) kd_2 (by omega) (g_at ck_X7_advance 43 rfl) rfl ?_
      rw [wr_ne (show (2 : Int) ≠ 38 by decide), hT1 _ (by omega) (by omega)]
      refine tz_csI1 (n := 91) (μ' := μX7_isLetter) (cb' := 0) (sb' := 0) ml_X7_35 mo_X7_isLetter ms_X7_isLetter np_X7_isLetter (g_at ck_X7_advance 44 rfl) (sp_isLetter hR3 hb9) rfl rfl ⟨by decide, by decide⟩ (Nat.le_of_ble_eq_true rfl) (by decide) (by decide) (fun x88 ρ9 m88 hq => ?_)
      obtain ⟨rfl, hR4, rfl, rfl⟩ := hq
      refine tz_if_eq (n := 94) (tgt := 106) (g_at ck_X7_advance 45 rfl) rfl rfl (by unfold isLetterI; split <;> decide) (fun h91 => ?_) (fun h91 => ?_)
      · skip
        refine tz_aload0 (n := 107) (g_at ck_X7_advance 52 rfl) rfl (g_ne kd_38) ?_
        refine tz_getAv (n := 110) (a := 2) fk_X7_7 kd_38 (ly_38_0 hL) (g_at ck_X7_advance 53 rfl) rfl ?_
        refine tz_aload0 (n := 111) (g_at ck_X7_advance 54 rfl) rfl (g_ne kd_38) ?_
        refine tz_getIw (n := 114) (kz := 2) fk_X7_23 kd_38 (g_at ck_X7_advance 55 rfl) rfl rfl ?_
        rw [wr_at, if_neg (by decide)]
        refine tz_iald (n := 115) kd_2 (by omega) (g_at ck_X7_advance 56 rfl) rfl ?_
        rw [wr_ne (show (2 : Int) ≠ 38 by decide), hT1 _ (by omega) (by omega)]
        refine tz_csI1 (n := 118) (μ' := μX7_isDigit) (cb' := 0) (sb' := 0) ml_X7_42 mo_X7_isDigit ms_X7_isDigit np_X7_isDigit (g_at ck_X7_advance 57 rfl) (sp_isDigit hR4 hb9) rfl rfl ⟨by decide, by decide⟩ (Nat.le_of_ble_eq_true rfl) (by decide) (by decide) (fun x115 ρ9 m115 hq => ?_)
        obtain ⟨rfl, hR5, rfl, rfl⟩ := hq
        refine tz_if_eq (n := 121) (tgt := 133) (g_at ck_X7_advance 58 rfl) rfl rfl (by unfold isDigitI; split <;> decide) (fun h118 => ?_) (fun h118 => ?_)
        · skip
          refine tz_aload0 (n := 134) (g_at ck_X7_advance 65 rfl) rfl (g_ne kd_38) ?_
          refine tz_ldcSw (n := 136) st_1 (g_at ck_X7_advance 66 rfl) rfl ?_
          refine tz_aload0 (n := 137) (g_at ck_X7_advance 67 rfl) rfl (g_ne kd_38) ?_
          refine tz_getAv (n := 140) (a := 2) fk_X7_7 kd_38 (ly_38_0 hL) (g_at ck_X7_advance 68 rfl) rfl ?_
          refine tz_aload0 (n := 141) (g_at ck_X7_advance 69 rfl) rfl (g_ne kd_38) ?_
          refine tz_getIw (n := 144) (kz := 2) fk_X7_23 kd_38 (g_at ck_X7_advance 70 rfl) rfl rfl ?_
          rw [wr_at, if_neg (by decide)]
          refine tz_iald (n := 145) kd_2 (by omega) (g_at ck_X7_advance 71 rfl) rfl ?_
          rw [wr_ne (show (2 : Int) ≠ 38 by decide), hT1 _ (by omega) (by omega)]
          refine tz_i2c (n := 146) (g_at ck_X7_advance 72 rfl) rfl ?_
          rw [b2c_id hb9]
          refine tz_cvS1 (n := 149) (μ' := μJ0_indexOf_0f7a4) (cb' := 0) (sb' := 0) (g_in (g_m4 (List.mem_of_getElem? (i := 4) rfl)) rfl) mo_J0_indexOf_0f7a4 mv_J0_indexOf_0f7a4 np_J0_indexOf_0f7a4 sn_1 (g_at ck_X7_advance 73 rfl) (sp_indexOf (i9 := 1) sn_1 hR5 hb9) rfl rfl rfl ⟨by decide, by decide⟩ (Nat.le_of_ble_eq_true rfl) (by decide) (by decide) (fun x146 ρ9 m146 hq => ?_)
          obtain ⟨rfl, hR6, hx146, rfl⟩ := hq
          have hx9 : -1 ≤ x146 ∧ x146 < 2147483648 := by have := sLen_1; omega
          refine tz_if_lt (n := 152) (tgt := 164) (g_at ck_X7_advance 74 rfl) rfl rfl (by omega) (fun h149 => ?_) (fun h149 => ?_)
          · skip
            refine tz_iconst (n := 165) (g_at ck_X7_advance 81 rfl) rfl ?_
            refine tz_putIr (n := 168) (kz := 3) fk_X7_32 kd_38 (g_at ck_X7_advance 82 rfl) rfl hR6 (by omega) rfl (fun hR7 => ?_)
            refine tz_aload0 (n := 169) (g_at ck_X7_advance 83 rfl) rfl (g_ne kd_38) ?_
            refine tz_dupR (n := 170) (g_at ck_X7_advance 84 rfl) rfl ?_
            refine tz_getIw (n := 173) (kz := 2) fk_X7_23 kd_38 (g_at ck_X7_advance 85 rfl) rfl rfl ?_
            simp only [wr_at, Int.reduceEq, if_true, if_false]
            refine tz_iconst (n := 174) (g_at ck_X7_advance 86 rfl) rfl ?_
            refine tz_iadd (n := 175) (g_at ck_X7_advance 87 rfl) rfl ?_
            refine tz_putIr (n := 178) (kz := 2) fk_X7_23 kd_38 (g_at ck_X7_advance 88 rfl) rfl hR7 (by omega) rfl (fun hR8 => ?_)
            exact tz_vret (g_at ck_X7_advance 89 rfl) rfl (rV_mk ⟨rfl, hR8, ((hF1.wr (by decide)).wr (by decide)).wr (by decide), ⟨by simp only [wr_at, Int.reduceEq, if_true, if_false]; exact hl1, hT.fr (((hF1.wr (by decide)).wr (by decide)).wr (by decide)), by simp only [wr_at, Int.reduceEq, if_true, if_false]; exact ⟨he1, Or.inr (Or.inr (Or.inr ⟨by omega, isL_0 h91, isD_0 h118, Or.inr ⟨sgn_n (hx146.resolve_right (by omega)).2, rfl⟩, rfl⟩))⟩⟩⟩)
          · skip
            refine tz_aload0 (n := 153) (g_at ck_X7_advance 75 rfl) rfl (g_ne kd_38) ?_
            refine tz_getAv (n := 156) (a := 2) fk_X7_7 kd_38 (ly_38_0 hL) (g_at ck_X7_advance 76 rfl) rfl ?_
            refine tz_aload0 (n := 157) (g_at ck_X7_advance 77 rfl) rfl (g_ne kd_38) ?_
            refine tz_getIw (n := 160) (kz := 2) fk_X7_23 kd_38 (g_at ck_X7_advance 78 rfl) rfl rfl ?_
            rw [wr_at, if_neg (by decide)]
            refine tz_iald (n := 161) kd_2 (by omega) (g_at ck_X7_advance 79 rfl) rfl ?_
            rw [wr_ne (show (2 : Int) ≠ 38 by decide), hT1 _ (by omega) (by omega)]
            refine tz_goto (tgt := 165) (g_at ck_X7_advance 80 rfl) rfl ?_
            refine tz_putIr (n := 168) (kz := 3) fk_X7_32 kd_38 (g_at ck_X7_advance 82 rfl) rfl hR6 (by omega) rfl (fun hR9 => ?_)
            refine tz_aload0 (n := 169) (g_at ck_X7_advance 83 rfl) rfl (g_ne kd_38) ?_
            refine tz_dupR (n := 170) (g_at ck_X7_advance 84 rfl) rfl ?_
            refine tz_getIw (n := 173) (kz := 2) fk_X7_23 kd_38 (g_at ck_X7_advance 85 rfl) rfl rfl ?_
            simp only [wr_at, Int.reduceEq, if_true, if_false]
            refine tz_iconst (n := 174) (g_at ck_X7_advance 86 rfl) rfl ?_
            refine tz_iadd (n := 175) (g_at ck_X7_advance 87 rfl) rfl ?_
            refine tz_putIr (n := 178) (kz := 2) fk_X7_23 kd_38 (g_at ck_X7_advance 88 rfl) rfl hR9 (by omega) rfl (fun hR10 => ?_)
            exact tz_vret (g_at ck_X7_advance 89 rfl) rfl (rV_mk ⟨rfl, hR10, ((hF1.wr (by decide)).wr (by decide)).wr (by decide), ⟨by simp only [wr_at, Int.reduceEq, if_true, if_false]; exact hl1, hT.fr (((hF1.wr (by decide)).wr (by decide)).wr (by decide)), by simp only [wr_at, Int.reduceEq, if_true, if_false]; exact ⟨he1, Or.inr (Or.inr (Or.inr ⟨by omega, isL_0 h91, isD_0 h118, Or.inl ⟨sgn_y (hx146.resolve_left (by omega)), rfl⟩, rfl⟩))⟩⟩⟩)
        · skip
          refine tz_aload0 (n := 122) (g_at ck_X7_advance 59 rfl) rfl (g_ne kd_38) ?_
          refine tz_iconst (n := 123) (g_at ck_X7_advance 60 rfl) rfl ?_
          refine tz_putIr (n := 126) (kz := 3) fk_X7_32 kd_38 (g_at ck_X7_advance 61 rfl) rfl hR5 ⟨(by decide), (by decide)⟩ rfl (fun hR11 => ?_)
          refine tz_aload0 (n := 127) (g_at ck_X7_advance 62 rfl) rfl (g_ne kd_38) ?_
          refine tz_cvV0 (n := 130) (μ' := μX7_passNumber) (cb' := 0) (sb' := 0) ml_X7_45 mo_X7_passNumber mv_X7_passNumber np_X7_passNumber kd_38 (g_at ck_X7_advance 63 rfl) (sp_passNumber hL hR11 hB hn (show 0 ≤ m1 38 2 ∧ m1 38 2 ≤ n by omega) (by simp only [wr_at, Int.reduceEq, if_true, if_false]; exact hl1) (hT.fr ((hF1.wr (by decide)).wr (by decide))) (by simp only [wr_at, Int.reduceEq, if_true, if_false]) (by simp only [wr_at, Int.reduceEq, if_true, if_false])) rfl rfl rfl ⟨by decide, by decide⟩ (Nat.le_of_ble_eq_true rfl) (by decide) (by decide) (fun ρ9 m127 hq => ?_)
          obtain ⟨rfl, hR12, hF127, hk127, he127, hv127⟩ := hq
          refine tz_goto (tgt := 178) (g_at ck_X7_advance 64 rfl) rfl ?_
          exact tz_vret (g_at ck_X7_advance 89 rfl) rfl (rV_mk ⟨rfl, hR12, ((hF1.wr (by decide)).wr (by decide)).tr hF127, ⟨by rw [hk127 1 (by decide) (by decide)]; simp only [wr_at, Int.reduceEq, if_true, if_false]; exact hl1, hT.fr (((hF1.wr (by decide)).wr (by decide)).tr hF127), by rw [hk127 4 (by decide) (by decide), hk127 3 (by decide) (by decide)]; simp only [wr_at, Int.reduceEq, if_true, if_false]; exact ⟨he1, Or.inr (Or.inr (Or.inl ⟨by omega, isD_1 h118, rfl, he127, hv127⟩))⟩⟩⟩)
      · skip
        refine tz_aload0 (n := 95) (g_at ck_X7_advance 46 rfl) rfl (g_ne kd_38) ?_
        refine tz_iconst (n := 96) (g_at ck_X7_advance 47 rfl) rfl ?_
        refine tz_putIr (n := 99) (kz := 3) fk_X7_32 kd_38 (g_at ck_X7_advance 48 rfl) rfl hR4 ⟨(by decide), (by decide)⟩ rfl (fun hR13 => ?_)
        refine tz_aload0 (n := 100) (g_at ck_X7_advance 49 rfl) rfl (g_ne kd_38) ?_
        refine tz_cvV0 (n := 103) (μ' := μX7_passWord) (cb' := 0) (sb' := 0) ml_X7_39 mo_X7_passWord mv_X7_passWord np_X7_passWord kd_38 (g_at ck_X7_advance 50 rfl) (sp_passWord hL hR13 hB hn (show 0 ≤ m1 38 2 ∧ m1 38 2 ≤ n by omega) (by simp only [wr_at, Int.reduceEq, if_true, if_false]; exact hl1) (hT.fr ((hF1.wr (by decide)).wr (by decide))) (by simp only [wr_at, Int.reduceEq, if_true, if_false])) rfl rfl rfl ⟨by decide, by decide⟩ (Nat.le_of_ble_eq_true rfl) (by decide) (by decide) (fun ρ9 m100 hq => ?_)
        obtain ⟨rfl, hR14, hF100, hk100, he100⟩ := hq
        refine tz_goto (tgt := 178) (g_at ck_X7_advance 51 rfl) rfl ?_
        exact tz_vret (g_at ck_X7_advance 89 rfl) rfl (rV_mk ⟨rfl, hR14, ((hF1.wr (by decide)).wr (by decide)).tr hF100, ⟨by rw [hk100 1 (by decide)]; simp only [wr_at, Int.reduceEq, if_true, if_false]; exact hl1, hT.fr (((hF1.wr (by decide)).wr (by decide)).tr hF100), by rw [hk100 4 (by decide), hk100 3 (by decide)]; simp only [wr_at, Int.reduceEq, if_true, if_false]; exact ⟨he1, Or.inr (Or.inl ⟨by omega, isL_1 h91, rfl, he100⟩)⟩⟩⟩)
    · skip
      refine tz_aload0 (n := 72) (g_at ck_X7_advance 35 rfl) rfl (g_ne kd_38) ?_
      refine tz_iconst (n := 73) (g_at ck_X7_advance 36 rfl) rfl ?_
      refine tz_putIr (n := 76) (kz := 3) fk_X7_32 kd_38 (g_at ck_X7_advance 37 rfl) rfl hR3 ⟨(by decide), (by decide)⟩ rfl (fun hR15 => ?_)
      refine tz_goto (tgt := 178) (g_at ck_X7_advance 38 rfl) rfl ?_
      exact tz_vret (g_at ck_X7_advance 89 rfl) rfl (rV_mk ⟨rfl, hR15, (hF1.wr (by decide)).wr (by decide), ⟨by simp only [wr_at, Int.reduceEq, if_true, if_false]; exact hl1, hT.fr ((hF1.wr (by decide)).wr (by decide)), by simp only [wr_at, Int.reduceEq, if_true, if_false]; exact ⟨he1, Or.inl ⟨by omega, rfl, rfl⟩⟩⟩⟩)
theorem sp_isTooLong {l : Launch} {γ : Gh} {ρ m : Mm} {t : Int → Int} {n p : Int} (hR : MR m) (hB : BY t) (hn : 0 ≤ n ∧ n ≤ 700) (hp : 0 ≤ p ∧ p ≤ n) (hC : TokC m t n p) : gE l γ μX7_isTooLong 0 0 0 (rI KK fun x ρ9 m9 => ρ = ρ9 ∧ MR m9 ∧ (if 4 < tQ t n p - tA t n p then 1 else 0) = x ∧ m = m9) xN KK ρ m [vR 38] := by
  refine gE.ofw cl_X7.2 ?_ rfl rfl (Nat.le_of_ble_eq_true rfl)
  show gT l γ μX7_isTooLong 0 0 0 _ _ KK ρ m 0 [some (vR 38)] []
  have hr9 := tk_rg hB hp
  refine tz_aload0 (n := 1) (g_at ck_X7_isTooLong 0 rfl) rfl (g_ne kd_38) ?_
  refine tz_getIw (n := 4) (kz := 2) fk_X7_23 kd_38 (g_at ck_X7_isTooLong 1 rfl) rfl rfl ?_
  rw [hC.q]
  refine tz_aload0 (n := 5) (g_at ck_X7_isTooLong 2 rfl) rfl (g_ne kd_38) ?_
  refine tz_getIw (n := 8) (kz := 4) fk_X7_29 kd_38 (g_at ck_X7_isTooLong 3 rfl) rfl rfl ?_
  rw [hC.a]
  refine tz_isub (n := 9) (g_at ck_X7_isTooLong 4 rfl) rfl ?_
  refine tz_iconst (n := 10) (g_at ck_X7_isTooLong 5 rfl) rfl ?_
  refine tz_icmp_le (n := 13) (tgt := 17) (g_at ck_X7_isTooLong 6 rfl) rfl rfl ⟨by omega, by omega, by decide, by decide⟩ (fun h10 => ?_) (fun h10 => ?_)
  · skip
    refine tz_iconst (n := 18) (g_at ck_X7_isTooLong 9 rfl) rfl ?_
    exact tz_bret (g_at ck_X7_isTooLong 10 rfl) rfl (by decide) (rI_mk ⟨rfl, hR, if_neg (by omega), rfl⟩)
  · skip
    refine tz_iconst (n := 14) (g_at ck_X7_isTooLong 7 rfl) rfl ?_
    refine tz_goto (tgt := 18) (g_at ck_X7_isTooLong 8 rfl) rfl ?_
    exact tz_bret (g_at ck_X7_isTooLong 10 rfl) rfl (by decide) (rI_mk ⟨rfl, hR, if_pos (by omega), rfl⟩)
noncomputable def wdI (t : Int → Int) (n p : Int) (i9 : Nat) : Int := if tK t n p = 1 ∧ tQ t n p - tA t n p = sLen i9 ∧ ∀ k : Nat, k < (sLen i9).toNat → t (tA t n p + (k : Int)) = sCh i9 (k : Int) then 1 else 0
theorem wdI_01 {t : Int → Int} {n p : Int} {i9 : Nat} : wdI t n p i9 = 0 ∨ wdI t n p i9 = 1 := by
  unfold wdI
  split <;> simp
theorem sp_isWord {l : Launch} {γ : Gh} {ρ m : Mm} {i9 : Nat} {t : Int → Int} {n p : Int} (hj9 : i9 < g_st.length) (hL : LY ρ) (hR : MR m) (hB : BY t) (hn : 0 ≤ n ∧ n ≤ 700) (hp : 0 ≤ p ∧ p ≤ n) (hC : TokC m t n p) : gE l γ μX7_isWord 4 0 0 (rI KK fun x ρ9 m9 => ρ = ρ9 ∧ MR m9 ∧ wdI t n p i9 = x ∧ m = m9) xN KK ρ m [vR 38, vR (sR i9)] := by
  refine gE.ofw cl_X7.2 ?_ rfl rfl (Nat.le_of_ble_eq_true rfl)
  show gT l γ μX7_isWord 4 0 0 _ _ KK ρ m 0 [some (vR 38), some (vR (sR i9)), none] []
  have hr9 := tk_rg hB hp
  have hl9 := sLen_rg hj9
  refine tz_aload0 (n := 1) (g_at ck_X7_isWord 0 rfl) rfl (g_ne kd_38) ?_
  refine tz_getIw (n := 4) (kz := 3) fk_X7_32 kd_38 (g_at ck_X7_isWord 1 rfl) rfl rfl ?_
  rw [hC.k]
  refine tz_iconst (n := 5) (g_at ck_X7_isWord 2 rfl) rfl ?_
  refine tz_icmp_ne (n := 8) (tgt := 24) (g_at ck_X7_isWord 3 rfl) rfl rfl ⟨by omega, by omega, by decide, by decide⟩ (fun h5 => ?_) (fun h5 => ?_)
  · skip
    refine tz_iconst (n := 25) (g_at ck_X7_isWord 12 rfl) rfl ?_
    exact tz_bret (g_at ck_X7_isWord 13 rfl) rfl (by decide) (rI_mk ⟨rfl, hR, if_neg (fun h9 => h5 h9.1), rfl⟩)
  · skip
    refine tz_aload0 (n := 9) (g_at ck_X7_isWord 4 rfl) rfl (g_ne kd_38) ?_
    refine tz_getIw (n := 12) (kz := 2) fk_X7_23 kd_38 (g_at ck_X7_isWord 5 rfl) rfl rfl ?_
    rw [hC.q]
    refine tz_aload0 (n := 13) (g_at ck_X7_isWord 6 rfl) rfl (g_ne kd_38) ?_
    refine tz_getIw (n := 16) (kz := 4) fk_X7_29 kd_38 (g_at ck_X7_isWord 7 rfl) rfl rfl ?_
    rw [hC.a]
    refine tz_isub (n := 17) (g_at ck_X7_isWord 8 rfl) rfl ?_
    refine tz_aload1 (n := 18) (g_at ck_X7_isWord 9 rfl) rfl sR_ne ?_
    refine tz_cvS0 (n := 21) (μ' := μJ0_length_8abf5) (cb' := 0) (sb' := 0) (g_in (g_m4 (List.mem_of_getElem? (i := 95) rfl)) rfl) mo_J0_length_8abf5 mv_J0_length_8abf5 np_J0_length_8abf5 hj9 (g_at ck_X7_isWord 10 rfl) (sp_strLen (i9 := i9) hj9 hR) rfl rfl rfl ⟨by decide, by decide⟩ (Nat.le_of_ble_eq_true rfl) (by decide) (by decide) (fun x18 ρ9 m18 hq => ?_)
    obtain ⟨rfl, hR1, rfl, rfl⟩ := hq
    refine tz_icmp_eq (n := 24) (tgt := 26) (g_at ck_X7_isWord 11 rfl) rfl rfl ⟨by omega, by omega, by omega, by omega⟩ (fun h21 => ?_) (fun h21 => ?_)
    · skip
      refine tz_iconst (n := 27) (g_at ck_X7_isWord 14 rfl) rfl ?_
      refine tz_istore2 (n := 28) (g_at ck_X7_isWord 15 rfl) rfl (by decide) g_hpR ?_
      refine g_for (fun i : Nat => (∀ k : Nat, k < i → t (tA t n p + (k : Int)) = sCh i9 (k : Int)) → gT l γ μX7_isWord 4 0 0 _ _ KK ρ m 28 [some (vR 38), some (vR (sR i9)), some (vI (i : Int))] []) (sLen i9).toNat ?_ (fun i hi ihi => ?_) 0 (Nat.zero_le _) (fun k hk => absurd hk (Nat.not_lt_zero k))
      · intro hinv
        refine tz_iload2 (n := 29) (g_at ck_X7_isWord 16 rfl) rfl ?_
        refine tz_aload1 (n := 30) (g_at ck_X7_isWord 17 rfl) rfl sR_ne ?_
        refine tz_cvS0 (n := 33) (μ' := μJ0_length_8abf5) (cb' := 0) (sb' := 0) (g_in (g_m4 (List.mem_of_getElem? (i := 95) rfl)) rfl) mo_J0_length_8abf5 mv_J0_length_8abf5 np_J0_length_8abf5 hj9 (g_at ck_X7_isWord 18 rfl) (sp_strLen (i9 := i9) hj9 hR1) rfl rfl rfl ⟨by decide, by decide⟩ (Nat.le_of_ble_eq_true rfl) (by decide) (by decide) (fun x30 ρ9 m30 hq => ?_)
        obtain ⟨rfl, hR2, rfl, rfl⟩ := hq
        refine tz_icmp_ge (n := 36) (tgt := 63) (g_at ck_X7_isWord 19 rfl) rfl rfl ⟨(by omega), (by omega), (by omega), (by omega)⟩ (fun h33 => ?_) (fun h33 => absurd h33 (by omega))
        refine tz_iconst (n := 64) (g_at ck_X7_isWord 35 rfl) rfl ?_
        exact tz_bret (g_at ck_X7_isWord 36 rfl) rfl (by decide) (rI_mk ⟨rfl, hR2, if_pos ⟨h5, h21, hinv⟩, rfl⟩)
      · intro hinv
        have hc9 := sCh_rg hj9 (j := (i : Int)) (by omega)
        have hb9 := hB (tA t n p + (i : Int))
        refine tz_iload2 (n := 29) (g_at ck_X7_isWord 16 rfl) rfl ?_
        refine tz_aload1 (n := 30) (g_at ck_X7_isWord 17 rfl) rfl sR_ne ?_
        refine tz_cvS0 (n := 33) (μ' := μJ0_length_8abf5) (cb' := 0) (sb' := 0) (g_in (g_m4 (List.mem_of_getElem? (i := 95) rfl)) rfl) mo_J0_length_8abf5 mv_J0_length_8abf5 np_J0_length_8abf5 hj9 (g_at ck_X7_isWord 18 rfl) (sp_strLen (i9 := i9) hj9 hR1) rfl rfl rfl ⟨by decide, by decide⟩ (Nat.le_of_ble_eq_true rfl) (by decide) (by decide) (fun x30 ρ9 m30 hq => ?_)
        obtain ⟨rfl, hR3, rfl, rfl⟩ := hq
        refine tz_icmp_ge (n := 36) (tgt := 63) (g_at ck_X7_isWord 19 rfl) rfl rfl ⟨(by omega), (by omega), (by omega), (by omega)⟩ (fun h33 => absurd h33 (by omega)) (fun h33 => ?_)
        refine tz_aload0 (n := 37) (g_at ck_X7_isWord 20 rfl) rfl (g_ne kd_38) ?_
        refine tz_getAv (n := 40) (a := 2) fk_X7_7 kd_38 (ly_38_0 hL) (g_at ck_X7_isWord 21 rfl) rfl ?_
        refine tz_aload0 (n := 41) (g_at ck_X7_isWord 22 rfl) rfl (g_ne kd_38) ?_
        refine tz_getIw (n := 44) (kz := 4) fk_X7_29 kd_38 (g_at ck_X7_isWord 23 rfl) rfl rfl ?_
        rw [hC.a]
        refine tz_iload2 (n := 45) (g_at ck_X7_isWord 24 rfl) rfl ?_
        refine tz_iadd (n := 46) (g_at ck_X7_isWord 25 rfl) rfl ?_
        refine tz_iald (n := 47) kd_2 (by omega) (g_at ck_X7_isWord 26 rfl) rfl ?_
        rw [hC.2.1 _ (by omega) (by omega)]
        refine tz_aload1 (n := 48) (g_at ck_X7_isWord 27 rfl) rfl sR_ne ?_
        refine tz_iload2 (n := 49) (g_at ck_X7_isWord 28 rfl) rfl ?_
        refine tz_cvS1 (n := 52) (μ' := μJ0_charAt_5068e) (cb' := 0) (sb' := 0) (g_in (g_m4 (List.mem_of_getElem? (i := 96) rfl)) rfl) mo_J0_charAt_5068e mv_J0_charAt_5068e np_J0_charAt_5068e hj9 (g_at ck_X7_isWord 29 rfl) (sp_charAt (i9 := i9) hj9 hR3 (by omega)) rfl rfl rfl ⟨by decide, by decide⟩ (Nat.le_of_ble_eq_true rfl) (by decide) (by decide) (fun x49 ρ9 m49 hq => ?_)
        obtain ⟨rfl, hR4, rfl, rfl⟩ := hq
        refine tz_icmp_eq (n := 55) (tgt := 57) (g_at ck_X7_isWord 30 rfl) rfl rfl ⟨by omega, by omega, by omega, by omega⟩ (fun h52 => ?_) (fun h52 => ?_)
        · skip
          refine tz_iinc2 (n := 60) (g_at ck_X7_isWord 33 rfl) rfl (by decide) g_hpR ?_
          refine tz_goto (tgt := 28) (g_at ck_X7_isWord 34 rfl) rfl ?_
          exact ihi (fun k hk => by
            by_cases e9 : k = i
            · rw [e9]; exact h52
            · exact hinv k (by omega))
        · skip
          refine tz_iconst (n := 56) (g_at ck_X7_isWord 31 rfl) rfl ?_
          exact tz_bret (g_at ck_X7_isWord 32 rfl) rfl (by decide) (rI_mk ⟨rfl, hR4, if_neg (fun h9 => h52 (h9.2.2 i (by omega))), rfl⟩)
    · skip
      refine tz_iconst (n := 25) (g_at ck_X7_isWord 12 rfl) rfl ?_
      exact tz_bret (g_at ck_X7_isWord 13 rfl) rfl (by decide) (rI_mk ⟨rfl, hR1, if_neg (fun h9 => h21 h9.2.1), rfl⟩)
theorem sp_open {l : Launch} {γ : Gh} {ρ m : Mm} {t : Int → Int} {n : Int} (hL : LY ρ) (hR : MR m) (hB : BY t) (hn : 0 ≤ n ∧ n ≤ 700) (hT : TpC m t n) : gE l γ μX7_open 6 0 0 (rV KK fun ρ9 m9 => ρ = ρ9 ∧ MR m9 ∧ Fr [38] m m9 ∧ TokC m9 t n 0) xN KK ρ m [vR 38, vI n] := by
  refine gE.ofw cl_X7.2 ?_ rfl rfl (Nat.le_of_ble_eq_true rfl)
  show gT l γ μX7_open 6 0 0 _ _ KK ρ m 0 [some (vR 38), some (vI n)] []
  refine tz_aload0 (n := 1) (g_at ck_X7_open 0 rfl) rfl (g_ne kd_38) ?_
  refine tz_iload1 (n := 2) (g_at ck_X7_open 1 rfl) rfl ?_
  refine tz_aload0 (n := 3) (g_at ck_X7_open 2 rfl) rfl (g_ne kd_38) ?_
  refine tz_getAv (n := 6) (a := 2) fk_X7_7 kd_38 (ly_38_0 hL) (g_at ck_X7_open 3 rfl) rfl ?_
  refine tz_alen (n := 7) kd_2 (g_at ck_X7_open 4 rfl) rfl ?_
  refine tz_mmin (n := 10) mm_X7_13 mmin_1 mm_i mmin_2 ⟨by omega, by omega, by decide, by decide⟩ (g_at ck_X7_open 5 rfl) rfl (by decide) (Nat.le_of_ble_eq_true rfl) ?_
  rw [if_neg (show ¬ ((700 : Nat) : Int) < n by omega)]
  refine tz_putIr (n := 13) (kz := 1) fk_X7_19 kd_38 (g_at ck_X7_open 6 rfl) rfl hR (by omega) rfl (fun hR1 => ?_)
  refine tz_aload0 (n := 14) (g_at ck_X7_open 7 rfl) rfl (g_ne kd_38) ?_
  refine tz_iconst (n := 15) (g_at ck_X7_open 8 rfl) rfl ?_
  refine tz_putIr (n := 18) (kz := 2) fk_X7_23 kd_38 (g_at ck_X7_open 9 rfl) rfl hR1 ⟨(by decide), (by decide)⟩ rfl (fun hR2 => ?_)
  refine tz_aload0 (n := 19) (g_at ck_X7_open 10 rfl) rfl (g_ne kd_38) ?_
  refine tz_cvV0 (n := 22) (μ' := μX7_advance) (cb' := 0) (sb' := 0) ml_X7_26 mo_X7_advance mv_X7_advance np_X7_advance kd_38 (g_at ck_X7_open 11 rfl) (sp_advance hL hR2 hB hn (show 0 ≤ (0 : Int) ∧ (0 : Int) ≤ n by omega) (by simp only [wr_at, Int.reduceEq, if_true, if_false]) (hT.fr ((Fr.rf.wr (by decide)).wr (by decide))) (by simp only [wr_at, Int.reduceEq, if_true, if_false])) rfl rfl rfl ⟨by decide, by decide⟩ (Nat.le_of_ble_eq_true rfl) (by decide) (by decide) (fun ρ9 m19 hq => ?_)
  obtain ⟨rfl, hR3, hF19, hC19⟩ := hq
  exact tz_vret (g_at ck_X7_open 12 rfl) rfl (rV_mk ⟨rfl, hR3, ((Fr.rf.wr (by decide)).wr (by decide)).tr hF19, hC19⟩)
