/-! The reference reads: tokens. -/
def so9 (k : Int) : Int := if k = 0 then 0 else if k = 1 then 1 else if k = 2 then 2 else if k = 3 then 4 else 3
def pkL (t : Int → Int) (a : Int) (k : Nat) : Int := fd (fun i v => lOr (lShl v 5) (w32 (t (a + (i : Int)) - 96))) 0 k
def mn8 (w : Int) : Nat := if w < 8 then w.toNat else 8
def ti9 (t : Int → Int) (n k : Int) : Int := if k < n then t k else 0
theorem ti9_rg {t : Int → Int} {n k : Int} (hB : BY t) : 0 ≤ ti9 t n k ∧ ti9 t n k < 256 := by
  unfold ti9
  split
  · exact hB k
  · decide
/-- the token at p -/
def MTk (ρ m : Mm) (t : Int → Int) (n p : Int) : Prop := m 84 16 = n ∧ (∀ j, 0 ≤ j → j < n → m 91 j = t j) ∧ m 84 17 = tQ t n p ∧ m 84 19 = tA t n p ∧ m 84 20 = tQ t n p - tA t n p ∧ m 84 18 = so9 (tK t n p) ∧ (tK t n p = 2 → m 84 21 = tV t n p) ∧ (3 < tK t n p → m 84 22 = tK t n p) ∧ (tK t n p = 1 → ρ 84 23 = pkL t (tA t n p) (mn8 (tQ t n p - tA t n p)))
theorem MTk.mk {ρ m : Mm} {t : Int → Int} {n p a k q v : Int} (h : Tk t n p a k q v) (h1 : m 84 16 = n) (h2 : ∀ j, 0 ≤ j → j < n → m 91 j = t j) (h3 : m 84 17 = q) (h4 : m 84 19 = a) (h5 : m 84 20 = q - a) (h6 : m 84 18 = so9 k) (h7 : k = 2 → m 84 21 = v) (h8 : 3 < k → m 84 22 = k) (h9 : k = 1 → ρ 84 23 = pkL t a (mn8 (q - a))) : MTk ρ m t n p := by
  obtain ⟨e1, e2, e3, e4⟩ := Tk_uni h (Tk_is t n p)
  unfold MTk
  rw [← e1, ← e2, ← e3]
  exact ⟨h1, h2, h3, h4, h5, h6, fun h => (h7 h).trans (e4 h), h8, h9⟩
theorem LY.q23 {ρ : Mm} {x : Int} (h : LY ρ) : LY (wr ρ 84 23 x) := LY_wr h (by decide)
theorem wr_wr {ρ : Mm} {a k x y : Int} : wr (wr ρ a k x) a k y = wr ρ a k y := by
  funext b j
  unfold wr
  by_cases e : b = a ∧ j = k
  · rw [if_pos e, if_pos e]
  · rw [if_neg e, if_neg e, if_neg e]
theorem mp_isLetter {l : Launch} {γ : Gh} {ρ m : Mm} {c : Int} (hR : MR m) (hc : 0 ≤ c ∧ c < 256) : gE l γ μX11_isLetter 0 0 0 (rI KK fun x ρ9 m9 => ρ = ρ9 ∧ MR m9 ∧ isLetterI c = x ∧ m = m9) xN KK ρ m [vI c] := by
  refine gE.ofw cl_X11.2 ?_ rfl rfl (Nat.le_of_ble_eq_true rfl)
  show gT l γ μX11_isLetter 0 0 0 _ _ KK ρ m 0 [some (vI c)] []
  refine tz_iload0 (n := 1) (g_at ck_X11_isLetter 0 rfl) rfl ?_
  refine tz_bipush (n := 3) (g_at ck_X11_isLetter 1 rfl) rfl rfl ?_
  refine tz_icmp_lt (n := 6) (tgt := 16) (g_at ck_X11_isLetter 2 rfl) rfl rfl ⟨(by omega), (by omega), (by decide), (by decide)⟩ (fun h3 => ?_) (fun h3 => ?_)
  · skip
    refine tz_iconst (n := 17) (g_at ck_X11_isLetter 8 rfl) rfl ?_
    exact tz_bret (g_at ck_X11_isLetter 9 rfl) rfl (by decide) (rI_mk ⟨rfl, hR, if_neg (by omega), rfl⟩)
  · skip
    refine tz_iload0 (n := 7) (g_at ck_X11_isLetter 3 rfl) rfl ?_
    refine tz_bipush (n := 9) (g_at ck_X11_isLetter 4 rfl) rfl rfl ?_
    refine tz_icmp_gt (n := 12) (tgt := 16) (g_at ck_X11_isLetter 5 rfl) rfl rfl ⟨(by omega), (by omega), (by decide), (by decide)⟩ (fun h9 => ?_) (fun h9 => ?_)
    · skip
      refine tz_iconst (n := 17) (g_at ck_X11_isLetter 8 rfl) rfl ?_
      exact tz_bret (g_at ck_X11_isLetter 9 rfl) rfl (by decide) (rI_mk ⟨rfl, hR, if_neg (by omega), rfl⟩)
    · skip
      refine tz_iconst (n := 13) (g_at ck_X11_isLetter 6 rfl) rfl ?_
      refine tz_goto (tgt := 17) (g_at ck_X11_isLetter 7 rfl) rfl ?_
      exact tz_bret (g_at ck_X11_isLetter 9 rfl) rfl (by decide) (rI_mk ⟨rfl, hR, if_pos (by omega), rfl⟩)
theorem mp_isDigit {l : Launch} {γ : Gh} {ρ m : Mm} {c : Int} (hR : MR m) (hc : 0 ≤ c ∧ c < 256) : gE l γ μX11_isDigit 0 0 0 (rI KK fun x ρ9 m9 => ρ = ρ9 ∧ MR m9 ∧ isDigitI c = x ∧ m = m9) xN KK ρ m [vI c] := by
  refine gE.ofw cl_X11.2 ?_ rfl rfl (Nat.le_of_ble_eq_true rfl)
  show gT l γ μX11_isDigit 0 0 0 _ _ KK ρ m 0 [some (vI c)] []
  refine tz_iload0 (n := 1) (g_at ck_X11_isDigit 0 rfl) rfl ?_
  refine tz_bipush (n := 3) (g_at ck_X11_isDigit 1 rfl) rfl rfl ?_
  refine tz_icmp_lt (n := 6) (tgt := 16) (g_at ck_X11_isDigit 2 rfl) rfl rfl ⟨(by omega), (by omega), (by decide), (by decide)⟩ (fun h3 => ?_) (fun h3 => ?_)
  · skip
    refine tz_iconst (n := 17) (g_at ck_X11_isDigit 8 rfl) rfl ?_
    exact tz_bret (g_at ck_X11_isDigit 9 rfl) rfl (by decide) (rI_mk ⟨rfl, hR, if_neg (by omega), rfl⟩)
  · skip
    refine tz_iload0 (n := 7) (g_at ck_X11_isDigit 3 rfl) rfl ?_
    refine tz_bipush (n := 9) (g_at ck_X11_isDigit 4 rfl) rfl rfl ?_
    refine tz_icmp_gt (n := 12) (tgt := 16) (g_at ck_X11_isDigit 5 rfl) rfl rfl ⟨(by omega), (by omega), (by decide), (by decide)⟩ (fun h9 => ?_) (fun h9 => ?_)
    · skip
      refine tz_iconst (n := 17) (g_at ck_X11_isDigit 8 rfl) rfl ?_
      exact tz_bret (g_at ck_X11_isDigit 9 rfl) rfl (by decide) (rI_mk ⟨rfl, hR, if_neg (by omega), rfl⟩)
    · skip
      refine tz_iconst (n := 13) (g_at ck_X11_isDigit 6 rfl) rfl ?_
      refine tz_goto (tgt := 17) (g_at ck_X11_isDigit 7 rfl) rfl ?_
      exact tz_bret (g_at ck_X11_isDigit 9 rfl) rfl (by decide) (rI_mk ⟨rfl, hR, if_pos (by omega), rfl⟩)
theorem mp_byteAt {l : Launch} {γ : Gh} {ρ m : Mm} {t : Int → Int} {n k : Int} (hL : LY ρ) (hR : MR m) (hn : 0 ≤ n ∧ n ≤ 700) (h16 : m 84 16 = n) (hT : ∀ j, 0 ≤ j → j < n → m 91 j = t j) (hk : 0 ≤ k ∧ k ≤ 1000) : gE l γ μX11_byteAt 0 0 0 (rI KK fun x ρ9 m9 => ρ = ρ9 ∧ MR m9 ∧ ti9 t n k = x ∧ m = m9) xN KK ρ m [vR 84, vI k] := by
  refine gE.ofw cl_X11.2 ?_ rfl rfl (Nat.le_of_ble_eq_true rfl)
  show gT l γ μX11_byteAt 0 0 0 _ _ KK ρ m 0 [some (vR 84), some (vI k)] []
  refine tz_iload1 (n := 1) (g_at ck_X11_byteAt 0 rfl) rfl ?_
  refine tz_aload0 (n := 2) (g_at ck_X11_byteAt 1 rfl) rfl (g_ne kd_84) ?_
  refine tz_getIw (n := 5) (kz := 16) fk_X11_142 kd_84 (g_at ck_X11_byteAt 2 rfl) rfl rfl ?_
  rw [h16]
  refine tz_icmp_ge (n := 8) (tgt := 17) (g_at ck_X11_byteAt 3 rfl) rfl rfl (by omega) (fun h5 => ?_) (fun h5 => ?_)
  · skip
    refine tz_iconst (n := 18) (g_at ck_X11_byteAt 9 rfl) rfl ?_
    exact tz_iret (g_at ck_X11_byteAt 10 rfl) rfl (rI_mk ⟨rfl, hR, if_neg (by omega), rfl⟩)
  · skip
    refine tz_aload0 (n := 9) (g_at ck_X11_byteAt 4 rfl) rfl (g_ne kd_84) ?_
    refine tz_getAv (n := 12) (a := 91) fk_X11_35 kd_84 (ly_84_11 hL) (g_at ck_X11_byteAt 5 rfl) rfl ?_
    refine tz_iload1 (n := 13) (g_at ck_X11_byteAt 6 rfl) rfl ?_
    refine tz_iald (n := 14) kd_91 (by omega) (g_at ck_X11_byteAt 7 rfl) rfl ?_
    rw [hT k (by omega) (by omega)]
    refine tz_goto (tgt := 18) (g_at ck_X11_byteAt 8 rfl) rfl ?_
    exact tz_iret (g_at ck_X11_byteAt 10 rfl) rfl (rI_mk ⟨rfl, hR, if_pos (by omega), rfl⟩)
theorem mp_goes {l : Launch} {γ : Gh} {ρ m : Mm} {t : Int → Int} {n p : Int} (hL : LY ρ) (hR : MR m) (hB : BY t) (hn : 0 ≤ n ∧ n ≤ 700) (hp : 0 ≤ p ∧ p ≤ n) (h16 : m 84 16 = n) (hT : ∀ j, 0 ≤ j → j < n → m 91 j = t j) (h17 : m 84 17 = p) : gE l γ μX11_goes 1 0 0 (rV KK fun ρ9 m9 => ∃ w, wr ρ 84 23 w = ρ9 ∧ MR m9 ∧ FX [84] [17, 18, 19, 20, 21, 22] m m9 ∧ MTk ρ9 m9 t n p) xN KK ρ m [vR 84] := by
  refine gE.ofw cl_X11.2 ?_ rfl rfl (Nat.le_of_ble_eq_true rfl)
  show gT l γ μX11_goes 1 0 0 _ _ KK ρ m 0 [some (vR 84), none] []
  refine g_cut (T := ∀ m1 : Mm, (MR m1 ∧ FX [84] [17, 18, 19, 20, 21, 22] m m1 ∧ isEnd blnk t n p (m1 84 17)) → gT l γ μX11_goes 1 0 0 (rV KK fun ρ9 m9 => ∃ w, wr ρ 84 23 w = ρ9 ∧ MR m9 ∧ FX [84] [17, 18, 19, 20, 21, 22] m m9 ∧ MTk ρ9 m9 t n p) xN KK ρ m1 50 [some (vR 84), none] []) (fun hj50 => ?_) ?_
  · skip
    refine g_for (fun i : Nat => ∀ m1 : Mm, (MR m1 ∧ FX [84] [17] m m1 ∧ m1 84 17 = p + (i : Int) ∧ ∀ j, p ≤ j → j < p + (i : Int) → j < n ∧ blnk (t j)) → gT l γ μX11_goes 1 0 0 _ _ KK ρ m1 0 [some (vR 84), none] []) (n - p).toNat ?_ (fun i hi ihi => ?_) 0 (Nat.zero_le _) _ ⟨hR, FX.rf, by rw [h17]; show p = p + 0; omega, fun j h8 h9 => absurd h9 (by show ¬ j < p + 0; omega)⟩
    · intro m1 hinv
      obtain ⟨hR1, hX1, ha1, hw1⟩ := hinv
      have h61 : m1 84 16 = n := (hX1.2 16 (by decide)).trans h16
      refine tz_aload0 (n := 1) (g_at ck_X11_goes 0 rfl) rfl (g_ne kd_84) ?_
      refine tz_getIw (n := 4) (kz := 17) fk_X11_145 kd_84 (g_at ck_X11_goes 1 rfl) rfl rfl ?_
      rw [ha1]
      refine tz_aload0 (n := 5) (g_at ck_X11_goes 2 rfl) rfl (g_ne kd_84) ?_
      refine tz_getIw (n := 8) (kz := 16) fk_X11_142 kd_84 (g_at ck_X11_goes 3 rfl) rfl rfl ?_
      rw [h61]
      refine tz_icmp_ge (n := 11) (tgt := 50) (g_at ck_X11_goes 4 rfl) rfl rfl (by omega) (fun h8 => ?_) (fun h8 => absurd h8 (by omega))
      exact hj50 _ ⟨hR1, hX1.sub (by decide) (by decide), by rw [ha1]; exact ⟨by omega, hw1, fun h9 => absurd h9.1 (by omega)⟩⟩
    · intro m1 hinv
      obtain ⟨hR1, hX1, ha1, hw1⟩ := hinv
      have h61 : m1 84 16 = n := (hX1.2 16 (by decide)).trans h16
      have hT1 : ∀ j, 0 ≤ j → j < n → m1 91 j = t j := by rw [hX1.1 91 (by decide)]; exact hT
      have hb9 := hB (p + (i : Int))
      refine tz_aload0 (n := 1) (g_at ck_X11_goes 0 rfl) rfl (g_ne kd_84) ?_
      refine tz_getIw (n := 4) (kz := 17) fk_X11_145 kd_84 (g_at ck_X11_goes 1 rfl) rfl rfl ?_
      rw [ha1]
      refine tz_aload0 (n := 5) (g_at ck_X11_goes 2 rfl) rfl (g_ne kd_84) ?_
      refine tz_getIw (n := 8) (kz := 16) fk_X11_142 kd_84 (g_at ck_X11_goes 3 rfl) rfl rfl ?_
      rw [h61]
      refine tz_icmp_ge (n := 11) (tgt := 50) (g_at ck_X11_goes 4 rfl) rfl rfl (by omega) (fun h8 => absurd h8 (by omega)) (fun h8 => ?_)
      refine tz_aload0 (n := 12) (g_at ck_X11_goes 5 rfl) rfl (g_ne kd_84) ?_
      refine tz_aload0 (n := 13) (g_at ck_X11_goes 6 rfl) rfl (g_ne kd_84) ?_
      refine tz_getIw (n := 16) (kz := 17) fk_X11_145 kd_84 (g_at ck_X11_goes 7 rfl) rfl rfl ?_
      rw [ha1]
      refine tz_cvI1 (n := 19) (μ' := μX11_byteAt) (cb' := 0) (sb' := 0) ml_X11_148 mo_X11_byteAt mv_X11_byteAt np_X11_byteAt kd_84 (g_at ck_X11_goes 8 rfl) (mp_byteAt hL hR1 hn h61 hT1 (by omega)) rfl rfl rfl ⟨by decide, by decide⟩ (Nat.le_of_ble_eq_true rfl) (by decide) (by decide) (fun x16 ρ9 m16 hq => ?_)
      obtain ⟨rfl, hR1, rfl, rfl⟩ := hq
      rw [show ti9 t n (p + (i : Int)) = t (p + (i : Int)) from if_pos (by omega)]
      refine tz_bipush (n := 21) (g_at ck_X11_goes 9 rfl) rfl rfl ?_
      refine tz_icmp_eq (n := 24) (tgt := 37) (g_at ck_X11_goes 10 rfl) rfl rfl (by omega) (fun h21 => ?_) (fun h21 => ?_)
      · skip
        refine tz_aload0 (n := 38) (g_at ck_X11_goes 17 rfl) rfl (g_ne kd_84) ?_
        refine tz_dupR (n := 39) (g_at ck_X11_goes 18 rfl) rfl ?_
        refine tz_getIw (n := 42) (kz := 17) fk_X11_145 kd_84 (g_at ck_X11_goes 19 rfl) rfl rfl ?_
        rw [ha1]
        refine tz_iconst (n := 43) (g_at ck_X11_goes 20 rfl) rfl ?_
        refine tz_iadd (n := 44) (g_at ck_X11_goes 21 rfl) rfl ?_
        refine tz_putIr (n := 47) (kz := 17) fk_X11_145 kd_84 (g_at ck_X11_goes 22 rfl) rfl hR1 ⟨(by omega), (by omega)⟩ rfl (fun hR2 => ?_)
        refine tz_goto (tgt := 0) (g_at ck_X11_goes 23 rfl) rfl ?_
        exact ihi _ ⟨hR2, hX1.w (by decide) (fun _ => by decide), by rw [wr_same]; omega, end_step hw1 (by omega) (Or.inl h21)⟩
      · skip
        refine tz_aload0 (n := 25) (g_at ck_X11_goes 11 rfl) rfl (g_ne kd_84) ?_
        refine tz_aload0 (n := 26) (g_at ck_X11_goes 12 rfl) rfl (g_ne kd_84) ?_
        refine tz_getIw (n := 29) (kz := 17) fk_X11_145 kd_84 (g_at ck_X11_goes 13 rfl) rfl rfl ?_
        rw [ha1]
        refine tz_cvI1 (n := 32) (μ' := μX11_byteAt) (cb' := 0) (sb' := 0) ml_X11_148 mo_X11_byteAt mv_X11_byteAt np_X11_byteAt kd_84 (g_at ck_X11_goes 14 rfl) (mp_byteAt hL hR1 hn h61 hT1 (by omega)) rfl rfl rfl ⟨by decide, by decide⟩ (Nat.le_of_ble_eq_true rfl) (by decide) (by decide) (fun x29 ρ9 m29 hq => ?_)
        obtain ⟨rfl, hR3, rfl, rfl⟩ := hq
        rw [show ti9 t n (p + (i : Int)) = t (p + (i : Int)) from if_pos (by omega)]
        refine tz_bipush (n := 34) (g_at ck_X11_goes 15 rfl) rfl rfl ?_
        refine tz_icmp_ne (n := 37) (tgt := 50) (g_at ck_X11_goes 16 rfl) rfl rfl (by omega) (fun h34 => ?_) (fun h34 => ?_)
        · skip
          exact hj50 _ ⟨hR3, hX1.sub (by decide) (by decide), by rw [ha1]; exact ⟨by omega, hw1, fun h9 => (show ¬ blnk (t (p + (i : Int))) from fun h8 => h8.elim h21 h34) h9.2⟩⟩
        · skip
          refine tz_aload0 (n := 38) (g_at ck_X11_goes 17 rfl) rfl (g_ne kd_84) ?_
          refine tz_dupR (n := 39) (g_at ck_X11_goes 18 rfl) rfl ?_
          refine tz_getIw (n := 42) (kz := 17) fk_X11_145 kd_84 (g_at ck_X11_goes 19 rfl) rfl rfl ?_
          rw [ha1]
          refine tz_iconst (n := 43) (g_at ck_X11_goes 20 rfl) rfl ?_
          refine tz_iadd (n := 44) (g_at ck_X11_goes 21 rfl) rfl ?_
          refine tz_putIr (n := 47) (kz := 17) fk_X11_145 kd_84 (g_at ck_X11_goes 22 rfl) rfl hR3 ⟨(by omega), (by omega)⟩ rfl (fun hR4 => ?_)
          refine tz_goto (tgt := 0) (g_at ck_X11_goes 23 rfl) rfl ?_
          exact ihi _ ⟨hR4, hX1.w (by decide) (fun _ => by decide), by rw [wr_same]; omega, end_step hw1 (by omega) (Or.inr h34)⟩
  · intro m1 hinv
    obtain ⟨hR1, hX1, he1⟩ := hinv
    obtain ⟨a, ha⟩ : ∃ a, m1 84 17 = a := ⟨_, rfl⟩
    rw [ha] at he1
    have hle := isEnd_le he1 hp.2
    have hge := he1.1
    have h61 : m1 84 16 = n := (hX1.2 16 (by decide)).trans h16
    have hT1 : ∀ j, 0 ≤ j → j < n → m1 91 j = t j := by rw [hX1.1 91 (by decide)]; exact hT
    have hc9 := ti9_rg (n := n) (k := a) hB
    refine tz_aload0 (n := 51) (g_at ck_X11_goes 24 rfl) rfl (g_ne kd_84) ?_
    refine tz_aload0 (n := 52) (g_at ck_X11_goes 25 rfl) rfl (g_ne kd_84) ?_
    refine tz_getIw (n := 55) (kz := 17) fk_X11_145 kd_84 (g_at ck_X11_goes 26 rfl) rfl rfl ?_
    rw [ha]
    refine tz_putIr (n := 58) (kz := 19) fk_X11_152 kd_84 (g_at ck_X11_goes 27 rfl) rfl hR1 (by omega) rfl (fun hR5 => ?_)
    refine tz_aload0 (n := 59) (g_at ck_X11_goes 28 rfl) rfl (g_ne kd_84) ?_
    refine tz_lconst (n := 60) (g_at ck_X11_goes 29 rfl) rfl ?_
    refine tz_putLw (n := 63) (kz := 23) fk_X11_155 kd_84 (g_at ck_X11_goes 30 rfl) rfl rfl ?_
    refine tz_aload0 (n := 64) (g_at ck_X11_goes 31 rfl) rfl (g_ne kd_84) ?_
    refine tz_iconst (n := 65) (g_at ck_X11_goes 32 rfl) rfl ?_
    refine tz_putIr (n := 68) (kz := 21) fk_X11_159 kd_84 (g_at ck_X11_goes 33 rfl) rfl hR5 ⟨(by decide), (by decide)⟩ rfl (fun hR6 => ?_)
    refine tz_aload0 (n := 69) (g_at ck_X11_goes 34 rfl) rfl (g_ne kd_84) ?_
    refine tz_aload0 (n := 70) (g_at ck_X11_goes 35 rfl) rfl (g_ne kd_84) ?_
    refine tz_getIw (n := 73) (kz := 17) fk_X11_145 kd_84 (g_at ck_X11_goes 36 rfl) rfl rfl ?_
    rw [show (wr (wr m1 84 19 a) 84 21 0) 84 17 = a by simp only [wr_at, Int.reduceEq, if_true, if_false]; exact ha]
    refine tz_cvI1 (n := 76) (μ' := μX11_byteAt) (cb' := 0) (sb' := 0) ml_X11_148 mo_X11_byteAt mv_X11_byteAt np_X11_byteAt kd_84 (g_at ck_X11_goes 37 rfl) (mp_byteAt hL.q23 hR6 hn (by simp only [wr_at, Int.reduceEq, if_true, if_false]; exact h61) (by rw [wr_ne (by decide), wr_ne (by decide)]; exact hT1) (by omega)) rfl rfl rfl ⟨by decide, by decide⟩ (Nat.le_of_ble_eq_true rfl) (by decide) (by decide) (fun x73 ρ9 m73 hq => ?_)
    obtain ⟨rfl, hR7, rfl, rfl⟩ := hq
    refine tz_istore1 (n := 77) (g_at ck_X11_goes 38 rfl) rfl (by decide) g_hpR ?_
    refine tz_aload0 (n := 78) (g_at ck_X11_goes 39 rfl) rfl (g_ne kd_84) ?_
    refine tz_iload1 (n := 79) (g_at ck_X11_goes 40 rfl) rfl ?_
    refine tz_putIr (n := 82) (kz := 22) fk_X11_162 kd_84 (g_at ck_X11_goes 41 rfl) rfl hR7 ⟨(by omega), (by omega)⟩ rfl (fun hR8 => ?_)
    obtain ⟨m2, e2⟩ : ∃ m2, m2 = wr (wr (wr m1 84 19 a) 84 21 0) 84 22 (ti9 t n a) := ⟨_, rfl⟩
    rw [← e2] at hR8 ⊢
    have h2f : m2 84 16 = n ∧ m2 84 17 = a ∧ m2 84 19 = a ∧ m2 84 22 = ti9 t n a ∧ m2 84 21 = 0 := ⟨by rw [e2]; simp only [wr_at, Int.reduceEq, if_true, if_false]; exact h61, by rw [e2]; simp only [wr_at, Int.reduceEq, if_true, if_false]; exact ha, by rw [e2]; simp only [wr_at, Int.reduceEq, if_true, if_false], by rw [e2]; simp only [wr_at, Int.reduceEq, if_true, if_false], by rw [e2]; simp only [wr_at, Int.reduceEq, if_true, if_false]⟩
    have hX2 : FX [84] [17, 18, 19, 20, 21, 22] m m2 := by rw [e2]; exact ((hX1.w (by decide) (fun _ => by decide)).w (by decide) (fun _ => by decide)).w (by decide) (fun _ => by decide)
    have hT2 : ∀ j, 0 ≤ j → j < n → m2 91 j = t j := by rw [hX2.1 91 (by decide)]; exact hT
    refine tz_aload0 (n := 83) (g_at ck_X11_goes 42 rfl) rfl (g_ne kd_84) ?_
    refine tz_getIw (n := 86) (kz := 17) fk_X11_145 kd_84 (g_at ck_X11_goes 43 rfl) rfl rfl ?_
    rw [h2f.2.1]
    refine tz_aload0 (n := 87) (g_at ck_X11_goes 44 rfl) rfl (g_ne kd_84) ?_
    refine tz_getIw (n := 90) (kz := 16) fk_X11_142 kd_84 (g_at ck_X11_goes 45 rfl) rfl rfl ?_
    rw [h2f.1]
    refine tz_icmp_lt (n := 93) (tgt := 101) (g_at ck_X11_goes 46 rfl) rfl rfl (by omega) (fun h90 => ?_) (fun h90 => ?_)
    · skip
      have hta : ti9 t n a = t a := if_pos (by omega)
      refine tz_iload1 (n := 102) (g_at ck_X11_goes 51 rfl) rfl ?_
      refine tz_csI1 (n := 105) (μ' := μX11_isLetter) (cb' := 0) (sb' := 0) ml_X11_168 mo_X11_isLetter ms_X11_isLetter np_X11_isLetter (g_at ck_X11_goes 52 rfl) (mp_isLetter hR8 hc9) rfl rfl ⟨by decide, by decide⟩ (Nat.le_of_ble_eq_true rfl) (by decide) (by decide) (fun x102 ρ9 m102 hq => ?_)
      obtain ⟨rfl, hR9, rfl, rfl⟩ := hq
      refine tz_if_eq (n := 108) (tgt := 180) (g_at ck_X11_goes 53 rfl) rfl rfl (by unfold isLetterI; split <;> decide) (fun h105 => ?_) (fun h105 => ?_)
      · skip
        have hnl : ¬ letter (t a) := by rw [← hta]; exact isL_0 h105
        refine tz_iload1 (n := 181) (g_at ck_X11_goes 92 rfl) rfl ?_
        refine tz_csI1 (n := 184) (μ' := μX11_isDigit) (cb' := 0) (sb' := 0) ml_X11_172 mo_X11_isDigit ms_X11_isDigit np_X11_isDigit (g_at ck_X11_goes 93 rfl) (mp_isDigit hR9 hc9) rfl rfl ⟨by decide, by decide⟩ (Nat.le_of_ble_eq_true rfl) (by decide) (by decide) (fun x181 ρ9 m181 hq => ?_)
        obtain ⟨rfl, hR10, rfl, rfl⟩ := hq
        refine tz_if_eq (n := 187) (tgt := 258) (g_at ck_X11_goes 94 rfl) rfl rfl (by unfold isDigitI; split <;> decide) (fun h184 => ?_) (fun h184 => ?_)
        · skip
          have hnd : ¬ digit (t a) := by rw [← hta]; exact isD_0 h184
          refine tz_aload0 (n := 259) (g_at ck_X11_goes 132 rfl) rfl (g_ne kd_84) ?_
          refine tz_dupR (n := 260) (g_at ck_X11_goes 133 rfl) rfl ?_
          refine tz_getIw (n := 263) (kz := 17) fk_X11_145 kd_84 (g_at ck_X11_goes 134 rfl) rfl rfl ?_
          rw [h2f.2.1]
          refine tz_iconst (n := 264) (g_at ck_X11_goes 135 rfl) rfl ?_
          refine tz_iadd (n := 265) (g_at ck_X11_goes 136 rfl) rfl ?_
          refine tz_putIr (n := 268) (kz := 17) fk_X11_145 kd_84 (g_at ck_X11_goes 137 rfl) rfl hR10 ⟨(by omega), (by omega)⟩ rfl (fun hR11 => ?_)
          refine tz_aload0 (n := 269) (g_at ck_X11_goes 138 rfl) rfl (g_ne kd_84) ?_
          refine tz_iload1 (n := 270) (g_at ck_X11_goes 139 rfl) rfl ?_
          refine tz_bipush (n := 272) (g_at ck_X11_goes 140 rfl) rfl rfl ?_
          refine tz_icmp_eq (n := 275) (tgt := 323) (g_at ck_X11_goes 141 rfl) rfl rfl (by omega) (fun h272 => ?_) (fun h272 => ?_)
          · skip
            refine tz_iconst (n := 324) (g_at ck_X11_goes 166 rfl) rfl ?_
            refine tz_goto (tgt := 328) (g_at ck_X11_goes 167 rfl) rfl ?_
            refine tz_putIr (n := 331) (kz := 18) fk_X11_165 kd_84 (g_at ck_X11_goes 169 rfl) rfl hR11 ⟨(by decide), (by decide)⟩ rfl (fun hR12 => ?_)
            refine tz_aload0 (n := 332) (g_at ck_X11_goes 170 rfl) rfl (g_ne kd_84) ?_
            refine tz_aload0 (n := 333) (g_at ck_X11_goes 171 rfl) rfl (g_ne kd_84) ?_
            refine tz_getIw (n := 336) (kz := 17) fk_X11_145 kd_84 (g_at ck_X11_goes 172 rfl) rfl rfl ?_
            simp only [wr_at, Int.reduceEq, if_true, if_false]
            refine tz_aload0 (n := 337) (g_at ck_X11_goes 173 rfl) rfl (g_ne kd_84) ?_
            refine tz_getIw (n := 340) (kz := 19) fk_X11_152 kd_84 (g_at ck_X11_goes 174 rfl) rfl rfl ?_
            rw [show ∀ x y, (wr (wr m2 84 17 x) 84 18 y) 84 19 = a from fun x y => by simp only [wr_at, Int.reduceEq, if_true, if_false]; exact h2f.2.2.1]
            refine tz_isub (n := 341) (g_at ck_X11_goes 175 rfl) rfl ?_
            refine tz_putIr (n := 344) (kz := 20) fk_X11_175 kd_84 (g_at ck_X11_goes 176 rfl) rfl hR12 ⟨(by omega), (by omega)⟩ rfl (fun hR13 => ?_)
            exact tz_vret (g_at ck_X11_goes 177 rfl) rfl (rV_mk ⟨_, rfl, hR13, ((hX2.w (by decide) (fun _ => by decide)).w (by decide) (fun _ => by decide)).w (by decide) (fun _ => by decide), MTk.mk (v := 0) ⟨he1, Or.inr (Or.inr (Or.inr ⟨by omega, hnl, hnd, Or.inl ⟨by unfold sgnC; omega, rfl⟩, rfl⟩))⟩ (by simp only [wr_at, Int.reduceEq, if_true, if_false]; exact h2f.1) (by rw [wr_ne (by decide), wr_ne (by decide), wr_ne (by decide)]; exact hT2) (by simp only [wr_at, Int.reduceEq, if_true, if_false]) (by simp only [wr_at, Int.reduceEq, if_true, if_false]; exact h2f.2.2.1) (by simp only [wr_at, Int.reduceEq, if_true, if_false]) (by simp only [wr_at, Int.reduceEq, if_true, if_false]; unfold so9; rw [if_neg (by omega), if_neg (by omega), if_neg (by omega), if_neg (by omega)]) (fun h9 => absurd h9 (by omega)) (fun h9 => by simp only [wr_at, Int.reduceEq, if_true, if_false]; exact h2f.2.2.2.1.trans hta) (fun h9 => absurd h9 (by omega))⟩)
          · skip
            refine tz_iload1 (n := 276) (g_at ck_X11_goes 142 rfl) rfl ?_
            refine tz_bipush (n := 278) (g_at ck_X11_goes 143 rfl) rfl rfl ?_
            refine tz_icmp_eq (n := 281) (tgt := 323) (g_at ck_X11_goes 144 rfl) rfl rfl (by omega) (fun h278 => ?_) (fun h278 => ?_)
            · skip
              refine tz_iconst (n := 324) (g_at ck_X11_goes 166 rfl) rfl ?_
              refine tz_goto (tgt := 328) (g_at ck_X11_goes 167 rfl) rfl ?_
              refine tz_putIr (n := 331) (kz := 18) fk_X11_165 kd_84 (g_at ck_X11_goes 169 rfl) rfl hR11 ⟨(by decide), (by decide)⟩ rfl (fun hR14 => ?_)
              refine tz_aload0 (n := 332) (g_at ck_X11_goes 170 rfl) rfl (g_ne kd_84) ?_
              refine tz_aload0 (n := 333) (g_at ck_X11_goes 171 rfl) rfl (g_ne kd_84) ?_
              refine tz_getIw (n := 336) (kz := 17) fk_X11_145 kd_84 (g_at ck_X11_goes 172 rfl) rfl rfl ?_
              simp only [wr_at, Int.reduceEq, if_true, if_false]
              refine tz_aload0 (n := 337) (g_at ck_X11_goes 173 rfl) rfl (g_ne kd_84) ?_
              refine tz_getIw (n := 340) (kz := 19) fk_X11_152 kd_84 (g_at ck_X11_goes 174 rfl) rfl rfl ?_
              rw [show ∀ x y, (wr (wr m2 84 17 x) 84 18 y) 84 19 = a from fun x y => by simp only [wr_at, Int.reduceEq, if_true, if_false]; exact h2f.2.2.1]
              refine tz_isub (n := 341) (g_at ck_X11_goes 175 rfl) rfl ?_
              refine tz_putIr (n := 344) (kz := 20) fk_X11_175 kd_84 (g_at ck_X11_goes 176 rfl) rfl hR14 ⟨(by omega), (by omega)⟩ rfl (fun hR15 => ?_)
              exact tz_vret (g_at ck_X11_goes 177 rfl) rfl (rV_mk ⟨_, rfl, hR15, ((hX2.w (by decide) (fun _ => by decide)).w (by decide) (fun _ => by decide)).w (by decide) (fun _ => by decide), MTk.mk (v := 0) ⟨he1, Or.inr (Or.inr (Or.inr ⟨by omega, hnl, hnd, Or.inl ⟨by unfold sgnC; omega, rfl⟩, rfl⟩))⟩ (by simp only [wr_at, Int.reduceEq, if_true, if_false]; exact h2f.1) (by rw [wr_ne (by decide), wr_ne (by decide), wr_ne (by decide)]; exact hT2) (by simp only [wr_at, Int.reduceEq, if_true, if_false]) (by simp only [wr_at, Int.reduceEq, if_true, if_false]; exact h2f.2.2.1) (by simp only [wr_at, Int.reduceEq, if_true, if_false]) (by simp only [wr_at, Int.reduceEq, if_true, if_false]; unfold so9; rw [if_neg (by omega), if_neg (by omega), if_neg (by omega), if_neg (by omega)]) (fun h9 => absurd h9 (by omega)) (fun h9 => by simp only [wr_at, Int.reduceEq, if_true, if_false]; exact h2f.2.2.2.1.trans hta) (fun h9 => absurd h9 (by omega))⟩)
            · skip
              refine tz_iload1 (n := 282) (g_at ck_X11_goes 145 rfl) rfl ?_
              refine tz_bipush (n := 284) (g_at ck_X11_goes 146 rfl) rfl rfl ?_
              refine tz_icmp_eq (n := 287) (tgt := 323) (g_at ck_X11_goes 147 rfl) rfl rfl (by omega) (fun h284 => ?_) (fun h284 => ?_)
              · skip
                refine tz_iconst (n := 324) (g_at ck_X11_goes 166 rfl) rfl ?_
                refine tz_goto (tgt := 328) (g_at ck_X11_goes 167 rfl) rfl ?_
                refine tz_putIr (n := 331) (kz := 18) fk_X11_165 kd_84 (g_at ck_X11_goes 169 rfl) rfl hR11 ⟨(by decide), (by decide)⟩ rfl (fun hR16 => ?_)
                refine tz_aload0 (n := 332) (g_at ck_X11_goes 170 rfl) rfl (g_ne kd_84) ?_
                refine tz_aload0 (n := 333) (g_at ck_X11_goes 171 rfl) rfl (g_ne kd_84) ?_
                refine tz_getIw (n := 336) (kz := 17) fk_X11_145 kd_84 (g_at ck_X11_goes 172 rfl) rfl rfl ?_
                simp only [wr_at, Int.reduceEq, if_true, if_false]
                refine tz_aload0 (n := 337) (g_at ck_X11_goes 173 rfl) rfl (g_ne kd_84) ?_
                refine tz_getIw (n := 340) (kz := 19) fk_X11_152 kd_84 (g_at ck_X11_goes 174 rfl) rfl rfl ?_
                rw [show ∀ x y, (wr (wr m2 84 17 x) 84 18 y) 84 19 = a from fun x y => by simp only [wr_at, Int.reduceEq, if_true, if_false]; exact h2f.2.2.1]
                refine tz_isub (n := 341) (g_at ck_X11_goes 175 rfl) rfl ?_
                refine tz_putIr (n := 344) (kz := 20) fk_X11_175 kd_84 (g_at ck_X11_goes 176 rfl) rfl hR16 ⟨(by omega), (by omega)⟩ rfl (fun hR17 => ?_)
                exact tz_vret (g_at ck_X11_goes 177 rfl) rfl (rV_mk ⟨_, rfl, hR17, ((hX2.w (by decide) (fun _ => by decide)).w (by decide) (fun _ => by decide)).w (by decide) (fun _ => by decide), MTk.mk (v := 0) ⟨he1, Or.inr (Or.inr (Or.inr ⟨by omega, hnl, hnd, Or.inl ⟨by unfold sgnC; omega, rfl⟩, rfl⟩))⟩ (by simp only [wr_at, Int.reduceEq, if_true, if_false]; exact h2f.1) (by rw [wr_ne (by decide), wr_ne (by decide), wr_ne (by decide)]; exact hT2) (by simp only [wr_at, Int.reduceEq, if_true, if_false]) (by simp only [wr_at, Int.reduceEq, if_true, if_false]; exact h2f.2.2.1) (by simp only [wr_at, Int.reduceEq, if_true, if_false]) (by simp only [wr_at, Int.reduceEq, if_true, if_false]; unfold so9; rw [if_neg (by omega), if_neg (by omega), if_neg (by omega), if_neg (by omega)]) (fun h9 => absurd h9 (by omega)) (fun h9 => by simp only [wr_at, Int.reduceEq, if_true, if_false]; exact h2f.2.2.2.1.trans hta) (fun h9 => absurd h9 (by omega))⟩)
              · skip
                refine tz_iload1 (n := 288) (g_at ck_X11_goes 148 rfl) rfl ?_
                refine tz_bipush (n := 290) (g_at ck_X11_goes 149 rfl) rfl rfl ?_
                refine tz_icmp_eq (n := 293) (tgt := 323) (g_at ck_X11_goes 150 rfl) rfl rfl (by omega) (fun h290 => ?_) (fun h290 => ?_)
                · skip
                  refine tz_iconst (n := 324) (g_at ck_X11_goes 166 rfl) rfl ?_
                  refine tz_goto (tgt := 328) (g_at ck_X11_goes 167 rfl) rfl ?_
                  refine tz_putIr (n := 331) (kz := 18) fk_X11_165 kd_84 (g_at ck_X11_goes 169 rfl) rfl hR11 ⟨(by decide), (by decide)⟩ rfl (fun hR18 => ?_)
                  refine tz_aload0 (n := 332) (g_at ck_X11_goes 170 rfl) rfl (g_ne kd_84) ?_
                  refine tz_aload0 (n := 333) (g_at ck_X11_goes 171 rfl) rfl (g_ne kd_84) ?_
                  refine tz_getIw (n := 336) (kz := 17) fk_X11_145 kd_84 (g_at ck_X11_goes 172 rfl) rfl rfl ?_
                  simp only [wr_at, Int.reduceEq, if_true, if_false]
                  refine tz_aload0 (n := 337) (g_at ck_X11_goes 173 rfl) rfl (g_ne kd_84) ?_
                  refine tz_getIw (n := 340) (kz := 19) fk_X11_152 kd_84 (g_at ck_X11_goes 174 rfl) rfl rfl ?_
                  rw [show ∀ x y, (wr (wr m2 84 17 x) 84 18 y) 84 19 = a from fun x y => by simp only [wr_at, Int.reduceEq, if_true, if_false]; exact h2f.2.2.1]
                  refine tz_isub (n := 341) (g_at ck_X11_goes 175 rfl) rfl ?_
                  refine tz_putIr (n := 344) (kz := 20) fk_X11_175 kd_84 (g_at ck_X11_goes 176 rfl) rfl hR18 ⟨(by omega), (by omega)⟩ rfl (fun hR19 => ?_)
                  exact tz_vret (g_at ck_X11_goes 177 rfl) rfl (rV_mk ⟨_, rfl, hR19, ((hX2.w (by decide) (fun _ => by decide)).w (by decide) (fun _ => by decide)).w (by decide) (fun _ => by decide), MTk.mk (v := 0) ⟨he1, Or.inr (Or.inr (Or.inr ⟨by omega, hnl, hnd, Or.inl ⟨by unfold sgnC; omega, rfl⟩, rfl⟩))⟩ (by simp only [wr_at, Int.reduceEq, if_true, if_false]; exact h2f.1) (by rw [wr_ne (by decide), wr_ne (by decide), wr_ne (by decide)]; exact hT2) (by simp only [wr_at, Int.reduceEq, if_true, if_false]) (by simp only [wr_at, Int.reduceEq, if_true, if_false]; exact h2f.2.2.1) (by simp only [wr_at, Int.reduceEq, if_true, if_false]) (by simp only [wr_at, Int.reduceEq, if_true, if_false]; unfold so9; rw [if_neg (by omega), if_neg (by omega), if_neg (by omega), if_neg (by omega)]) (fun h9 => absurd h9 (by omega)) (fun h9 => by simp only [wr_at, Int.reduceEq, if_true, if_false]; exact h2f.2.2.2.1.trans hta) (fun h9 => absurd h9 (by omega))⟩)
                · skip
                  refine tz_iload1 (n := 294) (g_at ck_X11_goes 151 rfl) rfl ?_
                  refine tz_bipush (n := 296) (g_at ck_X11_goes 152 rfl) rfl rfl ?_
                  refine tz_icmp_eq (n := 299) (tgt := 323) (g_at ck_X11_goes 153 rfl) rfl rfl (by omega) (fun h296 => ?_) (fun h296 => ?_)
                  · skip
                    refine tz_iconst (n := 324) (g_at ck_X11_goes 166 rfl) rfl ?_
                    refine tz_goto (tgt := 328) (g_at ck_X11_goes 167 rfl) rfl ?_
                    refine tz_putIr (n := 331) (kz := 18) fk_X11_165 kd_84 (g_at ck_X11_goes 169 rfl) rfl hR11 ⟨(by decide), (by decide)⟩ rfl (fun hR20 => ?_)
                    refine tz_aload0 (n := 332) (g_at ck_X11_goes 170 rfl) rfl (g_ne kd_84) ?_
                    refine tz_aload0 (n := 333) (g_at ck_X11_goes 171 rfl) rfl (g_ne kd_84) ?_
                    refine tz_getIw (n := 336) (kz := 17) fk_X11_145 kd_84 (g_at ck_X11_goes 172 rfl) rfl rfl ?_
                    simp only [wr_at, Int.reduceEq, if_true, if_false]
                    refine tz_aload0 (n := 337) (g_at ck_X11_goes 173 rfl) rfl (g_ne kd_84) ?_
                    refine tz_getIw (n := 340) (kz := 19) fk_X11_152 kd_84 (g_at ck_X11_goes 174 rfl) rfl rfl ?_
                    rw [show ∀ x y, (wr (wr m2 84 17 x) 84 18 y) 84 19 = a from fun x y => by simp only [wr_at, Int.reduceEq, if_true, if_false]; exact h2f.2.2.1]
                    refine tz_isub (n := 341) (g_at ck_X11_goes 175 rfl) rfl ?_
                    refine tz_putIr (n := 344) (kz := 20) fk_X11_175 kd_84 (g_at ck_X11_goes 176 rfl) rfl hR20 ⟨(by omega), (by omega)⟩ rfl (fun hR21 => ?_)
                    exact tz_vret (g_at ck_X11_goes 177 rfl) rfl (rV_mk ⟨_, rfl, hR21, ((hX2.w (by decide) (fun _ => by decide)).w (by decide) (fun _ => by decide)).w (by decide) (fun _ => by decide), MTk.mk (v := 0) ⟨he1, Or.inr (Or.inr (Or.inr ⟨by omega, hnl, hnd, Or.inl ⟨by unfold sgnC; omega, rfl⟩, rfl⟩))⟩ (by simp only [wr_at, Int.reduceEq, if_true, if_false]; exact h2f.1) (by rw [wr_ne (by decide), wr_ne (by decide), wr_ne (by decide)]; exact hT2) (by simp only [wr_at, Int.reduceEq, if_true, if_false]) (by simp only [wr_at, Int.reduceEq, if_true, if_false]; exact h2f.2.2.1) (by simp only [wr_at, Int.reduceEq, if_true, if_false]) (by simp only [wr_at, Int.reduceEq, if_true, if_false]; unfold so9; rw [if_neg (by omega), if_neg (by omega), if_neg (by omega), if_neg (by omega)]) (fun h9 => absurd h9 (by omega)) (fun h9 => by simp only [wr_at, Int.reduceEq, if_true, if_false]; exact h2f.2.2.2.1.trans hta) (fun h9 => absurd h9 (by omega))⟩)
                  · skip
                    refine tz_iload1 (n := 300) (g_at ck_X11_goes 154 rfl) rfl ?_
                    refine tz_bipush (n := 302) (g_at ck_X11_goes 155 rfl) rfl rfl ?_
                    refine tz_icmp_eq (n := 305) (tgt := 323) (g_at ck_X11_goes 156 rfl) rfl rfl (by omega) (fun h302 => ?_) (fun h302 => ?_)
                    · skip
                      refine tz_iconst (n := 324) (g_at ck_X11_goes 166 rfl) rfl ?_
                      refine tz_goto (tgt := 328) (g_at ck_X11_goes 167 rfl) rfl ?_
                      refine tz_putIr (n := 331) (kz := 18) fk_X11_165 kd_84 (g_at ck_X11_goes 169 rfl) rfl hR11 ⟨(by decide), (by decide)⟩ rfl (fun hR22 => ?_)
                      refine tz_aload0 (n := 332) (g_at ck_X11_goes 170 rfl) rfl (g_ne kd_84) ?_
                      refine tz_aload0 (n := 333) (g_at ck_X11_goes 171 rfl) rfl (g_ne kd_84) ?_
                      refine tz_getIw (n := 336) (kz := 17) fk_X11_145 kd_84 (g_at ck_X11_goes 172 rfl) rfl rfl ?_
                      simp only [wr_at, Int.reduceEq, if_true, if_false]
                      refine tz_aload0 (n := 337) (g_at ck_X11_goes 173 rfl) rfl (g_ne kd_84) ?_
                      refine tz_getIw (n := 340) (kz := 19) fk_X11_152 kd_84 (g_at ck_X11_goes 174 rfl) rfl rfl ?_
                      rw [show ∀ x y, (wr (wr m2 84 17 x) 84 18 y) 84 19 = a from fun x y => by simp only [wr_at, Int.reduceEq, if_true, if_false]; exact h2f.2.2.1]
                      refine tz_isub (n := 341) (g_at ck_X11_goes 175 rfl) rfl ?_
                      refine tz_putIr (n := 344) (kz := 20) fk_X11_175 kd_84 (g_at ck_X11_goes 176 rfl) rfl hR22 ⟨(by omega), (by omega)⟩ rfl (fun hR23 => ?_)
                      exact tz_vret (g_at ck_X11_goes 177 rfl) rfl (rV_mk ⟨_, rfl, hR23, ((hX2.w (by decide) (fun _ => by decide)).w (by decide) (fun _ => by decide)).w (by decide) (fun _ => by decide), MTk.mk (v := 0) ⟨he1, Or.inr (Or.inr (Or.inr ⟨by omega, hnl, hnd, Or.inl ⟨by unfold sgnC; omega, rfl⟩, rfl⟩))⟩ (by simp only [wr_at, Int.reduceEq, if_true, if_false]; exact h2f.1) (by rw [wr_ne (by decide), wr_ne (by decide), wr_ne (by decide)]; exact hT2) (by simp only [wr_at, Int.reduceEq, if_true, if_false]) (by simp only [wr_at, Int.reduceEq, if_true, if_false]; exact h2f.2.2.1) (by simp only [wr_at, Int.reduceEq, if_true, if_false]) (by simp only [wr_at, Int.reduceEq, if_true, if_false]; unfold so9; rw [if_neg (by omega), if_neg (by omega), if_neg (by omega), if_neg (by omega)]) (fun h9 => absurd h9 (by omega)) (fun h9 => by simp only [wr_at, Int.reduceEq, if_true, if_false]; exact h2f.2.2.2.1.trans hta) (fun h9 => absurd h9 (by omega))⟩)
                    · skip
                      refine tz_iload1 (n := 306) (g_at ck_X11_goes 157 rfl) rfl ?_
                      refine tz_bipush (n := 308) (g_at ck_X11_goes 158 rfl) rfl rfl ?_
                      refine tz_icmp_eq (n := 311) (tgt := 323) (g_at ck_X11_goes 159 rfl) rfl rfl (by omega) (fun h308 => ?_) (fun h308 => ?_)
                      · skip
                        refine tz_iconst (n := 324) (g_at ck_X11_goes 166 rfl) rfl ?_
                        refine tz_goto (tgt := 328) (g_at ck_X11_goes 167 rfl) rfl ?_
                        refine tz_putIr (n := 331) (kz := 18) fk_X11_165 kd_84 (g_at ck_X11_goes 169 rfl) rfl hR11 ⟨(by decide), (by decide)⟩ rfl (fun hR24 => ?_)
                        refine tz_aload0 (n := 332) (g_at ck_X11_goes 170 rfl) rfl (g_ne kd_84) ?_
                        refine tz_aload0 (n := 333) (g_at ck_X11_goes 171 rfl) rfl (g_ne kd_84) ?_
                        refine tz_getIw (n := 336) (kz := 17) fk_X11_145 kd_84 (g_at ck_X11_goes 172 rfl) rfl rfl ?_
                        simp only [wr_at, Int.reduceEq, if_true, if_false]
                        refine tz_aload0 (n := 337) (g_at ck_X11_goes 173 rfl) rfl (g_ne kd_84) ?_
                        refine tz_getIw (n := 340) (kz := 19) fk_X11_152 kd_84 (g_at ck_X11_goes 174 rfl) rfl rfl ?_
                        rw [show ∀ x y, (wr (wr m2 84 17 x) 84 18 y) 84 19 = a from fun x y => by simp only [wr_at, Int.reduceEq, if_true, if_false]; exact h2f.2.2.1]
                        refine tz_isub (n := 341) (g_at ck_X11_goes 175 rfl) rfl ?_
                        refine tz_putIr (n := 344) (kz := 20) fk_X11_175 kd_84 (g_at ck_X11_goes 176 rfl) rfl hR24 ⟨(by omega), (by omega)⟩ rfl (fun hR25 => ?_)
                        exact tz_vret (g_at ck_X11_goes 177 rfl) rfl (rV_mk ⟨_, rfl, hR25, ((hX2.w (by decide) (fun _ => by decide)).w (by decide) (fun _ => by decide)).w (by decide) (fun _ => by decide), MTk.mk (v := 0) ⟨he1, Or.inr (Or.inr (Or.inr ⟨by omega, hnl, hnd, Or.inl ⟨by unfold sgnC; omega, rfl⟩, rfl⟩))⟩ (by simp only [wr_at, Int.reduceEq, if_true, if_false]; exact h2f.1) (by rw [wr_ne (by decide), wr_ne (by decide), wr_ne (by decide)]; exact hT2) (by simp only [wr_at, Int.reduceEq, if_true, if_false]) (by simp only [wr_at, Int.reduceEq, if_true, if_false]; exact h2f.2.2.1) (by simp only [wr_at, Int.reduceEq, if_true, if_false]) (by simp only [wr_at, Int.reduceEq, if_true, if_false]; unfold so9; rw [if_neg (by omega), if_neg (by omega), if_neg (by omega), if_neg (by omega)]) (fun h9 => absurd h9 (by omega)) (fun h9 => by simp only [wr_at, Int.reduceEq, if_true, if_false]; exact h2f.2.2.2.1.trans hta) (fun h9 => absurd h9 (by omega))⟩)
                      · skip
                        refine tz_iload1 (n := 312) (g_at ck_X11_goes 160 rfl) rfl ?_
                        refine tz_bipush (n := 314) (g_at ck_X11_goes 161 rfl) rfl rfl ?_
                        refine tz_icmp_eq (n := 317) (tgt := 323) (g_at ck_X11_goes 162 rfl) rfl rfl (by omega) (fun h314 => ?_) (fun h314 => ?_)
                        · skip
                          refine tz_iconst (n := 324) (g_at ck_X11_goes 166 rfl) rfl ?_
                          refine tz_goto (tgt := 328) (g_at ck_X11_goes 167 rfl) rfl ?_
                          refine tz_putIr (n := 331) (kz := 18) fk_X11_165 kd_84 (g_at ck_X11_goes 169 rfl) rfl hR11 ⟨(by decide), (by decide)⟩ rfl (fun hR26 => ?_)
                          refine tz_aload0 (n := 332) (g_at ck_X11_goes 170 rfl) rfl (g_ne kd_84) ?_
                          refine tz_aload0 (n := 333) (g_at ck_X11_goes 171 rfl) rfl (g_ne kd_84) ?_
                          refine tz_getIw (n := 336) (kz := 17) fk_X11_145 kd_84 (g_at ck_X11_goes 172 rfl) rfl rfl ?_
                          simp only [wr_at, Int.reduceEq, if_true, if_false]
                          refine tz_aload0 (n := 337) (g_at ck_X11_goes 173 rfl) rfl (g_ne kd_84) ?_
                          refine tz_getIw (n := 340) (kz := 19) fk_X11_152 kd_84 (g_at ck_X11_goes 174 rfl) rfl rfl ?_
                          rw [show ∀ x y, (wr (wr m2 84 17 x) 84 18 y) 84 19 = a from fun x y => by simp only [wr_at, Int.reduceEq, if_true, if_false]; exact h2f.2.2.1]
                          refine tz_isub (n := 341) (g_at ck_X11_goes 175 rfl) rfl ?_
                          refine tz_putIr (n := 344) (kz := 20) fk_X11_175 kd_84 (g_at ck_X11_goes 176 rfl) rfl hR26 ⟨(by omega), (by omega)⟩ rfl (fun hR27 => ?_)
                          exact tz_vret (g_at ck_X11_goes 177 rfl) rfl (rV_mk ⟨_, rfl, hR27, ((hX2.w (by decide) (fun _ => by decide)).w (by decide) (fun _ => by decide)).w (by decide) (fun _ => by decide), MTk.mk (v := 0) ⟨he1, Or.inr (Or.inr (Or.inr ⟨by omega, hnl, hnd, Or.inl ⟨by unfold sgnC; omega, rfl⟩, rfl⟩))⟩ (by simp only [wr_at, Int.reduceEq, if_true, if_false]; exact h2f.1) (by rw [wr_ne (by decide), wr_ne (by decide), wr_ne (by decide)]; exact hT2) (by simp only [wr_at, Int.reduceEq, if_true, if_false]) (by simp only [wr_at, Int.reduceEq, if_true, if_false]; exact h2f.2.2.1) (by simp only [wr_at, Int.reduceEq, if_true, if_false]) (by simp only [wr_at, Int.reduceEq, if_true, if_false]; unfold so9; rw [if_neg (by omega), if_neg (by omega), if_neg (by omega), if_neg (by omega)]) (fun h9 => absurd h9 (by omega)) (fun h9 => by simp only [wr_at, Int.reduceEq, if_true, if_false]; exact h2f.2.2.2.1.trans hta) (fun h9 => absurd h9 (by omega))⟩)
                        · skip
                          refine tz_iload1 (n := 318) (g_at ck_X11_goes 163 rfl) rfl ?_
                          refine tz_bipush (n := 320) (g_at ck_X11_goes 164 rfl) rfl rfl ?_
                          refine tz_icmp_ne (n := 323) (tgt := 327) (g_at ck_X11_goes 165 rfl) rfl rfl (by omega) (fun h320 => ?_) (fun h320 => ?_)
                          · skip
                            refine tz_iconst (n := 328) (g_at ck_X11_goes 168 rfl) rfl ?_
                            refine tz_putIr (n := 331) (kz := 18) fk_X11_165 kd_84 (g_at ck_X11_goes 169 rfl) rfl hR11 ⟨(by decide), (by decide)⟩ rfl (fun hR28 => ?_)
                            refine tz_aload0 (n := 332) (g_at ck_X11_goes 170 rfl) rfl (g_ne kd_84) ?_
                            refine tz_aload0 (n := 333) (g_at ck_X11_goes 171 rfl) rfl (g_ne kd_84) ?_
                            refine tz_getIw (n := 336) (kz := 17) fk_X11_145 kd_84 (g_at ck_X11_goes 172 rfl) rfl rfl ?_
                            simp only [wr_at, Int.reduceEq, if_true, if_false]
                            refine tz_aload0 (n := 337) (g_at ck_X11_goes 173 rfl) rfl (g_ne kd_84) ?_
                            refine tz_getIw (n := 340) (kz := 19) fk_X11_152 kd_84 (g_at ck_X11_goes 174 rfl) rfl rfl ?_
                            rw [show ∀ x y, (wr (wr m2 84 17 x) 84 18 y) 84 19 = a from fun x y => by simp only [wr_at, Int.reduceEq, if_true, if_false]; exact h2f.2.2.1]
                            refine tz_isub (n := 341) (g_at ck_X11_goes 175 rfl) rfl ?_
                            refine tz_putIr (n := 344) (kz := 20) fk_X11_175 kd_84 (g_at ck_X11_goes 176 rfl) rfl hR28 ⟨(by omega), (by omega)⟩ rfl (fun hR29 => ?_)
                            exact tz_vret (g_at ck_X11_goes 177 rfl) rfl (rV_mk ⟨_, rfl, hR29, ((hX2.w (by decide) (fun _ => by decide)).w (by decide) (fun _ => by decide)).w (by decide) (fun _ => by decide), MTk.mk (v := 0) ⟨he1, Or.inr (Or.inr (Or.inr ⟨by omega, hnl, hnd, Or.inr ⟨by unfold sgnC; omega, rfl⟩, rfl⟩))⟩ (by simp only [wr_at, Int.reduceEq, if_true, if_false]; exact h2f.1) (by rw [wr_ne (by decide), wr_ne (by decide), wr_ne (by decide)]; exact hT2) (by simp only [wr_at, Int.reduceEq, if_true, if_false]) (by simp only [wr_at, Int.reduceEq, if_true, if_false]; exact h2f.2.2.1) (by simp only [wr_at, Int.reduceEq, if_true, if_false]) (by simp only [wr_at, Int.reduceEq, if_true, if_false]; rfl) (fun h9 => absurd h9 (by omega)) (fun h9 => by simp only [wr_at, Int.reduceEq, if_true, if_false]; omega) (fun h9 => absurd h9 (by omega))⟩)
                          · skip
                            refine tz_iconst (n := 324) (g_at ck_X11_goes 166 rfl) rfl ?_
                            refine tz_goto (tgt := 328) (g_at ck_X11_goes 167 rfl) rfl ?_
                            refine tz_putIr (n := 331) (kz := 18) fk_X11_165 kd_84 (g_at ck_X11_goes 169 rfl) rfl hR11 ⟨(by decide), (by decide)⟩ rfl (fun hR30 => ?_)
                            refine tz_aload0 (n := 332) (g_at ck_X11_goes 170 rfl) rfl (g_ne kd_84) ?_
                            refine tz_aload0 (n := 333) (g_at ck_X11_goes 171 rfl) rfl (g_ne kd_84) ?_
                            refine tz_getIw (n := 336) (kz := 17) fk_X11_145 kd_84 (g_at ck_X11_goes 172 rfl) rfl rfl ?_
                            simp only [wr_at, Int.reduceEq, if_true, if_false]
                            refine tz_aload0 (n := 337) (g_at ck_X11_goes 173 rfl) rfl (g_ne kd_84) ?_
                            refine tz_getIw (n := 340) (kz := 19) fk_X11_152 kd_84 (g_at ck_X11_goes 174 rfl) rfl rfl ?_
                            rw [show ∀ x y, (wr (wr m2 84 17 x) 84 18 y) 84 19 = a from fun x y => by simp only [wr_at, Int.reduceEq, if_true, if_false]; exact h2f.2.2.1]
                            refine tz_isub (n := 341) (g_at ck_X11_goes 175 rfl) rfl ?_
                            refine tz_putIr (n := 344) (kz := 20) fk_X11_175 kd_84 (g_at ck_X11_goes 176 rfl) rfl hR30 ⟨(by omega), (by omega)⟩ rfl (fun hR31 => ?_)
                            exact tz_vret (g_at ck_X11_goes 177 rfl) rfl (rV_mk ⟨_, rfl, hR31, ((hX2.w (by decide) (fun _ => by decide)).w (by decide) (fun _ => by decide)).w (by decide) (fun _ => by decide), MTk.mk (v := 0) ⟨he1, Or.inr (Or.inr (Or.inr ⟨by omega, hnl, hnd, Or.inl ⟨by unfold sgnC; omega, rfl⟩, rfl⟩))⟩ (by simp only [wr_at, Int.reduceEq, if_true, if_false]; exact h2f.1) (by rw [wr_ne (by decide), wr_ne (by decide), wr_ne (by decide)]; exact hT2) (by simp only [wr_at, Int.reduceEq, if_true, if_false]) (by simp only [wr_at, Int.reduceEq, if_true, if_false]; exact h2f.2.2.1) (by simp only [wr_at, Int.reduceEq, if_true, if_false]) (by simp only [wr_at, Int.reduceEq, if_true, if_false]; unfold so9; rw [if_neg (by omega), if_neg (by omega), if_neg (by omega), if_neg (by omega)]) (fun h9 => absurd h9 (by omega)) (fun h9 => by simp only [wr_at, Int.reduceEq, if_true, if_false]; exact h2f.2.2.2.1.trans hta) (fun h9 => absurd h9 (by omega))⟩)
        · skip
          have hdg : digit (t a) := by rw [← hta]; exact isD_1 h184
          refine g_for (fun i : Nat => ∀ m3 : Mm, (MR m3 ∧ FX [84] [17, 21] m2 m3 ∧ m3 84 17 = a + (i : Int) ∧ (∀ j, a ≤ j → j < a + (i : Int) → j < n ∧ digit (t j)) ∧ m3 84 21 = nmV t a (mn4 (i : Int))) → gT l γ μX11_goes 1 0 0 _ _ KK (wr ρ 84 23 0) m3 187 [some (vR 84), some (vI (ti9 t n a))] []) (n - a).toNat ?_ (fun i hi ihi => ?_) 0 (Nat.zero_le _) _ ⟨hR10, FX.rf, by rw [h2f.2.1]; show a = a + 0; omega, fun j h8 h9 => absurd h9 (by show ¬ j < a + 0; omega), h2f.2.2.2.2⟩
          · intro m3 hinv
            obtain ⟨hR3, hX3, h73, hw3, hv3⟩ := hinv
            have h63 : m3 84 16 = n := (hX3.2 16 (by decide)).trans h2f.1
            have hT3 : ∀ j, 0 ≤ j → j < n → m3 91 j = t j := by rw [hX3.1 91 (by decide)]; exact hT2
            have h93 : m3 84 19 = a := (hX3.2 19 (by decide)).trans h2f.2.2.1
            have hz3 : isDigitI (ti9 t n (a + ((n - a).toNat : Int))) = 0 := by rw [show ti9 t n (a + ((n - a).toNat : Int)) = 0 from if_neg (by omega)]; decide
            have hc3 := ti9_rg (n := n) (k := a + ((n - a).toNat : Int)) hB
            refine tz_aload0 (n := 188) (g_at ck_X11_goes 95 rfl) rfl (g_ne kd_84) ?_
            refine tz_aload0 (n := 189) (g_at ck_X11_goes 96 rfl) rfl (g_ne kd_84) ?_
            refine tz_getIw (n := 192) (kz := 17) fk_X11_145 kd_84 (g_at ck_X11_goes 97 rfl) rfl rfl ?_
            rw [h73]
            refine tz_cvI1 (n := 195) (μ' := μX11_byteAt) (cb' := 0) (sb' := 0) ml_X11_148 mo_X11_byteAt mv_X11_byteAt np_X11_byteAt kd_84 (g_at ck_X11_goes 98 rfl) (mp_byteAt hL.q23 hR3 hn h63 hT3 (by omega)) rfl rfl rfl ⟨by decide, by decide⟩ (Nat.le_of_ble_eq_true rfl) (by decide) (by decide) (fun x192 ρ9 m192 hq => ?_)
            obtain ⟨rfl, hR32, rfl, rfl⟩ := hq
            refine tz_csI1 (n := 198) (μ' := μX11_isDigit) (cb' := 0) (sb' := 0) ml_X11_172 mo_X11_isDigit ms_X11_isDigit np_X11_isDigit (g_at ck_X11_goes 99 rfl) (mp_isDigit hR32 hc3) rfl rfl ⟨by decide, by decide⟩ (Nat.le_of_ble_eq_true rfl) (by decide) (by decide) (fun x195 ρ9 m195 hq => ?_)
            obtain ⟨rfl, hR33, rfl, rfl⟩ := hq
            refine tz_if_eq (n := 201) (tgt := 250) (g_at ck_X11_goes 100 rfl) rfl rfl (by unfold isDigitI; split <;> decide) (fun h198 => ?_) (fun h198 => absurd h198 (by omega))
            refine tz_aload0 (n := 251) (g_at ck_X11_goes 128 rfl) rfl (g_ne kd_84) ?_
            refine tz_iconst (n := 252) (g_at ck_X11_goes 129 rfl) rfl ?_
            refine tz_putIr (n := 255) (kz := 18) fk_X11_165 kd_84 (g_at ck_X11_goes 130 rfl) rfl hR33 ⟨(by decide), (by decide)⟩ rfl (fun hR34 => ?_)
            refine tz_goto (tgt := 331) (g_at ck_X11_goes 131 rfl) rfl ?_
            refine tz_aload0 (n := 332) (g_at ck_X11_goes 170 rfl) rfl (g_ne kd_84) ?_
            refine tz_aload0 (n := 333) (g_at ck_X11_goes 171 rfl) rfl (g_ne kd_84) ?_
            refine tz_getIw (n := 336) (kz := 17) fk_X11_145 kd_84 (g_at ck_X11_goes 172 rfl) rfl rfl ?_
            rw [show ∀ y, (wr m3 84 18 y) 84 17 = a + ((n - a).toNat : Int) from fun y => by simp only [wr_at, Int.reduceEq, if_true, if_false]; exact h73]
            refine tz_aload0 (n := 337) (g_at ck_X11_goes 173 rfl) rfl (g_ne kd_84) ?_
            refine tz_getIw (n := 340) (kz := 19) fk_X11_152 kd_84 (g_at ck_X11_goes 174 rfl) rfl rfl ?_
            rw [show ∀ y, (wr m3 84 18 y) 84 19 = a from fun y => by simp only [wr_at, Int.reduceEq, if_true, if_false]; exact h93]
            refine tz_isub (n := 341) (g_at ck_X11_goes 175 rfl) rfl ?_
            refine tz_putIr (n := 344) (kz := 20) fk_X11_175 kd_84 (g_at ck_X11_goes 176 rfl) rfl hR34 ⟨(by omega), (by omega)⟩ rfl (fun hR35 => ?_)
            exact tz_vret (g_at ck_X11_goes 177 rfl) rfl (rV_mk ⟨_, rfl, hR35, ((hX2.tr (hX3.sub (by decide) (by decide))).w (by decide) (fun _ => by decide)).w (by decide) (fun _ => by decide), MTk.mk ⟨he1, Or.inr (Or.inr (Or.inl ⟨by omega, hdg, rfl, ⟨by omega, hw3, (fun h9 => absurd (isD_0 h198) (fun h8 => h8 (by rw [show ti9 t n (a + ((n - a).toNat : Int)) = t (a + ((n - a).toNat : Int)) from if_pos h9.1]; exact h9.2)))⟩, rfl⟩))⟩ (by simp only [wr_at, Int.reduceEq, if_true, if_false]; rw [hX3.2 16 (by decide)]; exact h2f.1) (by rw [wr_ne (by decide), wr_ne (by decide), hX3.1 91 (by decide)]; exact hT2) (by simp only [wr_at, Int.reduceEq, if_true, if_false]; exact h73) (by simp only [wr_at, Int.reduceEq, if_true, if_false]; rw [hX3.2 19 (by decide)]; exact h2f.2.2.1) (by simp only [wr_at, Int.reduceEq, if_true, if_false]) (by simp only [wr_at, Int.reduceEq, if_true, if_false]; rfl) (fun _ => by simp only [wr_at, Int.reduceEq, if_true, if_false]; rw [hv3, show a + ((n - a).toNat : Int) - a = ((n - a).toNat : Int) by omega]) (fun h9 => absurd h9 (by decide)) (fun h9 => absurd h9 (by decide))⟩)
          · intro m3 hinv
            obtain ⟨hR3, hX3, h73, hw3, hv3⟩ := hinv
            have h63 : m3 84 16 = n := (hX3.2 16 (by decide)).trans h2f.1
            have hT3 : ∀ j, 0 ≤ j → j < n → m3 91 j = t j := by rw [hX3.1 91 (by decide)]; exact hT2
            have h93 : m3 84 19 = a := (hX3.2 19 (by decide)).trans h2f.2.2.1
            have hc3 := ti9_rg (n := n) (k := a + (i : Int)) hB
            have hv9 := nmV_9 (t := t) (a := a) (w := mn4 (i : Int)) (by unfold mn4; split <;> omega) (fun j hj => (hw3 (a + (j : Int)) (by omega) (by have h7 := mn4_le i; omega)).2)
            refine tz_aload0 (n := 188) (g_at ck_X11_goes 95 rfl) rfl (g_ne kd_84) ?_
            refine tz_aload0 (n := 189) (g_at ck_X11_goes 96 rfl) rfl (g_ne kd_84) ?_
            refine tz_getIw (n := 192) (kz := 17) fk_X11_145 kd_84 (g_at ck_X11_goes 97 rfl) rfl rfl ?_
            rw [h73]
            refine tz_cvI1 (n := 195) (μ' := μX11_byteAt) (cb' := 0) (sb' := 0) ml_X11_148 mo_X11_byteAt mv_X11_byteAt np_X11_byteAt kd_84 (g_at ck_X11_goes 98 rfl) (mp_byteAt hL.q23 hR3 hn h63 hT3 (by omega)) rfl rfl rfl ⟨by decide, by decide⟩ (Nat.le_of_ble_eq_true rfl) (by decide) (by decide) (fun x192 ρ9 m192 hq => ?_)
            obtain ⟨rfl, hR36, rfl, rfl⟩ := hq
            refine tz_csI1 (n := 198) (μ' := μX11_isDigit) (cb' := 0) (sb' := 0) ml_X11_172 mo_X11_isDigit ms_X11_isDigit np_X11_isDigit (g_at ck_X11_goes 99 rfl) (mp_isDigit hR36 hc3) rfl rfl ⟨by decide, by decide⟩ (Nat.le_of_ble_eq_true rfl) (by decide) (by decide) (fun x195 ρ9 m195 hq => ?_)
            obtain ⟨rfl, hR37, rfl, rfl⟩ := hq
            refine tz_if_eq (n := 201) (tgt := 250) (g_at ck_X11_goes 100 rfl) rfl rfl (by unfold isDigitI; split <;> decide) (fun h198 => ?_) (fun h198 => ?_)
            · skip
              refine tz_aload0 (n := 251) (g_at ck_X11_goes 128 rfl) rfl (g_ne kd_84) ?_
              refine tz_iconst (n := 252) (g_at ck_X11_goes 129 rfl) rfl ?_
              refine tz_putIr (n := 255) (kz := 18) fk_X11_165 kd_84 (g_at ck_X11_goes 130 rfl) rfl hR37 ⟨(by decide), (by decide)⟩ rfl (fun hR38 => ?_)
              refine tz_goto (tgt := 331) (g_at ck_X11_goes 131 rfl) rfl ?_
              refine tz_aload0 (n := 332) (g_at ck_X11_goes 170 rfl) rfl (g_ne kd_84) ?_
              refine tz_aload0 (n := 333) (g_at ck_X11_goes 171 rfl) rfl (g_ne kd_84) ?_
              refine tz_getIw (n := 336) (kz := 17) fk_X11_145 kd_84 (g_at ck_X11_goes 172 rfl) rfl rfl ?_
              rw [show ∀ y, (wr m3 84 18 y) 84 17 = a + (i : Int) from fun y => by simp only [wr_at, Int.reduceEq, if_true, if_false]; exact h73]
              refine tz_aload0 (n := 337) (g_at ck_X11_goes 173 rfl) rfl (g_ne kd_84) ?_
              refine tz_getIw (n := 340) (kz := 19) fk_X11_152 kd_84 (g_at ck_X11_goes 174 rfl) rfl rfl ?_
              rw [show ∀ y, (wr m3 84 18 y) 84 19 = a from fun y => by simp only [wr_at, Int.reduceEq, if_true, if_false]; exact h93]
              refine tz_isub (n := 341) (g_at ck_X11_goes 175 rfl) rfl ?_
              refine tz_putIr (n := 344) (kz := 20) fk_X11_175 kd_84 (g_at ck_X11_goes 176 rfl) rfl hR38 ⟨(by omega), (by omega)⟩ rfl (fun hR39 => ?_)
              exact tz_vret (g_at ck_X11_goes 177 rfl) rfl (rV_mk ⟨_, rfl, hR39, ((hX2.tr (hX3.sub (by decide) (by decide))).w (by decide) (fun _ => by decide)).w (by decide) (fun _ => by decide), MTk.mk ⟨he1, Or.inr (Or.inr (Or.inl ⟨by omega, hdg, rfl, ⟨by omega, hw3, (fun h9 => absurd (isD_0 h198) (fun h8 => h8 (by rw [show ti9 t n (a + (i : Int)) = t (a + (i : Int)) from if_pos h9.1]; exact h9.2)))⟩, rfl⟩))⟩ (by simp only [wr_at, Int.reduceEq, if_true, if_false]; rw [hX3.2 16 (by decide)]; exact h2f.1) (by rw [wr_ne (by decide), wr_ne (by decide), hX3.1 91 (by decide)]; exact hT2) (by simp only [wr_at, Int.reduceEq, if_true, if_false]; exact h73) (by simp only [wr_at, Int.reduceEq, if_true, if_false]; rw [hX3.2 19 (by decide)]; exact h2f.2.2.1) (by simp only [wr_at, Int.reduceEq, if_true, if_false]) (by simp only [wr_at, Int.reduceEq, if_true, if_false]; rfl) (fun _ => by simp only [wr_at, Int.reduceEq, if_true, if_false]; rw [hv3, show a + (i : Int) - a = (i : Int) by omega]) (fun h9 => absurd h9 (by decide)) (fun h9 => absurd h9 (by decide))⟩)
            · skip
              have hin : a + (i : Int) < n := by by_cases h9 : a + (i : Int) < n; exact h9; exact absurd (isD_1 h198) (by rw [show ti9 t n (a + (i : Int)) = 0 from if_neg h9]; unfold digit; omega)
              have hdig : digit (t (a + (i : Int))) := by have h8 := isD_1 h198; rw [show ti9 t n (a + (i : Int)) = t (a + (i : Int)) from if_pos hin] at h8; exact h8
              have hb9 := hB (a + (i : Int))
              refine tz_aload0 (n := 202) (g_at ck_X11_goes 101 rfl) rfl (g_ne kd_84) ?_
              refine tz_getIw (n := 205) (kz := 17) fk_X11_145 kd_84 (g_at ck_X11_goes 102 rfl) rfl rfl ?_
              rw [h73]
              refine tz_aload0 (n := 206) (g_at ck_X11_goes 103 rfl) rfl (g_ne kd_84) ?_
              refine tz_getIw (n := 209) (kz := 19) fk_X11_152 kd_84 (g_at ck_X11_goes 104 rfl) rfl rfl ?_
              rw [h93]
              refine tz_isub (n := 210) (g_at ck_X11_goes 105 rfl) rfl ?_
              refine tz_iconst (n := 211) (g_at ck_X11_goes 106 rfl) rfl ?_
              refine tz_icmp_ge (n := 214) (tgt := 237) (g_at ck_X11_goes 107 rfl) rfl rfl (by omega) (fun h211 => ?_) (fun h211 => ?_)
              · skip
                refine tz_aload0 (n := 238) (g_at ck_X11_goes 121 rfl) rfl (g_ne kd_84) ?_
                refine tz_dupR (n := 239) (g_at ck_X11_goes 122 rfl) rfl ?_
                refine tz_getIw (n := 242) (kz := 17) fk_X11_145 kd_84 (g_at ck_X11_goes 123 rfl) rfl rfl ?_
                rw [h73]
                refine tz_iconst (n := 243) (g_at ck_X11_goes 124 rfl) rfl ?_
                refine tz_iadd (n := 244) (g_at ck_X11_goes 125 rfl) rfl ?_
                refine tz_putIr (n := 247) (kz := 17) fk_X11_145 kd_84 (g_at ck_X11_goes 126 rfl) rfl hR37 ⟨(by omega), (by omega)⟩ rfl (fun hR40 => ?_)
                refine tz_goto (tgt := 187) (g_at ck_X11_goes 127 rfl) rfl ?_
                have e9 : mn4 (((i + 1 : Nat)) : Int) = mn4 (i : Int) := by unfold mn4; split <;> split <;> omega
                exact ihi _ ⟨hR40, hX3.w (by decide) (fun _ => by decide), by rw [wr_same]; omega, end_step hw3 (by by_cases h9 : a + (i : Int) < n; exact h9; exact absurd (isD_1 h198) (by rw [show ti9 t n (a + (i : Int)) = 0 from if_neg h9]; unfold digit; omega)) hdig, by simp only [wr_at, Int.reduceEq, if_true, if_false]; rw [e9]; exact hv3⟩
              · skip
                refine tz_aload0 (n := 215) (g_at ck_X11_goes 108 rfl) rfl (g_ne kd_84) ?_
                refine tz_bipush (n := 217) (g_at ck_X11_goes 109 rfl) rfl rfl ?_
                refine tz_aload0 (n := 218) (g_at ck_X11_goes 110 rfl) rfl (g_ne kd_84) ?_
                refine tz_getIw (n := 221) (kz := 21) fk_X11_159 kd_84 (g_at ck_X11_goes 111 rfl) rfl rfl ?_
                rw [hv3]
                refine tz_imul (n := 222) (g_at ck_X11_goes 112 rfl) rfl ?_
                refine tz_aload0 (n := 223) (g_at ck_X11_goes 113 rfl) rfl (g_ne kd_84) ?_
                refine tz_aload0 (n := 224) (g_at ck_X11_goes 114 rfl) rfl (g_ne kd_84) ?_
                refine tz_getIw (n := 227) (kz := 17) fk_X11_145 kd_84 (g_at ck_X11_goes 115 rfl) rfl rfl ?_
                rw [h73]
                refine tz_cvI1 (n := 230) (μ' := μX11_byteAt) (cb' := 0) (sb' := 0) ml_X11_148 mo_X11_byteAt mv_X11_byteAt np_X11_byteAt kd_84 (g_at ck_X11_goes 116 rfl) (mp_byteAt hL.q23 hR37 hn h63 hT3 (by omega)) rfl rfl rfl ⟨by decide, by decide⟩ (Nat.le_of_ble_eq_true rfl) (by decide) (by decide) (fun x227 ρ9 m227 hq => ?_)
                obtain ⟨rfl, hR41, rfl, rfl⟩ := hq
                rw [show ti9 t n (a + (i : Int)) = t (a + (i : Int)) from if_pos hin]
                refine tz_iadd (n := 231) (g_at ck_X11_goes 117 rfl) rfl ?_
                refine tz_bipush (n := 233) (g_at ck_X11_goes 118 rfl) rfl rfl ?_
                refine tz_isub (n := 234) (g_at ck_X11_goes 119 rfl) rfl ?_
                refine tz_putIr (n := 237) (kz := 21) fk_X11_159 kd_84 (g_at ck_X11_goes 120 rfl) rfl hR41 ⟨(by omega), (by omega)⟩ rfl (fun hR42 => ?_)
                refine tz_aload0 (n := 238) (g_at ck_X11_goes 121 rfl) rfl (g_ne kd_84) ?_
                refine tz_dupR (n := 239) (g_at ck_X11_goes 122 rfl) rfl ?_
                refine tz_getIw (n := 242) (kz := 17) fk_X11_145 kd_84 (g_at ck_X11_goes 123 rfl) rfl rfl ?_
                rw [show ∀ y, (wr m3 84 21 y) 84 17 = a + (i : Int) from fun y => by simp only [wr_at, Int.reduceEq, if_true, if_false]; exact h73]
                refine tz_iconst (n := 243) (g_at ck_X11_goes 124 rfl) rfl ?_
                refine tz_iadd (n := 244) (g_at ck_X11_goes 125 rfl) rfl ?_
                refine tz_putIr (n := 247) (kz := 17) fk_X11_145 kd_84 (g_at ck_X11_goes 126 rfl) rfl hR42 ⟨(by omega), (by omega)⟩ rfl (fun hR43 => ?_)
                refine tz_goto (tgt := 187) (g_at ck_X11_goes 127 rfl) rfl ?_
                have e9 : mn4 (((i + 1 : Nat)) : Int) = mn4 (i : Int) + 1 := by unfold mn4; split <;> split <;> omega
                have e8 : mn4 (i : Int) = i := by unfold mn4; split <;> omega
                exact ihi _ ⟨hR43, (hX3.w (by decide) (fun _ => by decide)).w (by decide) (fun _ => by decide), by rw [wr_same]; omega, end_step hw3 (by by_cases h9 : a + (i : Int) < n; exact h9; exact absurd (isD_1 h198) (by rw [show ti9 t n (a + (i : Int)) = 0 from if_neg h9]; unfold digit; omega)) hdig, by simp only [wr_at, Int.reduceEq, if_true, if_false]; rw [e9, e8]; show _ = nmV t a i * 10 + t (a + (i : Int)) - 48; omega⟩
      · skip
        have hlt : letter (t a) := by rw [← hta]; exact isL_1 h105
        refine g_for (fun i : Nat => ∀ ρ1 m3 : Mm, (ρ1 = wr ρ 84 23 (pkL t a (mn8 (i : Int))) ∧ MR m3 ∧ FX [84] [17] m2 m3 ∧ m3 84 17 = a + (i : Int) ∧ ∀ j, a ≤ j → j < a + (i : Int) → j < n ∧ letter (t j)) → gT l γ μX11_goes 1 0 0 _ _ KK ρ1 m3 108 [some (vR 84), some (vI (ti9 t n a))] []) (n - a).toNat ?_ (fun i hi ihi => ?_) 0 (Nat.zero_le _) _ _ ⟨rfl, hR9, FX.rf, by rw [h2f.2.1]; show a = a + 0; omega, fun j h8 h9 => absurd h9 (by show ¬ j < a + 0; omega)⟩
        · intro ρ1 m3 hinv
          obtain ⟨rfl, hR3, hX3, h73, hw3⟩ := hinv
          have h63 : m3 84 16 = n := (hX3.2 16 (by decide)).trans h2f.1
          have hT3 : ∀ j, 0 ≤ j → j < n → m3 91 j = t j := by rw [hX3.1 91 (by decide)]; exact hT2
          have h93 : m3 84 19 = a := (hX3.2 19 (by decide)).trans h2f.2.2.1
          have hz3 : isLetterI (ti9 t n (a + ((n - a).toNat : Int))) = 0 := by rw [show ti9 t n (a + ((n - a).toNat : Int)) = 0 from if_neg (by omega)]; decide
          have hc3 := ti9_rg (n := n) (k := a + ((n - a).toNat : Int)) hB
          refine tz_aload0 (n := 109) (g_at ck_X11_goes 54 rfl) rfl (g_ne kd_84) ?_
          refine tz_aload0 (n := 110) (g_at ck_X11_goes 55 rfl) rfl (g_ne kd_84) ?_
          refine tz_getIw (n := 113) (kz := 17) fk_X11_145 kd_84 (g_at ck_X11_goes 56 rfl) rfl rfl ?_
          rw [h73]
          refine tz_cvI1 (n := 116) (μ' := μX11_byteAt) (cb' := 0) (sb' := 0) ml_X11_148 mo_X11_byteAt mv_X11_byteAt np_X11_byteAt kd_84 (g_at ck_X11_goes 57 rfl) (mp_byteAt hL.q23 hR3 hn h63 hT3 (by omega)) rfl rfl rfl ⟨by decide, by decide⟩ (Nat.le_of_ble_eq_true rfl) (by decide) (by decide) (fun x113 ρ9 m113 hq => ?_)
          obtain ⟨rfl, hR44, rfl, rfl⟩ := hq
          refine tz_csI1 (n := 119) (μ' := μX11_isLetter) (cb' := 0) (sb' := 0) ml_X11_168 mo_X11_isLetter ms_X11_isLetter np_X11_isLetter (g_at ck_X11_goes 58 rfl) (mp_isLetter hR44 hc3) rfl rfl ⟨by decide, by decide⟩ (Nat.le_of_ble_eq_true rfl) (by decide) (by decide) (fun x116 ρ9 m116 hq => ?_)
          obtain ⟨rfl, hR45, rfl, rfl⟩ := hq
          refine tz_if_eq (n := 122) (tgt := 172) (g_at ck_X11_goes 59 rfl) rfl rfl (by unfold isLetterI; split <;> decide) (fun h119 => ?_) (fun h119 => absurd h119 (by omega))
          refine tz_aload0 (n := 173) (g_at ck_X11_goes 88 rfl) rfl (g_ne kd_84) ?_
          refine tz_iconst (n := 174) (g_at ck_X11_goes 89 rfl) rfl ?_
          refine tz_putIr (n := 177) (kz := 18) fk_X11_165 kd_84 (g_at ck_X11_goes 90 rfl) rfl hR45 ⟨(by decide), (by decide)⟩ rfl (fun hR46 => ?_)
          refine tz_goto (tgt := 331) (g_at ck_X11_goes 91 rfl) rfl ?_
          refine tz_aload0 (n := 332) (g_at ck_X11_goes 170 rfl) rfl (g_ne kd_84) ?_
          refine tz_aload0 (n := 333) (g_at ck_X11_goes 171 rfl) rfl (g_ne kd_84) ?_
          refine tz_getIw (n := 336) (kz := 17) fk_X11_145 kd_84 (g_at ck_X11_goes 172 rfl) rfl rfl ?_
          rw [show ∀ y, (wr m3 84 18 y) 84 17 = a + ((n - a).toNat : Int) from fun y => by simp only [wr_at, Int.reduceEq, if_true, if_false]; exact h73]
          refine tz_aload0 (n := 337) (g_at ck_X11_goes 173 rfl) rfl (g_ne kd_84) ?_
          refine tz_getIw (n := 340) (kz := 19) fk_X11_152 kd_84 (g_at ck_X11_goes 174 rfl) rfl rfl ?_
          rw [show ∀ y, (wr m3 84 18 y) 84 19 = a from fun y => by simp only [wr_at, Int.reduceEq, if_true, if_false]; exact h93]
          refine tz_isub (n := 341) (g_at ck_X11_goes 175 rfl) rfl ?_
          refine tz_putIr (n := 344) (kz := 20) fk_X11_175 kd_84 (g_at ck_X11_goes 176 rfl) rfl hR46 ⟨(by omega), (by omega)⟩ rfl (fun hR47 => ?_)
          exact tz_vret (g_at ck_X11_goes 177 rfl) rfl (rV_mk ⟨_, rfl, hR47, ((hX2.tr (hX3.sub (by decide) (by decide))).w (by decide) (fun _ => by decide)).w (by decide) (fun _ => by decide), MTk.mk (v := 0) ⟨he1, Or.inr (Or.inl ⟨by omega, hlt, rfl, ⟨by omega, hw3, (fun h9 => absurd (isL_0 h119) (fun h8 => h8 (by rw [show ti9 t n (a + ((n - a).toNat : Int)) = t (a + ((n - a).toNat : Int)) from if_pos h9.1]; exact h9.2)))⟩⟩)⟩ (by simp only [wr_at, Int.reduceEq, if_true, if_false]; rw [hX3.2 16 (by decide)]; exact h2f.1) (by rw [wr_ne (by decide), wr_ne (by decide), hX3.1 91 (by decide)]; exact hT2) (by simp only [wr_at, Int.reduceEq, if_true, if_false]; exact h73) (by simp only [wr_at, Int.reduceEq, if_true, if_false]; rw [hX3.2 19 (by decide)]; exact h2f.2.2.1) (by simp only [wr_at, Int.reduceEq, if_true, if_false]) (by simp only [wr_at, Int.reduceEq, if_true, if_false]; rfl) (fun h9 => absurd h9 (by decide)) (fun h9 => absurd h9 (by decide)) (fun _ => by rw [wr_same, show a + ((n - a).toNat : Int) - a = ((n - a).toNat : Int) by omega])⟩)
        · intro ρ1 m3 hinv
          obtain ⟨rfl, hR3, hX3, h73, hw3⟩ := hinv
          have h63 : m3 84 16 = n := (hX3.2 16 (by decide)).trans h2f.1
          have hT3 : ∀ j, 0 ≤ j → j < n → m3 91 j = t j := by rw [hX3.1 91 (by decide)]; exact hT2
          have h93 : m3 84 19 = a := (hX3.2 19 (by decide)).trans h2f.2.2.1
          have hc3 := ti9_rg (n := n) (k := a + (i : Int)) hB
          refine tz_aload0 (n := 109) (g_at ck_X11_goes 54 rfl) rfl (g_ne kd_84) ?_
          refine tz_aload0 (n := 110) (g_at ck_X11_goes 55 rfl) rfl (g_ne kd_84) ?_
          refine tz_getIw (n := 113) (kz := 17) fk_X11_145 kd_84 (g_at ck_X11_goes 56 rfl) rfl rfl ?_
          rw [h73]
          refine tz_cvI1 (n := 116) (μ' := μX11_byteAt) (cb' := 0) (sb' := 0) ml_X11_148 mo_X11_byteAt mv_X11_byteAt np_X11_byteAt kd_84 (g_at ck_X11_goes 57 rfl) (mp_byteAt hL.q23 hR3 hn h63 hT3 (by omega)) rfl rfl rfl ⟨by decide, by decide⟩ (Nat.le_of_ble_eq_true rfl) (by decide) (by decide) (fun x113 ρ9 m113 hq => ?_)
          obtain ⟨rfl, hR48, rfl, rfl⟩ := hq
          refine tz_csI1 (n := 119) (μ' := μX11_isLetter) (cb' := 0) (sb' := 0) ml_X11_168 mo_X11_isLetter ms_X11_isLetter np_X11_isLetter (g_at ck_X11_goes 58 rfl) (mp_isLetter hR48 hc3) rfl rfl ⟨by decide, by decide⟩ (Nat.le_of_ble_eq_true rfl) (by decide) (by decide) (fun x116 ρ9 m116 hq => ?_)
          obtain ⟨rfl, hR49, rfl, rfl⟩ := hq
          refine tz_if_eq (n := 122) (tgt := 172) (g_at ck_X11_goes 59 rfl) rfl rfl (by unfold isLetterI; split <;> decide) (fun h119 => ?_) (fun h119 => ?_)
          · skip
            refine tz_aload0 (n := 173) (g_at ck_X11_goes 88 rfl) rfl (g_ne kd_84) ?_
            refine tz_iconst (n := 174) (g_at ck_X11_goes 89 rfl) rfl ?_
            refine tz_putIr (n := 177) (kz := 18) fk_X11_165 kd_84 (g_at ck_X11_goes 90 rfl) rfl hR49 ⟨(by decide), (by decide)⟩ rfl (fun hR50 => ?_)
            refine tz_goto (tgt := 331) (g_at ck_X11_goes 91 rfl) rfl ?_
            refine tz_aload0 (n := 332) (g_at ck_X11_goes 170 rfl) rfl (g_ne kd_84) ?_
            refine tz_aload0 (n := 333) (g_at ck_X11_goes 171 rfl) rfl (g_ne kd_84) ?_
            refine tz_getIw (n := 336) (kz := 17) fk_X11_145 kd_84 (g_at ck_X11_goes 172 rfl) rfl rfl ?_
            rw [show ∀ y, (wr m3 84 18 y) 84 17 = a + (i : Int) from fun y => by simp only [wr_at, Int.reduceEq, if_true, if_false]; exact h73]
            refine tz_aload0 (n := 337) (g_at ck_X11_goes 173 rfl) rfl (g_ne kd_84) ?_
            refine tz_getIw (n := 340) (kz := 19) fk_X11_152 kd_84 (g_at ck_X11_goes 174 rfl) rfl rfl ?_
            rw [show ∀ y, (wr m3 84 18 y) 84 19 = a from fun y => by simp only [wr_at, Int.reduceEq, if_true, if_false]; exact h93]
            refine tz_isub (n := 341) (g_at ck_X11_goes 175 rfl) rfl ?_
            refine tz_putIr (n := 344) (kz := 20) fk_X11_175 kd_84 (g_at ck_X11_goes 176 rfl) rfl hR50 ⟨(by omega), (by omega)⟩ rfl (fun hR51 => ?_)
            exact tz_vret (g_at ck_X11_goes 177 rfl) rfl (rV_mk ⟨_, rfl, hR51, ((hX2.tr (hX3.sub (by decide) (by decide))).w (by decide) (fun _ => by decide)).w (by decide) (fun _ => by decide), MTk.mk (v := 0) ⟨he1, Or.inr (Or.inl ⟨by omega, hlt, rfl, ⟨by omega, hw3, (fun h9 => absurd (isL_0 h119) (fun h8 => h8 (by rw [show ti9 t n (a + (i : Int)) = t (a + (i : Int)) from if_pos h9.1]; exact h9.2)))⟩⟩)⟩ (by simp only [wr_at, Int.reduceEq, if_true, if_false]; rw [hX3.2 16 (by decide)]; exact h2f.1) (by rw [wr_ne (by decide), wr_ne (by decide), hX3.1 91 (by decide)]; exact hT2) (by simp only [wr_at, Int.reduceEq, if_true, if_false]; exact h73) (by simp only [wr_at, Int.reduceEq, if_true, if_false]; rw [hX3.2 19 (by decide)]; exact h2f.2.2.1) (by simp only [wr_at, Int.reduceEq, if_true, if_false]) (by simp only [wr_at, Int.reduceEq, if_true, if_false]; rfl) (fun h9 => absurd h9 (by decide)) (fun h9 => absurd h9 (by decide)) (fun _ => by rw [wr_same, show a + (i : Int) - a = (i : Int) by omega])⟩)
          · skip
            have hin : ¬ isLetterI (ti9 t n (a + (i : Int))) = 0 → a + (i : Int) < n := fun h7 => by by_cases h9 : a + (i : Int) < n; exact h9; exact absurd (isL_1 h7) (by rw [show ti9 t n (a + (i : Int)) = 0 from if_neg h9]; unfold letter; omega)
            have hlet : letter (t (a + (i : Int))) := by have h8 := isL_1 h119; rw [show ti9 t n (a + (i : Int)) = t (a + (i : Int)) from if_pos (hin h119)] at h8; exact h8
            refine tz_aload0 (n := 123) (g_at ck_X11_goes 60 rfl) rfl (g_ne kd_84) ?_
            refine tz_getIw (n := 126) (kz := 17) fk_X11_145 kd_84 (g_at ck_X11_goes 61 rfl) rfl rfl ?_
            rw [h73]
            refine tz_aload0 (n := 127) (g_at ck_X11_goes 62 rfl) rfl (g_ne kd_84) ?_
            refine tz_getIw (n := 130) (kz := 19) fk_X11_152 kd_84 (g_at ck_X11_goes 63 rfl) rfl rfl ?_
            rw [h93]
            refine tz_isub (n := 131) (g_at ck_X11_goes 64 rfl) rfl ?_
            refine tz_bipush (n := 133) (g_at ck_X11_goes 65 rfl) rfl rfl ?_
            refine tz_icmp_ge (n := 136) (tgt := 159) (g_at ck_X11_goes 66 rfl) rfl rfl (by omega) (fun h133 => ?_) (fun h133 => ?_)
            · skip
              refine tz_aload0 (n := 160) (g_at ck_X11_goes 81 rfl) rfl (g_ne kd_84) ?_
              refine tz_dupR (n := 161) (g_at ck_X11_goes 82 rfl) rfl ?_
              refine tz_getIw (n := 164) (kz := 17) fk_X11_145 kd_84 (g_at ck_X11_goes 83 rfl) rfl rfl ?_
              rw [h73]
              refine tz_iconst (n := 165) (g_at ck_X11_goes 84 rfl) rfl ?_
              refine tz_iadd (n := 166) (g_at ck_X11_goes 85 rfl) rfl ?_
              refine tz_putIr (n := 169) (kz := 17) fk_X11_145 kd_84 (g_at ck_X11_goes 86 rfl) rfl hR49 ⟨(by omega), (by omega)⟩ rfl (fun hR52 => ?_)
              refine tz_goto (tgt := 108) (g_at ck_X11_goes 87 rfl) rfl ?_
              have e9 : mn8 (((i + 1 : Nat)) : Int) = mn8 (i : Int) := by unfold mn8; split <;> split <;> omega
              exact ihi _ _ ⟨by rw [e9], hR52, hX3.w (by decide) (fun _ => by decide), by rw [wr_same]; omega, end_step hw3 (by by_cases h9 : a + (i : Int) < n; exact h9; exact absurd (isL_1 h119) (by rw [show ti9 t n (a + (i : Int)) = 0 from if_neg h9]; unfold letter; omega)) hlet⟩
            · skip
              refine tz_aload0 (n := 137) (g_at ck_X11_goes 67 rfl) rfl (g_ne kd_84) ?_
              refine tz_aload0 (n := 138) (g_at ck_X11_goes 68 rfl) rfl (g_ne kd_84) ?_
              refine tz_getLw (n := 141) (kz := 23) fk_X11_155 kd_84 (g_at ck_X11_goes 69 rfl) rfl rfl ?_
              rw [wr_same]
              refine tz_iconst (n := 142) (g_at ck_X11_goes 70 rfl) rfl ?_
              refine tz_lshl (n := 143) (g_at ck_X11_goes 71 rfl) rfl ?_
              refine tz_aload0 (n := 144) (g_at ck_X11_goes 72 rfl) rfl (g_ne kd_84) ?_
              refine tz_aload0 (n := 145) (g_at ck_X11_goes 73 rfl) rfl (g_ne kd_84) ?_
              refine tz_getIw (n := 148) (kz := 17) fk_X11_145 kd_84 (g_at ck_X11_goes 74 rfl) rfl rfl ?_
              rw [h73]
              refine tz_cvI1 (n := 151) (μ' := μX11_byteAt) (cb' := 0) (sb' := 0) ml_X11_148 mo_X11_byteAt mv_X11_byteAt np_X11_byteAt kd_84 (g_at ck_X11_goes 75 rfl) (mp_byteAt hL.q23 hR49 hn h63 hT3 (by omega)) rfl rfl rfl ⟨by decide, by decide⟩ (Nat.le_of_ble_eq_true rfl) (by decide) (by decide) (fun x148 ρ9 m148 hq => ?_)
              obtain ⟨rfl, hR53, rfl, rfl⟩ := hq
              rw [show ti9 t n (a + (i : Int)) = t (a + (i : Int)) from if_pos (hin h119)]
              refine tz_bipush (n := 153) (g_at ck_X11_goes 76 rfl) rfl rfl ?_
              refine tz_isub (n := 154) (g_at ck_X11_goes 77 rfl) rfl ?_
              refine tz_i2l (n := 155) (g_at ck_X11_goes 78 rfl) rfl ?_
              refine tz_lor (n := 156) (g_at ck_X11_goes 79 rfl) rfl ?_
              refine tz_putLw (n := 159) (kz := 23) fk_X11_155 kd_84 (g_at ck_X11_goes 80 rfl) rfl rfl ?_
              refine tz_aload0 (n := 160) (g_at ck_X11_goes 81 rfl) rfl (g_ne kd_84) ?_
              refine tz_dupR (n := 161) (g_at ck_X11_goes 82 rfl) rfl ?_
              refine tz_getIw (n := 164) (kz := 17) fk_X11_145 kd_84 (g_at ck_X11_goes 83 rfl) rfl rfl ?_
              rw [h73]
              refine tz_iconst (n := 165) (g_at ck_X11_goes 84 rfl) rfl ?_
              refine tz_iadd (n := 166) (g_at ck_X11_goes 85 rfl) rfl ?_
              refine tz_putIr (n := 169) (kz := 17) fk_X11_145 kd_84 (g_at ck_X11_goes 86 rfl) rfl hR53 ⟨(by omega), (by omega)⟩ rfl (fun hR54 => ?_)
              refine tz_goto (tgt := 108) (g_at ck_X11_goes 87 rfl) rfl ?_
              have e9 : mn8 (((i + 1 : Nat)) : Int) = mn8 (i : Int) + 1 := by unfold mn8; split <;> split <;> omega
              have e8 : mn8 (i : Int) = i := by unfold mn8; split <;> omega
              exact ihi _ _ ⟨by rw [wr_wr, e9, e8]; rfl, hR54, hX3.w (by decide) (fun _ => by decide), by rw [wr_same]; omega, end_step hw3 (by by_cases h9 : a + (i : Int) < n; exact h9; exact absurd (isL_1 h119) (by rw [show ti9 t n (a + (i : Int)) = 0 from if_neg h9]; unfold letter; omega)) hlet⟩
    · skip
      refine tz_aload0 (n := 94) (g_at ck_X11_goes 47 rfl) rfl (g_ne kd_84) ?_
      refine tz_iconst (n := 95) (g_at ck_X11_goes 48 rfl) rfl ?_
      refine tz_putIr (n := 98) (kz := 18) fk_X11_165 kd_84 (g_at ck_X11_goes 49 rfl) rfl hR8 ⟨(by decide), (by decide)⟩ rfl (fun hR55 => ?_)
      refine tz_goto (tgt := 331) (g_at ck_X11_goes 50 rfl) rfl ?_
      refine tz_aload0 (n := 332) (g_at ck_X11_goes 170 rfl) rfl (g_ne kd_84) ?_
      refine tz_aload0 (n := 333) (g_at ck_X11_goes 171 rfl) rfl (g_ne kd_84) ?_
      refine tz_getIw (n := 336) (kz := 17) fk_X11_145 kd_84 (g_at ck_X11_goes 172 rfl) rfl rfl ?_
      rw [show ∀ y, (wr m2 84 18 y) 84 17 = a from fun y => by simp only [wr_at, Int.reduceEq, if_true, if_false]; exact h2f.2.1]
      refine tz_aload0 (n := 337) (g_at ck_X11_goes 173 rfl) rfl (g_ne kd_84) ?_
      refine tz_getIw (n := 340) (kz := 19) fk_X11_152 kd_84 (g_at ck_X11_goes 174 rfl) rfl rfl ?_
      rw [show ∀ y, (wr m2 84 18 y) 84 19 = a from fun y => by simp only [wr_at, Int.reduceEq, if_true, if_false]; exact h2f.2.2.1]
      refine tz_isub (n := 341) (g_at ck_X11_goes 175 rfl) rfl ?_
      refine tz_putIr (n := 344) (kz := 20) fk_X11_175 kd_84 (g_at ck_X11_goes 176 rfl) rfl hR55 ⟨(by omega), (by omega)⟩ rfl (fun hR56 => ?_)
      exact tz_vret (g_at ck_X11_goes 177 rfl) rfl (rV_mk ⟨_, rfl, hR56, (hX2.w (by decide) (fun _ => by decide)).w (by decide) (fun _ => by decide), MTk.mk (v := 0) ⟨he1, Or.inl ⟨by omega, rfl, rfl⟩⟩ (by simp only [wr_at, Int.reduceEq, if_true, if_false]; exact h2f.1) (by rw [wr_ne (by decide), wr_ne (by decide)]; exact hT2) (by simp only [wr_at, Int.reduceEq, if_true, if_false]; exact h2f.2.1) (by simp only [wr_at, Int.reduceEq, if_true, if_false]; exact h2f.2.2.1) (by simp only [wr_at, Int.reduceEq, if_true, if_false]) (by simp only [wr_at, Int.reduceEq, if_true, if_false]; rfl) (fun h9 => absurd h9 (by decide)) (fun h9 => absurd h9 (by decide)) (fun h9 => absurd h9 (by decide))⟩)
