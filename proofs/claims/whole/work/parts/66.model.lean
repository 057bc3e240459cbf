/-! The reference: small ones; what a rule comes to. -/
def bitsM (v : Int) : Int := fd (fun k n => n + bAnd (bShr v (k : Int)) 1) 0 9
def bitsMn (v : Int) (n : Nat) : Int := fd (fun k n => n + bAnd (bShr v (k : Int)) 1) 0 n
theorem bitsM_bc : ∀ v : Nat, v < 512 → bitsM (v : Int) = bcJ (v : Int) := by decide +kernel
def opE (c : Int) : Int := if c ≥ 0 then 1 else if c ≥ -5 then 2 else if c = -6 then 5 else if c = -7 then 4 else if c = -8 then 3 else -3 - c
theorem opE_c {c : Int} (h : -14 ≤ c) : (0 ≤ c ∧ opE c = 1) ∨ (c < 0 ∧ -5 ≤ c ∧ opE c = 2) ∨ (c = -8 ∧ opE c = 3) ∨ (c < -5 ∧ c ≠ -8 ∧ 4 ≤ opE c ∧ opE c ≤ 11) := by
  unfold opE
  repeat' split
  all_goals omega
def offL (L : List Int) (j : Nat) : Int := fd (fun i v => v + (if L.getD i 0 ≥ -5 then 2 else 1)) 0 j
def CodeC (m : Mm) (a : Int) (L : List Int) : Prop := (∀ j : Nat, j < L.length → m 90 (a + offL L j) = opE (L.getD j 0) ∧ (L.getD j 0 ≥ -5 → m 90 (a + offL L j + 1) = if L.getD j 0 ≥ 0 then L.getD j 0 else -1 - L.getD j 0)) ∧ m 90 (a + offL L L.length) = 0 ∧ 0 ≤ a ∧ a + offL L L.length < 1400
def RW (L : List Int) : Prop := (L ≠ [] → okL L 0) ∧ ∀ c ∈ L, -14 ≤ c ∧ c ≤ 9999
theorem offL_s {L : List Int} {j : Nat} : offL L (j + 1) = offL L j + (if L.getD j 0 ≥ -5 then 2 else 1) := rfl
theorem offL_le {L : List Int} : ∀ {j k : Nat}, j ≤ k → offL L j ≤ offL L k
  | j, 0, h => by
    have : j = 0 := by omega
    rw [this]
    exact Int.le_refl _
  | j, k + 1, h => by
    by_cases e : j = k + 1
    · rw [e]; exact Int.le_refl _
    · have := offL_le (L := L) (j := j) (k := k) (by omega)
      rw [offL_s]
      split <;> omega
theorem offL_0 {L : List Int} (j : Nat) : 0 ≤ offL L j := offL_le (L := L) (j := 0) (Nat.zero_le j)
theorem evS_s {L : List Int} {V : Int → Int} {j : Nat} (hj : j < L.length) : evS (L.take (j + 1)) V = stepL (L.getD j 0) V (evS (L.take j) V) := by
  unfold evS
  rw [List.take_succ_eq_append_getElem hj, List.foldl_append, List.getD_eq_getElem?_getD, List.getElem?_eq_getElem hj]
  rfl
theorem okL_d {L : List Int} {V : Int → Int} (ho : okL L 0) : ∀ j : Nat, j ≤ L.length → okL (L.drop j) (evS (L.take j) V).length
  | 0, _ => ho
  | j + 1, h => by
    have ih := okL_d (V := V) ho j (by omega)
    rw [List.drop_eq_getElem_cons (by omega)] at ih
    have e : L[j] = L.getD j 0 := by rw [List.getD_eq_getElem?_getD, List.getElem?_eq_getElem (by omega)]; rfl
    rw [evS_s (by omega), ← e]
    generalize evS (L.take j) V = st at ih ⊢
    unfold okL at ih
    unfold stepL
    by_cases h1 : L[j] < -5
    · rw [if_pos h1] at ih ⊢
      by_cases h2 : L[j] = -8
      · rw [if_pos h2] at ih ⊢
        match st, ih with
        | [], ih => exact absurd ih.1 (by simp)
        | x :: r, ih => exact ih.2
      · rw [if_neg h2] at ih ⊢
        match st, ih with
        | [], ih => exact absurd ih.1 (by simp)
        | [x], ih => exact absurd ih.1 (by simp)
        | b :: a :: r, ih => exact ih.2
    · rw [if_neg h1] at ih ⊢
      exact ih.2
theorem mp_thrown {l : Launch} {γ : Gh} {ρ m : Mm} (hR : MR m) : gE l γ μX11_thrown 0 0 0 (rI KK fun x ρ9 m9 => ρ = ρ9 ∧ MR m9 ∧ m 84 0 = x ∧ m = m9) xN KK ρ m [vR 84] := by
  refine gE.ofw cl_X11.2 ?_ rfl rfl (Nat.le_of_ble_eq_true rfl)
  show gT l γ μX11_thrown 0 0 0 _ _ KK ρ m 0 [some (vR 84)] []
  refine tz_aload0 (n := 1) (g_at ck_X11_thrown 0 rfl) rfl (g_ne kd_84) ?_
  refine tz_getIw (n := 4) (kz := 0) fk_X11_132 kd_84 (g_at ck_X11_thrown 1 rfl) rfl rfl ?_
  exact tz_iret (g_at ck_X11_thrown 2 rfl) rfl (rI_mk ⟨rfl, hR, rfl, rfl⟩)
def rgF (th b k : Int) : Int := if th = 0 ∧ b = 0 then 0 else if th = 0 then 1 else 0
def rgM (m : Mm) (b k : Int) : Mm := if m 84 0 = 0 ∧ b = 0 then wr m 84 0 k else m
theorem mp_right {l : Launch} {γ : Gh} {ρ m : Mm} {b k : Int} (hR : MR m) (h0 : m 84 0 = 0) (hb : b = 0 ∨ b = 1) (hk : 1 ≤ k ∧ k ≤ 5) : gE l γ μX11_right 0 0 0 (rI KK fun x ρ9 m9 => ρ = ρ9 ∧ MR m9 ∧ b = x ∧ (if b = 0 then wr m 84 0 k else m) = m9) xN KK ρ m [vR 84, vI b, vI k] := by
  refine gE.ofw cl_X11.2 ?_ rfl rfl (Nat.le_of_ble_eq_true rfl)
  show gT l γ μX11_right 0 0 0 _ _ KK ρ m 0 [some (vR 84), some (vI b), some (vI k)] []
  refine tz_aload0 (n := 1) (g_at ck_X11_right 0 rfl) rfl (g_ne kd_84) ?_
  refine tz_getIw (n := 4) (kz := 0) fk_X11_132 kd_84 (g_at ck_X11_right 1 rfl) rfl rfl ?_
  refine tz_if_ne (n := 7) (tgt := 16) (g_at ck_X11_right 2 rfl) rfl rfl (by omega) (fun h4 => absurd h4 (by omega)) (fun h4 => ?_)
  refine tz_iload1 (n := 8) (g_at ck_X11_right 3 rfl) rfl ?_
  refine tz_if_ne (n := 11) (tgt := 16) (g_at ck_X11_right 4 rfl) rfl rfl (by omega) (fun h8 => ?_) (fun h8 => ?_)
  · skip
    refine tz_aload0 (n := 17) (g_at ck_X11_right 8 rfl) rfl (g_ne kd_84) ?_
    refine tz_getIw (n := 20) (kz := 0) fk_X11_132 kd_84 (g_at ck_X11_right 9 rfl) rfl rfl ?_
    refine tz_if_ne (n := 23) (tgt := 27) (g_at ck_X11_right 10 rfl) rfl rfl (by omega) (fun h20 => absurd h20 (by omega)) (fun h20 => ?_)
    refine tz_iconst (n := 24) (g_at ck_X11_right 11 rfl) rfl ?_
    refine tz_goto (tgt := 28) (g_at ck_X11_right 12 rfl) rfl ?_
    exact tz_bret (g_at ck_X11_right 14 rfl) rfl (by decide) (rI_mk ⟨rfl, hR, by omega, if_neg (by omega)⟩)
  · skip
    refine tz_aload0 (n := 12) (g_at ck_X11_right 5 rfl) rfl (g_ne kd_84) ?_
    refine tz_iload2 (n := 13) (g_at ck_X11_right 6 rfl) rfl ?_
    refine tz_putIr (n := 16) (kz := 0) fk_X11_132 kd_84 (g_at ck_X11_right 7 rfl) rfl hR (by omega) rfl (fun hR1 => ?_)
    refine tz_aload0 (n := 17) (g_at ck_X11_right 8 rfl) rfl (g_ne kd_84) ?_
    refine tz_getIw (n := 20) (kz := 0) fk_X11_132 kd_84 (g_at ck_X11_right 9 rfl) rfl rfl ?_
    rw [wr_same]
    refine tz_if_ne (n := 23) (tgt := 27) (g_at ck_X11_right 10 rfl) rfl rfl (by omega) (fun h20 => ?_) (fun h20 => absurd h20 (by omega))
    refine tz_iconst (n := 28) (g_at ck_X11_right 13 rfl) rfl ?_
    exact tz_bret (g_at ck_X11_right 14 rfl) rfl (by decide) (rI_mk ⟨rfl, hR1, by omega, if_pos (by omega)⟩)
def wiF (v a b : Int) : Int := if a ≤ v ∧ v ≤ b then 1 else 0
theorem wiF_01 (v a b : Int) : wiF v a b = 0 ∨ wiF v a b = 1 := by unfold wiF; split <;> simp
theorem mp_within {l : Launch} {γ : Gh} {ρ m : Mm} {v a b : Int} (hR : MR m) (hv : -2147483648 ≤ v ∧ v < 2147483648) (ha : -2147483648 ≤ a ∧ a < 2147483648) (hb : -2147483648 ≤ b ∧ b < 2147483648) : gE l γ μX11_within 0 0 0 (rI KK fun x ρ9 m9 => ρ = ρ9 ∧ MR m9 ∧ wiF v a b = x ∧ m = m9) xN KK ρ m [vI v, vI a, vI b] := by
  refine gE.ofw cl_X11.2 ?_ rfl rfl (Nat.le_of_ble_eq_true rfl)
  show gT l γ μX11_within 0 0 0 _ _ KK ρ m 0 [some (vI v), some (vI a), some (vI b)] []
  refine tz_iload0 (n := 1) (g_at ck_X11_within 0 rfl) rfl ?_
  refine tz_iload1 (n := 2) (g_at ck_X11_within 1 rfl) rfl ?_
  refine tz_icmp_lt (n := 5) (tgt := 14) (g_at ck_X11_within 2 rfl) rfl rfl ⟨hv.1, hv.2, ha.1, ha.2⟩ (fun h2 => ?_) (fun h2 => ?_)
  · skip
    refine tz_iconst (n := 15) (g_at ck_X11_within 8 rfl) rfl ?_
    exact tz_bret (g_at ck_X11_within 9 rfl) rfl (by decide) (rI_mk ⟨rfl, hR, if_neg (by omega), rfl⟩)
  · skip
    refine tz_iload0 (n := 6) (g_at ck_X11_within 3 rfl) rfl ?_
    refine tz_iload2 (n := 7) (g_at ck_X11_within 4 rfl) rfl ?_
    refine tz_icmp_gt (n := 10) (tgt := 14) (g_at ck_X11_within 5 rfl) rfl rfl ⟨hv.1, hv.2, hb.1, hb.2⟩ (fun h7 => ?_) (fun h7 => ?_)
    · skip
      refine tz_iconst (n := 15) (g_at ck_X11_within 8 rfl) rfl ?_
      exact tz_bret (g_at ck_X11_within 9 rfl) rfl (by decide) (rI_mk ⟨rfl, hR, if_neg (by omega), rfl⟩)
    · skip
      refine tz_iconst (n := 11) (g_at ck_X11_within 6 rfl) rfl ?_
      refine tz_goto (tgt := 15) (g_at ck_X11_within 7 rfl) rfl ?_
      exact tz_bret (g_at ck_X11_within 9 rfl) rfl (by decide) (rI_mk ⟨rfl, hR, if_pos (by omega), rfl⟩)
theorem mp_bounded {l : Launch} {γ : Gh} {ρ m : Mm} {v : Int} (hR : MR m) (hv : -2147483648 ≤ v ∧ v < 2147483648) : gE l γ μX11_bounded 0 0 0 (rI KK fun x ρ9 m9 => ρ = ρ9 ∧ MR m9 ∧ clamp9 v = x ∧ m = m9) xN KK ρ m [vI v, vI 0, vI 9] := by
  refine gE.ofw cl_X11.2 ?_ rfl rfl (Nat.le_of_ble_eq_true rfl)
  show gT l γ μX11_bounded 0 0 0 _ _ KK ρ m 0 [some (vI v), some (vI 0), some (vI 9)] []
  refine tz_iload0 (n := 1) (g_at ck_X11_bounded 0 rfl) rfl ?_
  refine tz_iload1 (n := 2) (g_at ck_X11_bounded 1 rfl) rfl ?_
  refine tz_icmp_ge (n := 5) (tgt := 9) (g_at ck_X11_bounded 2 rfl) rfl rfl ⟨hv.1, hv.2, (by decide), (by decide)⟩ (fun h2 => ?_) (fun h2 => ?_)
  · skip
    refine tz_iload0 (n := 10) (g_at ck_X11_bounded 5 rfl) rfl ?_
    refine tz_iload2 (n := 11) (g_at ck_X11_bounded 6 rfl) rfl ?_
    refine tz_icmp_le (n := 14) (tgt := 18) (g_at ck_X11_bounded 7 rfl) rfl rfl ⟨hv.1, hv.2, (by decide), (by decide)⟩ (fun h11 => ?_) (fun h11 => ?_)
    · skip
      refine tz_iload0 (n := 19) (g_at ck_X11_bounded 10 rfl) rfl ?_
      exact tz_iret (g_at ck_X11_bounded 11 rfl) rfl (rI_mk ⟨rfl, hR, by unfold clamp9; rw [if_neg (by omega), if_neg (by omega)], rfl⟩)
    · skip
      refine tz_iload2 (n := 15) (g_at ck_X11_bounded 8 rfl) rfl ?_
      refine tz_goto (tgt := 19) (g_at ck_X11_bounded 9 rfl) rfl ?_
      exact tz_iret (g_at ck_X11_bounded 11 rfl) rfl (rI_mk ⟨rfl, hR, by unfold clamp9; rw [if_neg (by omega), if_pos (by omega)], rfl⟩)
  · skip
    refine tz_iload1 (n := 6) (g_at ck_X11_bounded 3 rfl) rfl ?_
    refine tz_goto (tgt := 19) (g_at ck_X11_bounded 4 rfl) rfl ?_
    exact tz_iret (g_at ck_X11_bounded 11 rfl) rfl (rI_mk ⟨rfl, hR, by unfold clamp9; rw [if_pos (by omega)], rfl⟩)
def lesF (a b : Int) : Int := if a < b then a else b
theorem mp_lesser {l : Launch} {γ : Gh} {ρ m : Mm} {a b : Int} (hR : MR m) (ha : -2147483648 ≤ a ∧ a < 2147483648) (hb : -2147483648 ≤ b ∧ b < 2147483648) : gE l γ μX11_lesser 0 0 0 (rI KK fun x ρ9 m9 => ρ = ρ9 ∧ MR m9 ∧ lesF a b = x ∧ m = m9) xN KK ρ m [vI a, vI b] := by
  refine gE.ofw cl_X11.2 ?_ rfl rfl (Nat.le_of_ble_eq_true rfl)
  show gT l γ μX11_lesser 0 0 0 _ _ KK ρ m 0 [some (vI a), some (vI b)] []
  refine tz_iload0 (n := 1) (g_at ck_X11_lesser 0 rfl) rfl ?_
  refine tz_iload1 (n := 2) (g_at ck_X11_lesser 1 rfl) rfl ?_
  refine tz_icmp_ge (n := 5) (tgt := 9) (g_at ck_X11_lesser 2 rfl) rfl rfl ⟨ha.1, ha.2, hb.1, hb.2⟩ (fun h2 => ?_) (fun h2 => ?_)
  · skip
    refine tz_iload1 (n := 10) (g_at ck_X11_lesser 5 rfl) rfl ?_
    exact tz_iret (g_at ck_X11_lesser 6 rfl) rfl (rI_mk ⟨rfl, hR, if_neg (by omega), rfl⟩)
  · skip
    refine tz_iload0 (n := 6) (g_at ck_X11_lesser 3 rfl) rfl ?_
    refine tz_goto (tgt := 10) (g_at ck_X11_lesser 4 rfl) rfl ?_
    exact tz_iret (g_at ck_X11_lesser 6 rfl) rfl (rI_mk ⟨rfl, hR, if_pos (by omega), rfl⟩)
theorem mp_bits {l : Launch} {γ : Gh} {ρ m : Mm} {v : Int} (hR : MR m) : gE l γ μX11_bits 0 0 0 (rI KK fun x ρ9 m9 => ρ = ρ9 ∧ MR m9 ∧ bitsM v = x ∧ m = m9) xN KK ρ m [vI v] := by
  refine gE.ofw cl_X11.2 ?_ rfl rfl (Nat.le_of_ble_eq_true rfl)
  show gT l γ μX11_bits 0 0 0 _ _ KK ρ m 0 [some (vI v), none, none] []
  refine tz_iconst (n := 1) (g_at ck_X11_bits 0 rfl) rfl ?_
  refine tz_istore1 (n := 2) (g_at ck_X11_bits 1 rfl) rfl (by decide) g_hpI ?_
  refine tz_iconst (n := 3) (g_at ck_X11_bits 2 rfl) rfl ?_
  refine tz_istore2 (n := 4) (g_at ck_X11_bits 3 rfl) rfl (by decide) g_hpI ?_
  refine g_for (fun i : Nat => gT l γ μX11_bits 0 0 0 _ _ KK ρ m 4 [some (vI v), some (vI (bitsMn v i)), some (vI (i : Int))] []) 9 ?_ (fun i hi ihi => ?_) 0 (Nat.zero_le _)
  · skip
    refine tz_iload2 (n := 5) (g_at ck_X11_bits 4 rfl) rfl ?_
    refine tz_bipush (n := 7) (g_at ck_X11_bits 5 rfl) rfl rfl ?_
    refine tz_icmp_ge (n := 10) (tgt := 24) (g_at ck_X11_bits 6 rfl) rfl rfl ⟨(by omega), (by omega), (by decide), (by decide)⟩ (fun h7 => ?_) (fun h7 => absurd h7 (by omega))
    refine tz_iload1 (n := 25) (g_at ck_X11_bits 17 rfl) rfl ?_
    exact tz_iret (g_at ck_X11_bits 18 rfl) rfl (rI_mk ⟨rfl, hR, rfl, rfl⟩)
  · skip
    refine tz_iload2 (n := 5) (g_at ck_X11_bits 4 rfl) rfl ?_
    refine tz_bipush (n := 7) (g_at ck_X11_bits 5 rfl) rfl rfl ?_
    refine tz_icmp_ge (n := 10) (tgt := 24) (g_at ck_X11_bits 6 rfl) rfl rfl ⟨(by omega), (by omega), (by decide), (by decide)⟩ (fun h7 => absurd h7 (by omega)) (fun h7 => ?_)
    refine tz_iload1 (n := 11) (g_at ck_X11_bits 7 rfl) rfl ?_
    refine tz_iload0 (n := 12) (g_at ck_X11_bits 8 rfl) rfl ?_
    refine tz_iload2 (n := 13) (g_at ck_X11_bits 9 rfl) rfl ?_
    refine tz_ishr (n := 14) (g_at ck_X11_bits 10 rfl) rfl ?_
    refine tz_iconst (n := 15) (g_at ck_X11_bits 11 rfl) rfl ?_
    refine tz_iand (n := 16) (g_at ck_X11_bits 12 rfl) rfl ?_
    refine tz_iadd (n := 17) (g_at ck_X11_bits 13 rfl) rfl ?_
    refine tz_istore1 (n := 18) (g_at ck_X11_bits 14 rfl) rfl (by decide) g_hpI ?_
    refine tz_iinc2 (n := 21) (g_at ck_X11_bits 15 rfl) rfl (by decide) g_hpI ?_
    refine tz_goto (tgt := 4) (g_at ck_X11_bits 16 rfl) rfl ?_
    exact ihi
def wkJ (o a b : Int) : Int := if o = 4 then (if a ≠ 0 ∧ b ≠ 0 then 1 else 0) else if o = 5 then (if a ≠ 0 ∨ b ≠ 0 then 1 else 0) else if o = 6 then (if a < b then 1 else 0) else if o = 7 then (if a = b then 1 else 0) else if o = 8 then w32 (a + b) else if o = 9 then w32 (a - b) else if o = 10 then w32 (a * b) else if b = 0 then 0 else bDiv a b
theorem wkJ_j {c a b : Int} (h : c < -5 ∧ c ≠ -8 ∧ -14 ≤ c) : wkJ (opE c) a b = joinF c a b := by
  have hc : c = -6 ∨ c = -7 ∨ c = -9 ∨ c = -10 ∨ c = -11 ∨ c = -12 ∨ c = -13 ∨ c = -14 := by omega
  rcases hc with rfl | rfl | rfl | rfl | rfl | rfl | rfl | rfl <;> rfl
theorem mp_works {l : Launch} {γ : Gh} {ρ m : Mm} {o a b : Int} (hR : MR m) (ho : -2147483648 ≤ o ∧ o < 2147483648) (ha : -2147483648 ≤ a ∧ a < 2147483648) (hb : -2147483648 ≤ b ∧ b < 2147483648) : gE l γ μX11_works 0 0 0 (rI KK fun x ρ9 m9 => ρ = ρ9 ∧ MR m9 ∧ wkJ o a b = x ∧ m = m9) xN KK ρ m [vI o, vI a, vI b] := by
  refine gE.ofw cl_X11.2 ?_ rfl rfl (Nat.le_of_ble_eq_true rfl)
  show gT l γ μX11_works 0 0 0 _ _ KK ρ m 0 [some (vI o), some (vI a), some (vI b)] []
  refine tz_iload0 (n := 1) (g_at ck_X11_works 0 rfl) rfl ?_
  by_cases hk1_4 : o = 4
  · skip
    refine tz_tableIn (tgt := 44) (g_at ck_X11_works 1 rfl) ⟨ho.1, ho.2⟩ (by omega) (by omega) (by rw [hk1_4]; rfl) rfl ?_
    refine tz_iload1 (n := 45) (g_at ck_X11_works 2 rfl) rfl ?_
    refine tz_if_eq (n := 48) (tgt := 56) (g_at ck_X11_works 3 rfl) rfl rfl ⟨ha.1, ha.2⟩ (fun h45 => ?_) (fun h45 => ?_)
    · skip
      refine tz_iconst (n := 57) (g_at ck_X11_works 8 rfl) rfl ?_
      exact tz_iret (g_at ck_X11_works 9 rfl) rfl (rI_mk ⟨rfl, hR, by simp_all [wkJ], rfl⟩)
    · skip
      refine tz_iload2 (n := 49) (g_at ck_X11_works 4 rfl) rfl ?_
      refine tz_if_eq (n := 52) (tgt := 56) (g_at ck_X11_works 5 rfl) rfl rfl ⟨hb.1, hb.2⟩ (fun h49 => ?_) (fun h49 => ?_)
      · skip
        refine tz_iconst (n := 57) (g_at ck_X11_works 8 rfl) rfl ?_
        exact tz_iret (g_at ck_X11_works 9 rfl) rfl (rI_mk ⟨rfl, hR, by simp_all [wkJ], rfl⟩)
      · skip
        refine tz_iconst (n := 53) (g_at ck_X11_works 6 rfl) rfl ?_
        refine tz_goto (tgt := 57) (g_at ck_X11_works 7 rfl) rfl ?_
        exact tz_iret (g_at ck_X11_works 9 rfl) rfl (rI_mk ⟨rfl, hR, by simp_all [wkJ], rfl⟩)
  by_cases hk1_5 : o = 5
  · skip
    refine tz_tableIn (tgt := 58) (g_at ck_X11_works 1 rfl) ⟨ho.1, ho.2⟩ (by omega) (by omega) (by rw [hk1_5]; rfl) rfl ?_
    refine tz_iload1 (n := 59) (g_at ck_X11_works 10 rfl) rfl ?_
    refine tz_if_ne (n := 62) (tgt := 66) (g_at ck_X11_works 11 rfl) rfl rfl ⟨ha.1, ha.2⟩ (fun h59 => ?_) (fun h59 => ?_)
    · skip
      refine tz_iconst (n := 67) (g_at ck_X11_works 14 rfl) rfl ?_
      refine tz_goto (tgt := 71) (g_at ck_X11_works 15 rfl) rfl ?_
      exact tz_iret (g_at ck_X11_works 17 rfl) rfl (rI_mk ⟨rfl, hR, by simp_all [wkJ], rfl⟩)
    · skip
      refine tz_iload2 (n := 63) (g_at ck_X11_works 12 rfl) rfl ?_
      refine tz_if_eq (n := 66) (tgt := 70) (g_at ck_X11_works 13 rfl) rfl rfl ⟨hb.1, hb.2⟩ (fun h63 => ?_) (fun h63 => ?_)
      · skip
        refine tz_iconst (n := 71) (g_at ck_X11_works 16 rfl) rfl ?_
        exact tz_iret (g_at ck_X11_works 17 rfl) rfl (rI_mk ⟨rfl, hR, by simp_all [wkJ], rfl⟩)
      · skip
        refine tz_iconst (n := 67) (g_at ck_X11_works 14 rfl) rfl ?_
        refine tz_goto (tgt := 71) (g_at ck_X11_works 15 rfl) rfl ?_
        exact tz_iret (g_at ck_X11_works 17 rfl) rfl (rI_mk ⟨rfl, hR, by simp_all [wkJ], rfl⟩)
  by_cases hk1_6 : o = 6
  · skip
    refine tz_tableIn (tgt := 72) (g_at ck_X11_works 1 rfl) ⟨ho.1, ho.2⟩ (by omega) (by omega) (by rw [hk1_6]; rfl) rfl ?_
    refine tz_iload1 (n := 73) (g_at ck_X11_works 18 rfl) rfl ?_
    refine tz_iload2 (n := 74) (g_at ck_X11_works 19 rfl) rfl ?_
    refine tz_icmp_ge (n := 77) (tgt := 81) (g_at ck_X11_works 20 rfl) rfl rfl ⟨ha.1, ha.2, hb.1, hb.2⟩ (fun h74 => ?_) (fun h74 => ?_)
    · skip
      refine tz_iconst (n := 82) (g_at ck_X11_works 23 rfl) rfl ?_
      exact tz_iret (g_at ck_X11_works 24 rfl) rfl (rI_mk ⟨rfl, hR, by simp_all [wkJ], rfl⟩)
    · skip
      refine tz_iconst (n := 78) (g_at ck_X11_works 21 rfl) rfl ?_
      refine tz_goto (tgt := 82) (g_at ck_X11_works 22 rfl) rfl ?_
      exact tz_iret (g_at ck_X11_works 24 rfl) rfl (rI_mk ⟨rfl, hR, by simp_all [wkJ], rfl⟩)
  by_cases hk1_7 : o = 7
  · skip
    refine tz_tableIn (tgt := 83) (g_at ck_X11_works 1 rfl) ⟨ho.1, ho.2⟩ (by omega) (by omega) (by rw [hk1_7]; rfl) rfl ?_
    refine tz_iload1 (n := 84) (g_at ck_X11_works 25 rfl) rfl ?_
    refine tz_iload2 (n := 85) (g_at ck_X11_works 26 rfl) rfl ?_
    refine tz_icmp_ne (n := 88) (tgt := 92) (g_at ck_X11_works 27 rfl) rfl rfl ⟨ha.1, ha.2, hb.1, hb.2⟩ (fun h85 => ?_) (fun h85 => ?_)
    · skip
      refine tz_iconst (n := 93) (g_at ck_X11_works 30 rfl) rfl ?_
      exact tz_iret (g_at ck_X11_works 31 rfl) rfl (rI_mk ⟨rfl, hR, by simp_all [wkJ], rfl⟩)
    · skip
      refine tz_iconst (n := 89) (g_at ck_X11_works 28 rfl) rfl ?_
      refine tz_goto (tgt := 93) (g_at ck_X11_works 29 rfl) rfl ?_
      exact tz_iret (g_at ck_X11_works 31 rfl) rfl (rI_mk ⟨rfl, hR, by simp_all [wkJ], rfl⟩)
  by_cases hk1_8 : o = 8
  · skip
    refine tz_tableIn (tgt := 94) (g_at ck_X11_works 1 rfl) ⟨ho.1, ho.2⟩ (by omega) (by omega) (by rw [hk1_8]; rfl) rfl ?_
    refine tz_iload1 (n := 95) (g_at ck_X11_works 32 rfl) rfl ?_
    refine tz_iload2 (n := 96) (g_at ck_X11_works 33 rfl) rfl ?_
    refine tz_iadd (n := 97) (g_at ck_X11_works 34 rfl) rfl ?_
    refine tz_wrap ?_
    exact tz_iret (g_at ck_X11_works 35 rfl) rfl (rI_mk ⟨rfl, hR, by simp_all [wkJ], rfl⟩)
  by_cases hk1_9 : o = 9
  · skip
    refine tz_tableIn (tgt := 98) (g_at ck_X11_works 1 rfl) ⟨ho.1, ho.2⟩ (by omega) (by omega) (by rw [hk1_9]; rfl) rfl ?_
    refine tz_iload1 (n := 99) (g_at ck_X11_works 36 rfl) rfl ?_
    refine tz_iload2 (n := 100) (g_at ck_X11_works 37 rfl) rfl ?_
    refine tz_isub (n := 101) (g_at ck_X11_works 38 rfl) rfl ?_
    refine tz_wrap ?_
    exact tz_iret (g_at ck_X11_works 39 rfl) rfl (rI_mk ⟨rfl, hR, by simp_all [wkJ], rfl⟩)
  by_cases hk1_10 : o = 10
  · skip
    refine tz_tableIn (tgt := 102) (g_at ck_X11_works 1 rfl) ⟨ho.1, ho.2⟩ (by omega) (by omega) (by rw [hk1_10]; rfl) rfl ?_
    refine tz_iload1 (n := 103) (g_at ck_X11_works 40 rfl) rfl ?_
    refine tz_iload2 (n := 104) (g_at ck_X11_works 41 rfl) rfl ?_
    refine tz_imul (n := 105) (g_at ck_X11_works 42 rfl) rfl ?_
    refine tz_wrap ?_
    exact tz_iret (g_at ck_X11_works 43 rfl) rfl (rI_mk ⟨rfl, hR, by simp_all [wkJ], rfl⟩)
  refine tz_tableOut (tgt := 106) (g_at ck_X11_works 1 rfl) ⟨ho.1, ho.2⟩ (by omega) rfl ?_
  refine tz_iload2 (n := 107) (g_at ck_X11_works 44 rfl) rfl ?_
  refine tz_if_ne (n := 110) (tgt := 114) (g_at ck_X11_works 45 rfl) rfl rfl ⟨hb.1, hb.2⟩ (fun h107 => ?_) (fun h107 => ?_)
  · skip
    refine tz_iload1 (n := 115) (g_at ck_X11_works 48 rfl) rfl ?_
    refine tz_iload2 (n := 116) (g_at ck_X11_works 49 rfl) rfl ?_
    refine tz_idiv (n := 117) (g_at ck_X11_works 50 rfl) rfl (by omega) ?_
    exact tz_iret (g_at ck_X11_works 51 rfl) rfl (rI_mk ⟨rfl, hR, by simp_all [wkJ], rfl⟩)
  · skip
    refine tz_iconst (n := 111) (g_at ck_X11_works 46 rfl) rfl ?_
    refine tz_goto (tgt := 117) (g_at ck_X11_works 47 rfl) rfl ?_
    exact tz_iret (g_at ck_X11_works 51 rfl) rfl (rI_mk ⟨rfl, hR, by simp_all [wkJ], rfl⟩)
theorem wkJ_rg (o a b : Int) : -2147483648 ≤ wkJ o a b ∧ wkJ o a b < 2147483648 := by
  unfold wkJ
  repeat' split
  all_goals first | exact w32_rg _ | exact bDiv_rg _ _ | decide
theorem len1 (l : List Int) (h : 1 ≤ l.length) : ∃ x r, l = x :: r := by
  match l, h with
  | x :: r, _ => exact ⟨x, r, rfl⟩
theorem len2 (l : List Int) (h : 2 ≤ l.length) : ∃ b a r, l = b :: a :: r := by
  match l, h with
  | b :: a :: r, _ => exact ⟨b, a, r, rfl⟩
theorem okL_h {c : Int} {r : List Int} {d : Nat} (h : okL (c :: r) d) : (c < -5 → c = -8 → 1 ≤ d) ∧ (c < -5 → c ≠ -8 → 2 ≤ d) ∧ (¬ c < -5 → d < 40) := by
  unfold okL at h
  refine ⟨fun h1 h2 => ?_, fun h1 h2 => ?_, fun h1 => ?_⟩
  · rw [if_pos h1, if_pos h2] at h; exact h.1
  · rw [if_pos h1, if_neg h2] at h; exact h.1
  · rw [if_neg h1] at h; exact h.1
theorem okL_41 {L : List Int} {V : Int → Int} (ho : okL L 0) : ∀ j : Nat, j ≤ L.length → (evS (L.take j) V).length ≤ 40
  | 0, _ => by show (0 : Nat) ≤ 40; decide
  | j + 1, h => by
    have ih := okL_41 (V := V) ho j (by omega)
    have k := okL_d (V := V) ho j (by omega)
    rw [List.drop_eq_getElem_cons (by omega)] at k
    have k2 := (okL_h k).2.2
    have e : L[j] = L.getD j 0 := by rw [List.getD_eq_getElem?_getD, List.getElem?_eq_getElem (by omega)]; rfl
    rw [evS_s (by omega), ← e]
    generalize evS (L.take j) V = st at ih k2 ⊢
    unfold stepL
    by_cases h1 : L[j] < -5
    · rw [if_pos h1]
      split
      · match st, ih with
        | [], ih => exact ih
        | x :: r, ih => exact ih
      · match st, ih with
        | [], ih => exact ih
        | [x], ih => exact ih
        | b :: a :: r, ih =>
          show (r.length + 1) ≤ 40
          have : (b :: a :: r).length = r.length + 2 := rfl
          omega
    · rw [if_neg h1, List.length_cons]
      have := k2 h1
      omega
theorem mp_reckons {l : Launch} {γ : Gh} {ρ m : Mm} {a : Int} {L : List Int} {V : Int → Int} (hL : LY ρ) (hR : MR m) (hC : CodeC m a L) (hW : RW L) (hne : L ≠ []) (hV : ∀ k, 0 ≤ k → k < 5 → m 108 k = V k) : gE l γ μX11_reckons 1 0 0 (rI KK fun x ρ9 m9 => ρ = ρ9 ∧ MR m9 ∧ evC L V = x ∧ Fr [109] m m9 ∧ (-2147483648 ≤ x ∧ x < 2147483648)) xN KK ρ m [vR 84, vI a] := by
  refine gE.ofw cl_X11.2 ?_ rfl rfl (Nat.le_of_ble_eq_true rfl)
  show gT l γ μX11_reckons 1 0 0 _ _ KK ρ m 0 [some (vR 84), some (vI a), none, none, none] []
  have ho := hW.1 hne
  have hoN := offL_0 (L := L) L.length
  have ha0 := hC.2.2
  refine tz_iconst (n := 1) (g_at ck_X11_reckons 0 rfl) rfl ?_
  refine tz_istore2 (n := 2) (g_at ck_X11_reckons 1 rfl) rfl (by decide) g_hpI ?_
  refine tz_iload1 (n := 3) (g_at ck_X11_reckons 2 rfl) rfl ?_
  refine tz_istore3 (n := 4) (g_at ck_X11_reckons 3 rfl) rfl (by decide) g_hpI ?_
  suffices hlp : ∀ i : Nat, i ≤ L.length → ∀ m1 : Mm, (MR m1 ∧ Fr [109] m m1 ∧ simL (m1 109) (evS (L.take i) V)) → gT l γ μX11_reckons 1 0 0 _ _ KK ρ m1 4 [some (vR 84), some (vI a), some (vI ((evS (L.take i) V).length : Int)), some (vI (a + offL L i)), none] [] by
    have h0 := hlp 0 (Nat.zero_le _)
    rw [show a + offL L 0 = a from Int.add_zero a] at h0
    exact h0 _ ⟨hR, Fr.rf, trivial⟩
  refine g_for (fun i : Nat => ∀ m1 : Mm, (MR m1 ∧ Fr [109] m m1 ∧ simL (m1 109) (evS (L.take i) V)) → gT l γ μX11_reckons 1 0 0 _ _ KK ρ m1 4 [some (vR 84), some (vI a), some (vI ((evS (L.take i) V).length : Int)), some (vI (a + offL L i)), none] []) L.length ?_ (fun i hi ihi => ?_)
  · intro m1 hinv
    obtain ⟨hR1, hF1, hs1⟩ := hinv
    have h90 : m1 90 = m 90 := hF1 90 (by decide)
    have hz := hC.2.1
    have hd9 := okL_d (V := V) ho L.length (Nat.le_refl _)
    rw [List.drop_length, List.take_length] at hd9
    rw [List.take_length] at hs1
    obtain ⟨x9, r9, es⟩ := len1 (evS L V) (by rw [show (evS L V).length = 1 from hd9]; decide)
    have hr9 : r9 = [] := by rw [es] at hd9; exact List.length_eq_zero_iff.mp (Nat.succ.inj hd9)
    have hx0 : evC L V = m1 109 0 := by rw [es, hr9] at hs1; unfold evC; rw [es]; exact hs1.1.symm
    refine tz_aload0 (n := 5) (g_at ck_X11_reckons 4 rfl) rfl (g_ne kd_84) ?_
    refine tz_getAv (n := 8) (a := 90) fk_X11_32 kd_84 (ly_84_10 hL) (g_at ck_X11_reckons 5 rfl) rfl ?_
    refine tz_iload3 (n := 9) (g_at ck_X11_reckons 6 rfl) rfl ?_
    refine tz_iald (n := 10) kd_90 (by omega) (g_at ck_X11_reckons 7 rfl) rfl ?_
    rw [h90, hz]
    refine tz_if_eq (n := 13) (tgt := 143) (g_at ck_X11_reckons 8 rfl) rfl rfl (by omega) (fun h10 => ?_) (fun h10 => absurd h10 (by omega))
    refine tz_aload0 (n := 144) (g_at ck_X11_reckons 83 rfl) rfl (g_ne kd_84) ?_
    refine tz_getAv (n := 147) (a := 109) fk_X11_93 kd_84 (ly_84_50 hL) (g_at ck_X11_reckons 84 rfl) rfl ?_
    refine tz_iconst (n := 148) (g_at ck_X11_reckons 85 rfl) rfl ?_
    refine tz_iald (n := 149) kd_109 (by omega) (g_at ck_X11_reckons 86 rfl) rfl ?_
    exact tz_iret (g_at ck_X11_reckons 87 rfl) rfl (rI_mk ⟨rfl, hR1, hx0, hF1, hR1 _ _⟩)
  · intro m1 hinv
    obtain ⟨hR1, hF1, hs1⟩ := hinv
    have h90 : m1 90 = m 90 := hF1 90 (by decide)
    have h108 : m1 108 = m 108 := hF1 108 (by decide)
    have hci := hC.1 i hi
    have hof := offL_le (L := L) (j := i + 1) (k := L.length) (by omega)
    rw [offL_s] at hof
    have hof0 := offL_0 (L := L) i
    have hcr := hW.2 (L.getD i 0) (by rw [List.getD_eq_getElem?_getD, List.getElem?_eq_getElem hi]; exact List.getElem_mem hi)
    have hop := opE_c (c := (L.getD i 0)) hcr.1
    have hk := okL_d (V := V) ho i (by omega)
    rw [List.drop_eq_getElem_cons hi] at hk
    have hkh := okL_h hk
    have hge : L[i] = (L.getD i 0) := by rw [List.getD_eq_getElem?_getD, List.getElem?_eq_getElem hi]; rfl
    rw [hge] at hkh
    have h41 := okL_41 (V := V) ho i (by omega)
    have hlt2 : a + offL L i + 1 ≤ a + offL L L.length := by split at hof <;> omega
    have hlen : ((evS (L.take i) V).length : Int) = ((evS (L.take i) V).length : Int) := rfl
    refine tz_aload0 (n := 5) (g_at ck_X11_reckons 4 rfl) rfl (g_ne kd_84) ?_
    refine tz_getAv (n := 8) (a := 90) fk_X11_32 kd_84 (ly_84_10 hL) (g_at ck_X11_reckons 5 rfl) rfl ?_
    refine tz_iload3 (n := 9) (g_at ck_X11_reckons 6 rfl) rfl ?_
    refine tz_iald (n := 10) kd_90 (by omega) (g_at ck_X11_reckons 7 rfl) rfl ?_
    rw [h90, hci.1]
    refine tz_if_eq (n := 13) (tgt := 143) (g_at ck_X11_reckons 8 rfl) rfl rfl (by omega) (fun h10 => absurd h10 (by omega)) (fun h10 => ?_)
    refine tz_aload0 (n := 14) (g_at ck_X11_reckons 9 rfl) rfl (g_ne kd_84) ?_
    refine tz_getAv (n := 17) (a := 90) fk_X11_32 kd_84 (ly_84_10 hL) (g_at ck_X11_reckons 10 rfl) rfl ?_
    refine tz_iload3 (n := 18) (g_at ck_X11_reckons 11 rfl) rfl ?_
    refine tz_iald (n := 19) kd_90 (by omega) (g_at ck_X11_reckons 12 rfl) rfl ?_
    rw [h90, hci.1]
    refine tz_istore4 (n := 21) (g_at ck_X11_reckons 13 rfl) rfl (by decide) g_hpI ?_
    refine tz_iinc3 (n := 24) (g_at ck_X11_reckons 14 rfl) rfl (by decide) g_hpI ?_
    refine tz_iload4 (n := 26) (g_at ck_X11_reckons 15 rfl) rfl ?_
    refine tz_iconst (n := 27) (g_at ck_X11_reckons 16 rfl) rfl ?_
    refine tz_icmp_eq (n := 30) (tgt := 36) (g_at ck_X11_reckons 17 rfl) rfl rfl ⟨by omega, by omega, by decide, by decide⟩ (fun h27 => ?_) (fun h27 => ?_)
    · skip
      refine tz_aload0 (n := 37) (g_at ck_X11_reckons 21 rfl) rfl (g_ne kd_84) ?_
      refine tz_getAv (n := 40) (a := 109) fk_X11_93 kd_84 (ly_84_50 hL) (g_at ck_X11_reckons 22 rfl) rfl ?_
      refine tz_iload2 (n := 41) (g_at ck_X11_reckons 23 rfl) rfl ?_
      refine tz_iload4 (n := 43) (g_at ck_X11_reckons 24 rfl) rfl ?_
      refine tz_iconst (n := 44) (g_at ck_X11_reckons 25 rfl) rfl ?_
      refine tz_icmp_ne (n := 47) (tgt := 56) (g_at ck_X11_reckons 26 rfl) rfl rfl ⟨by omega, by omega, by decide, by decide⟩ (fun h44 => absurd h44 (by omega)) (fun h44 => ?_)
      refine tz_aload0 (n := 48) (g_at ck_X11_reckons 27 rfl) rfl (g_ne kd_84) ?_
      refine tz_getAv (n := 51) (a := 90) fk_X11_32 kd_84 (ly_84_10 hL) (g_at ck_X11_reckons 28 rfl) rfl ?_
      refine tz_iload3 (n := 52) (g_at ck_X11_reckons 29 rfl) rfl ?_
      refine tz_iald (n := 53) kd_90 (by omega) (g_at ck_X11_reckons 30 rfl) rfl ?_
      rw [h90, (hci.2 (by omega)), if_pos (by omega)]
      refine tz_goto (tgt := 67) (g_at ck_X11_reckons 31 rfl) rfl ?_
      refine tz_iastr (n := 68) kd_109 (by omega) (g_at ck_X11_reckons 39 rfl) rfl hR1 (by first | omega | (rw [← hV (-1 - (L.getD i 0)) (by omega) (by omega)]; exact hR _ _)) (fun hR1 => ?_)
      refine tz_iinc3 (n := 71) (g_at ck_X11_reckons 40 rfl) rfl (by decide) g_hpI ?_
      refine tz_iinc2 (n := 74) (g_at ck_X11_reckons 41 rfl) rfl (by decide) g_hpI ?_
      refine tz_goto (tgt := 140) (g_at ck_X11_reckons 42 rfl) rfl ?_
      refine tz_goto (tgt := 4) (g_at ck_X11_reckons 82 rfl) rfl ?_
      refine tz_drop4 ?_
      have e8 : stepL (L.getD i 0) V (evS (L.take i) V) = (L.getD i 0) :: (evS (L.take i) V) := by unfold stepL; rw [if_neg (by omega), if_neg (by omega)]
      have e9 := evS_s (V := V) (L := L) (j := i) hi
      rw [e8] at e9
      have e7 : offL L (i + 1) = offL L i + 2 := by rw [offL_s, if_pos (by omega)]
      refine gT_eq (ihi _ ⟨hR1, hF1.wr (by decide), by rw [e9, wr_eq, upA_at]; exact simL_push hs1⟩) rfl ?_
      rw [e9, e7, List.length_cons, show ((((evS (L.take i) V).length + 1 : Nat)) : Int) = ((evS (L.take i) V).length : Int) + 1 from rfl, show a + (offL L i + 2) = a + offL L i + 1 + 1 by omega]
    · skip
      refine tz_iload4 (n := 32) (g_at ck_X11_reckons 18 rfl) rfl ?_
      refine tz_iconst (n := 33) (g_at ck_X11_reckons 19 rfl) rfl ?_
      refine tz_icmp_ne (n := 36) (tgt := 77) (g_at ck_X11_reckons 20 rfl) rfl rfl ⟨by omega, by omega, by decide, by decide⟩ (fun h33 => ?_) (fun h33 => ?_)
      · skip
        refine tz_iload4 (n := 79) (g_at ck_X11_reckons 43 rfl) rfl ?_
        refine tz_iconst (n := 80) (g_at ck_X11_reckons 44 rfl) rfl ?_
        refine tz_icmp_ne (n := 83) (tgt := 110) (g_at ck_X11_reckons 45 rfl) rfl rfl ⟨by omega, by omega, by decide, by decide⟩ (fun h80 => ?_) (fun h80 => ?_)
        · skip
          have hd2 : 2 ≤ (evS (L.take i) V).length := hkh.2.1 (by omega) (by omega)
          obtain ⟨b9, a9, r9, es⟩ := len2 (evS (L.take i) V) hd2
          have hlen : ((evS (L.take i) V).length : Int) = (r9.length : Int) + 2 := by rw [es]; rfl
          have hx2 : m1 109 ((r9.length : Int) + 1) = b9 := by rw [es] at hs1; exact hs1.1
          have hx1 : m1 109 (r9.length : Int) = a9 := by rw [es] at hs1; exact hs1.2.1
          have hs2 : simL (m1 109) r9 := by rw [es] at hs1; exact hs1.2.2
          rw [hlen]
          refine tz_iinc2 (n := 113) (g_at ck_X11_reckons 63 rfl) rfl (by decide) g_hpI ?_
          rw [show (r9.length : Int) + 2 + -1 = (r9.length : Int) + 1 by omega]
          refine tz_aload0 (n := 114) (g_at ck_X11_reckons 64 rfl) rfl (g_ne kd_84) ?_
          refine tz_getAv (n := 117) (a := 109) fk_X11_93 kd_84 (ly_84_50 hL) (g_at ck_X11_reckons 65 rfl) rfl ?_
          refine tz_iload2 (n := 118) (g_at ck_X11_reckons 66 rfl) rfl ?_
          refine tz_iconst (n := 119) (g_at ck_X11_reckons 67 rfl) rfl ?_
          refine tz_isub (n := 120) (g_at ck_X11_reckons 68 rfl) rfl ?_
          rw [show (r9.length : Int) + 1 - 1 = r9.length by omega]
          refine tz_iload4 (n := 122) (g_at ck_X11_reckons 69 rfl) rfl ?_
          refine tz_aload0 (n := 123) (g_at ck_X11_reckons 70 rfl) rfl (g_ne kd_84) ?_
          refine tz_getAv (n := 126) (a := 109) fk_X11_93 kd_84 (ly_84_50 hL) (g_at ck_X11_reckons 71 rfl) rfl ?_
          refine tz_iload2 (n := 127) (g_at ck_X11_reckons 72 rfl) rfl ?_
          refine tz_iconst (n := 128) (g_at ck_X11_reckons 73 rfl) rfl ?_
          refine tz_isub (n := 129) (g_at ck_X11_reckons 74 rfl) rfl ?_
          rw [show (r9.length : Int) + 1 - 1 = r9.length by omega]
          refine tz_iald (n := 130) kd_109 (by omega) (g_at ck_X11_reckons 75 rfl) rfl ?_
          refine tz_aload0 (n := 131) (g_at ck_X11_reckons 76 rfl) rfl (g_ne kd_84) ?_
          refine tz_getAv (n := 134) (a := 109) fk_X11_93 kd_84 (ly_84_50 hL) (g_at ck_X11_reckons 77 rfl) rfl ?_
          refine tz_iload2 (n := 135) (g_at ck_X11_reckons 78 rfl) rfl ?_
          refine tz_iald (n := 136) kd_109 (by omega) (g_at ck_X11_reckons 79 rfl) rfl ?_
          refine tz_csI3 (n := 139) (μ' := μX11_works) (cb' := 0) (sb' := 0) ml_X11_322 mo_X11_works ms_X11_works np_X11_works (g_at ck_X11_reckons 80 rfl) (mp_works hR1 (by omega) (hR1 _ _) (hR1 _ _)) rfl rfl ⟨by decide, by decide⟩ (Nat.le_of_ble_eq_true rfl) (by decide) (by decide) (fun x136 ρ9 m136 hq => ?_)
          obtain ⟨rfl, hR2, rfl, rfl⟩ := hq
          refine tz_iastr (n := 140) kd_109 (by omega) (g_at ck_X11_reckons 81 rfl) rfl hR2 ⟨(wkJ_rg _ _ _).1, (wkJ_rg _ _ _).2⟩ (fun hR3 => ?_)
          refine tz_goto (tgt := 4) (g_at ck_X11_reckons 82 rfl) rfl ?_
          refine tz_drop4 ?_
          have e8 : stepL (L.getD i 0) V (evS (L.take i) V) = wkJ (opE (L.getD i 0)) (m1 109 (r9.length : Int)) (m1 109 ((r9.length : Int) + 1)) :: r9 := by unfold stepL; rw [if_pos (by omega), if_neg (by omega), es, wkJ_j ⟨by omega, by omega, by omega⟩, hx1, hx2]
          have e7 : offL L (i + 1) = offL L i + 1 := by rw [offL_s, if_neg (by omega)]
          have e9 := evS_s (V := V) (L := L) (j := i) hi
          rw [e8] at e9
          refine gT_eq (ihi _ ⟨hR3, hF1.wr (by decide), by rw [e9, wr_eq, upA_at]; exact simL_push hs2⟩) rfl ?_
          rw [e9, e7, List.length_cons, show a + (offL L i + 1) = a + offL L i + 1 by omega]
          rfl
        · skip
          have hd1 : 1 ≤ (evS (L.take i) V).length := hkh.1 (by omega) (by omega)
          obtain ⟨x9, r9, es⟩ := len1 (evS (L.take i) V) hd1
          have hlen : ((evS (L.take i) V).length : Int) = (r9.length : Int) + 1 := by rw [es]; rfl
          have hx1 : m1 109 (r9.length : Int) = x9 := by rw [es] at hs1; exact hs1.1
          have hs2 : simL (m1 109) r9 := by rw [es] at hs1; exact hs1.2
          rw [hlen]
          refine tz_aload0 (n := 84) (g_at ck_X11_reckons 46 rfl) rfl (g_ne kd_84) ?_
          refine tz_getAv (n := 87) (a := 109) fk_X11_93 kd_84 (ly_84_50 hL) (g_at ck_X11_reckons 47 rfl) rfl ?_
          refine tz_iload2 (n := 88) (g_at ck_X11_reckons 48 rfl) rfl ?_
          refine tz_iconst (n := 89) (g_at ck_X11_reckons 49 rfl) rfl ?_
          refine tz_isub (n := 90) (g_at ck_X11_reckons 50 rfl) rfl ?_
          rw [show (r9.length : Int) + 1 - 1 = r9.length by omega]
          refine tz_aload0 (n := 91) (g_at ck_X11_reckons 51 rfl) rfl (g_ne kd_84) ?_
          refine tz_getAv (n := 94) (a := 109) fk_X11_93 kd_84 (ly_84_50 hL) (g_at ck_X11_reckons 52 rfl) rfl ?_
          refine tz_iload2 (n := 95) (g_at ck_X11_reckons 53 rfl) rfl ?_
          refine tz_iconst (n := 96) (g_at ck_X11_reckons 54 rfl) rfl ?_
          refine tz_isub (n := 97) (g_at ck_X11_reckons 55 rfl) rfl ?_
          rw [show (r9.length : Int) + 1 - 1 = r9.length by omega]
          refine tz_iald (n := 98) kd_109 (by omega) (g_at ck_X11_reckons 56 rfl) rfl ?_
          refine tz_if_ne (n := 101) (tgt := 105) (g_at ck_X11_reckons 57 rfl) rfl rfl (hR1 _ _) (fun h98 => ?_) (fun h98 => ?_)
          · skip
            refine tz_iconst (n := 106) (g_at ck_X11_reckons 60 rfl) rfl ?_
            refine tz_iastr (n := 107) kd_109 (by omega) (g_at ck_X11_reckons 61 rfl) rfl hR1 ⟨(by decide), (by decide)⟩ (fun hR4 => ?_)
            refine tz_goto (tgt := 140) (g_at ck_X11_reckons 62 rfl) rfl ?_
            refine tz_goto (tgt := 4) (g_at ck_X11_reckons 82 rfl) rfl ?_
            refine tz_drop4 ?_
            have e8 : stepL (L.getD i 0) V (evS (L.take i) V) = 0 :: r9 := by unfold stepL; rw [if_pos (by omega), if_pos (by omega), es]; show (if x9 = 0 then (1 : Int) else 0) :: r9 = _; rw [if_neg (by rw [← hx1]; omega)]
            have e9 := evS_s (V := V) (L := L) (j := i) hi
            rw [e8] at e9
            have e7 : offL L (i + 1) = offL L i + 1 := by rw [offL_s, if_neg (by omega)]
            refine gT_eq (ihi _ ⟨hR4, hF1.wr (by decide), by rw [e9, wr_eq, upA_at]; exact simL_push hs2⟩) rfl ?_
            rw [e9, e7, List.length_cons, show a + (offL L i + 1) = a + offL L i + 1 by omega]
            rfl
          · skip
            refine tz_iconst (n := 102) (g_at ck_X11_reckons 58 rfl) rfl ?_
            refine tz_goto (tgt := 106) (g_at ck_X11_reckons 59 rfl) rfl ?_
            refine tz_iastr (n := 107) kd_109 (by omega) (g_at ck_X11_reckons 61 rfl) rfl hR1 ⟨(by decide), (by decide)⟩ (fun hR5 => ?_)
            refine tz_goto (tgt := 140) (g_at ck_X11_reckons 62 rfl) rfl ?_
            refine tz_goto (tgt := 4) (g_at ck_X11_reckons 82 rfl) rfl ?_
            refine tz_drop4 ?_
            have e8 : stepL (L.getD i 0) V (evS (L.take i) V) = 1 :: r9 := by unfold stepL; rw [if_pos (by omega), if_pos (by omega), es]; show (if x9 = 0 then (1 : Int) else 0) :: r9 = _; rw [if_pos (by rw [← hx1]; omega)]
            have e9 := evS_s (V := V) (L := L) (j := i) hi
            rw [e8] at e9
            have e7 : offL L (i + 1) = offL L i + 1 := by rw [offL_s, if_neg (by omega)]
            refine gT_eq (ihi _ ⟨hR5, hF1.wr (by decide), by rw [e9, wr_eq, upA_at]; exact simL_push hs2⟩) rfl ?_
            rw [e9, e7, List.length_cons, show a + (offL L i + 1) = a + offL L i + 1 by omega]
            rfl
      · skip
        refine tz_aload0 (n := 37) (g_at ck_X11_reckons 21 rfl) rfl (g_ne kd_84) ?_
        refine tz_getAv (n := 40) (a := 109) fk_X11_93 kd_84 (ly_84_50 hL) (g_at ck_X11_reckons 22 rfl) rfl ?_
        refine tz_iload2 (n := 41) (g_at ck_X11_reckons 23 rfl) rfl ?_
        refine tz_iload4 (n := 43) (g_at ck_X11_reckons 24 rfl) rfl ?_
        refine tz_iconst (n := 44) (g_at ck_X11_reckons 25 rfl) rfl ?_
        refine tz_icmp_ne (n := 47) (tgt := 56) (g_at ck_X11_reckons 26 rfl) rfl rfl ⟨by omega, by omega, by decide, by decide⟩ (fun h44 => ?_) (fun h44 => absurd h44 (by omega))
        refine tz_aload0 (n := 57) (g_at ck_X11_reckons 32 rfl) rfl (g_ne kd_84) ?_
        refine tz_getAv (n := 60) (a := 108) fk_X11_90 kd_84 (ly_84_49 hL) (g_at ck_X11_reckons 33 rfl) rfl ?_
        refine tz_aload0 (n := 61) (g_at ck_X11_reckons 34 rfl) rfl (g_ne kd_84) ?_
        refine tz_getAv (n := 64) (a := 90) fk_X11_32 kd_84 (ly_84_10 hL) (g_at ck_X11_reckons 35 rfl) rfl ?_
        refine tz_iload3 (n := 65) (g_at ck_X11_reckons 36 rfl) rfl ?_
        refine tz_iald (n := 66) kd_90 (by omega) (g_at ck_X11_reckons 37 rfl) rfl ?_
        rw [h90, (hci.2 (by omega)), if_neg (by omega)]
        refine tz_iald (n := 67) kd_108 (by omega) (g_at ck_X11_reckons 38 rfl) rfl ?_
        rw [h108, hV (-1 - (L.getD i 0)) (by omega) (by omega)]
        refine tz_iastr (n := 68) kd_109 (by omega) (g_at ck_X11_reckons 39 rfl) rfl hR1 (by first | omega | (rw [← hV (-1 - (L.getD i 0)) (by omega) (by omega)]; exact hR _ _)) (fun hR6 => ?_)
        refine tz_iinc3 (n := 71) (g_at ck_X11_reckons 40 rfl) rfl (by decide) g_hpI ?_
        refine tz_iinc2 (n := 74) (g_at ck_X11_reckons 41 rfl) rfl (by decide) g_hpI ?_
        refine tz_goto (tgt := 140) (g_at ck_X11_reckons 42 rfl) rfl ?_
        refine tz_goto (tgt := 4) (g_at ck_X11_reckons 82 rfl) rfl ?_
        refine tz_drop4 ?_
        have e8 : stepL (L.getD i 0) V (evS (L.take i) V) = V (-1 - (L.getD i 0)) :: (evS (L.take i) V) := by unfold stepL; rw [if_neg (by omega), if_pos (by omega)]
        have e9 := evS_s (V := V) (L := L) (j := i) hi
        rw [e8] at e9
        have e7 : offL L (i + 1) = offL L i + 2 := by rw [offL_s, if_pos (by omega)]
        refine gT_eq (ihi _ ⟨hR6, hF1.wr (by decide), by rw [e9, wr_eq, upA_at]; exact simL_push hs1⟩) rfl ?_
        rw [e9, e7, List.length_cons, show ((((evS (L.take i) V).length + 1 : Nat)) : Int) = ((evS (L.take i) V).length : Int) + 1 from rfl, show a + (offL L i + 2) = a + offL L i + 1 + 1 by omega]
