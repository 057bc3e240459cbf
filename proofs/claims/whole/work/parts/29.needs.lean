/-! What a call needs: codes of what is thrown (0 nothing, 1 no such element, 2 an argument). -/
def exN (E : String) (cd : Int) : Prop := (E = "java/util/NoSuchElementException" ∧ cd = 1) ∨ (E = "java/lang/IllegalArgumentException" ∧ cd = 2)
def xC (ρ m : Mm) (cd : Int) : XX := xK KK fun E ρ9 m9 => ρ = ρ9 ∧ m = m9 ∧ exN E cd
def cdP (Λ : Mm) (p : Int) : Int := if 0 ≤ p ∧ p < Λ 0 1 then 0 else 1
def cdC (Λ : Mm) (c : Int) : Int := if 0 ≤ c ∧ c < Λ 0 0 then 0 else 1
def cdR (Λ : Mm) (c r : Int) : Int := if 0 ≤ c ∧ c < Λ 0 0 ∧ 0 ≤ r ∧ r < Λ 3 c then 0 else 1
def cdW (w k : Int) : Int := if 0 ≤ w ∧ w ≤ k then 0 else 1
def cdD (n a b : Int) : Int := if a ≤ n ∧ n ≤ b then 0 else 2
def sq (a b : Int) : Int := if a = 0 then b else a
theorem sq_1 {E : String} {a b : Int} (h : exN E a) : exN E (sq a b) := by
  unfold sq
  rcases h with h | h
  · rw [if_neg (by omega)]; exact Or.inl h
  · rw [if_neg (by omega)]; exact Or.inr h
theorem sq_2 {E : String} {a b : Int} (h0 : a = 0) (h : exN E b) : exN E (sq a b) := by
  unfold sq
  rw [if_pos h0]
  exact h
theorem sq_0 {a b : Int} (h0 : a = 0) (h1 : b = 0) : sq a b = 0 := by
  unfold sq
  rw [if_pos h0, h1]
theorem cdP_0 {Λ : Mm} {p : Int} (h : cdP Λ p = 0) : 0 ≤ p ∧ p < Λ 0 1 := by
  unfold cdP at h
  split at h
  · assumption
  · exact absurd h (by decide)
theorem cdC_0 {Λ : Mm} {p : Int} (h : cdC Λ p = 0) : 0 ≤ p ∧ p < Λ 0 0 := by
  unfold cdC at h
  split at h
  · assumption
  · exact absurd h (by decide)
theorem cdR_0 {Λ : Mm} {c r : Int} (h : cdR Λ c r = 0) : 0 ≤ c ∧ c < Λ 0 0 ∧ 0 ≤ r ∧ r < Λ 3 c := by
  unfold cdR at h
  split at h
  · assumption
  · exact absurd h (by decide)
theorem cdW_0 {p k : Int} (h : cdW p k = 0) : 0 ≤ p ∧ p ≤ k := by
  unfold cdW at h
  split at h
  · assumption
  · exact absurd h (by decide)
theorem cdD_0 {n a b : Int} (h : cdD n a b = 0) : a ≤ n ∧ n ≤ b := by
  unfold cdD at h
  split at h
  · assumption
  · exact absurd h (by decide)
theorem exN_1 {cd : Int} (h : cd = 1) : exN "java/util/NoSuchElementException" cd := Or.inl ⟨rfl, h⟩
theorem exN_2 {cd : Int} (h : cd = 2) : exN "java/lang/IllegalArgumentException" cd := Or.inr ⟨rfl, h⟩
theorem g_gX_out {l : Launch} {γ : Gh} {μ : MD} {d cb sb : Nat} {R : RR} {ρ m ρ9 m9 : Mm} {pc : Nat} {ls : List (Option VV)} {E9 : String} {cd : Int} (hh : μ.2.2.2.2 = []) (h1 : ρ = ρ9) (h2 : m = m9) (h : exN E9 cd) : gX l γ μ d cb sb R (xC ρ m cd) KK ρ9 m9 pc ls E9 := tx_out hh ⟨rfl, h1, h2, h⟩
theorem g_st_v : g_st = [("TurnPosts", 110, "the tape has not so many bytes"), ("TurnPosts$Tokens", 42, ";()+-*/<="), ("TurnPosts$Reader", 60, "crossing"), ("TurnPosts$Reader", 69, "road"), ("TurnPosts$Reader", 74, "person"), ("TurnPosts$Reader", 79, "arm"), ("TurnPosts$Reader", 84, "heeds"), ("TurnPosts$Reader", 183, "not"), ("TurnPosts$Reader", 203, "roads"), ("TurnPosts$Reader", 204, "purse"), ("TurnPosts$Reader", 205, "with"), ("TurnPosts$Reader", 207, "day"), ("TurnPosts$Reader", 181, "and"), ("TurnPosts$Reader", 173, "or"), ("TurnPosts$Reader", 89, "turns"), ("TurnPosts", 431, "no such what"), ("TurnPosts", 425, "no such crossing"), ("TurnPosts", 427, "no such road"), ("TurnPosts", 429, "no such person"), ("TurnPosts", 433, "not so many days"), ("TurnPosts", 348, "no such tenths"), ("TurnPosts", 353, "both are one"), ("TurnPosts", 408, "no such place in the tour")] := by decide +kernel
theorem st_0 : g_st[0]? = some ("TurnPosts", 110, "the tape has not so many bytes") := by rw [g_st_v]; rfl
theorem st_1 : g_st[1]? = some ("TurnPosts$Tokens", 42, ";()+-*/<=") := by rw [g_st_v]; rfl
theorem st_2 : g_st[2]? = some ("TurnPosts$Reader", 60, "crossing") := by rw [g_st_v]; rfl
theorem st_3 : g_st[3]? = some ("TurnPosts$Reader", 69, "road") := by rw [g_st_v]; rfl
theorem st_4 : g_st[4]? = some ("TurnPosts$Reader", 74, "person") := by rw [g_st_v]; rfl
theorem st_5 : g_st[5]? = some ("TurnPosts$Reader", 79, "arm") := by rw [g_st_v]; rfl
theorem st_6 : g_st[6]? = some ("TurnPosts$Reader", 84, "heeds") := by rw [g_st_v]; rfl
theorem st_7 : g_st[7]? = some ("TurnPosts$Reader", 183, "not") := by rw [g_st_v]; rfl
theorem st_8 : g_st[8]? = some ("TurnPosts$Reader", 203, "roads") := by rw [g_st_v]; rfl
theorem st_9 : g_st[9]? = some ("TurnPosts$Reader", 204, "purse") := by rw [g_st_v]; rfl
theorem st_10 : g_st[10]? = some ("TurnPosts$Reader", 205, "with") := by rw [g_st_v]; rfl
theorem st_11 : g_st[11]? = some ("TurnPosts$Reader", 207, "day") := by rw [g_st_v]; rfl
theorem st_12 : g_st[12]? = some ("TurnPosts$Reader", 181, "and") := by rw [g_st_v]; rfl
theorem st_13 : g_st[13]? = some ("TurnPosts$Reader", 173, "or") := by rw [g_st_v]; rfl
theorem st_14 : g_st[14]? = some ("TurnPosts$Reader", 89, "turns") := by rw [g_st_v]; rfl
theorem st_15 : g_st[15]? = some ("TurnPosts", 431, "no such what") := by rw [g_st_v]; rfl
theorem st_16 : g_st[16]? = some ("TurnPosts", 425, "no such crossing") := by rw [g_st_v]; rfl
theorem st_17 : g_st[17]? = some ("TurnPosts", 427, "no such road") := by rw [g_st_v]; rfl
theorem st_18 : g_st[18]? = some ("TurnPosts", 429, "no such person") := by rw [g_st_v]; rfl
theorem st_19 : g_st[19]? = some ("TurnPosts", 433, "not so many days") := by rw [g_st_v]; rfl
theorem st_20 : g_st[20]? = some ("TurnPosts", 348, "no such tenths") := by rw [g_st_v]; rfl
theorem st_21 : g_st[21]? = some ("TurnPosts", 353, "both are one") := by rw [g_st_v]; rfl
theorem st_22 : g_st[22]? = some ("TurnPosts", 408, "no such place in the tour") := by rw [g_st_v]; rfl
theorem sp_needC {l : Launch} {γ : Gh} {ρ m : Mm} {c : Int} (hc : -2147483648 ≤ c ∧ c < 2147483648) {ld : Int} {Λ : Mm} {hl tl : List Int} (hL : LY ρ) (hLn : ρ 1 3 = ld) (hS : isS ρ ld) (hR : MR m) (hW : WL Λ) (hG : LandC m ld Λ hl tl) : gE l γ μX10_needCrossing 6 1 6 (rV KK fun ρ9 m9 => ρ = ρ9 ∧ MR m9 ∧ m = m9 ∧ cdC Λ c = 0) (xC ρ m (cdC Λ c)) KK ρ m [vR 1, vI c] := by
  refine gE.ofw cl_X10.2 ?_ rfl rfl (Nat.le_of_ble_eq_true rfl)
  show gT l γ μX10_needCrossing 6 1 6 _ _ KK ρ m 0 [some (vR 1), some (vI c)] []
  have hn := hW.1
  refine tz_iload1 (n := 1) (g_at ck_X10_needCrossing 0 rfl) rfl ?_
  refine tz_if_lt (n := 4) (tgt := 15) (g_at ck_X10_needCrossing 1 rfl) rfl rfl ⟨hc.1, hc.2⟩ (fun h1 => ?_) (fun h1 => ?_)
  · skip
    exact tz_throw tw_N (i9 := 16) st_16 (g_at ck_X10_needCrossing 7 rfl) (g_at ck_X10_needCrossing 8 rfl) (Or.inr ⟨(g_at ck_X10_needCrossing 9 rfl), rfl⟩) (g_at ck_X10_needCrossing 10 rfl) (g_at ck_X10_needCrossing 11 rfl) rfl ⟨by decide, by decide, by decide⟩ (Nat.le_of_ble_eq_true rfl) ⟨rfl, rfl, rfl, exN_1 (by unfold cdC; rw [if_neg (by omega)])⟩
  · skip
    refine tz_iload1 (n := 5) (g_at ck_X10_needCrossing 2 rfl) rfl ?_
    refine tz_aload0 (n := 6) (g_at ck_X10_needCrossing 3 rfl) rfl (g_ne kd_1) ?_
    refine tz_getOv (n := 9) (a := ld) fk_X10_20 kd_1 hLn (g_at ck_X10_needCrossing 4 rfl) rfl ?_
    refine tz_getIw (n := 12) (kz := 0) fk_X10_139 hS.k0 (g_at ck_X10_needCrossing 5 rfl) rfl rfl ?_
    rw [hG.n0]
    refine tz_icmp_lt (n := 15) (tgt := 26) (g_at ck_X10_needCrossing 6 rfl) rfl rfl ⟨hc.1, hc.2, by omega, by omega⟩ (fun h12 => ?_) (fun h12 => ?_)
    · skip
      exact tz_vret (g_at ck_X10_needCrossing 12 rfl) rfl (rV_mk ⟨rfl, hR, rfl, by unfold cdC; rw [if_pos (by omega)]⟩)
    · skip
      exact tz_throw tw_N (i9 := 16) st_16 (g_at ck_X10_needCrossing 7 rfl) (g_at ck_X10_needCrossing 8 rfl) (Or.inr ⟨(g_at ck_X10_needCrossing 9 rfl), rfl⟩) (g_at ck_X10_needCrossing 10 rfl) (g_at ck_X10_needCrossing 11 rfl) rfl ⟨by decide, by decide, by decide⟩ (Nat.le_of_ble_eq_true rfl) ⟨rfl, rfl, rfl, exN_1 (by unfold cdC; rw [if_neg (by omega)])⟩
theorem sp_needP {l : Launch} {γ : Gh} {ρ m : Mm} {c : Int} (hc : -2147483648 ≤ c ∧ c < 2147483648) {ld : Int} {Λ : Mm} {hl tl : List Int} (hL : LY ρ) (hLn : ρ 1 3 = ld) (hS : isS ρ ld) (hR : MR m) (hW : WL Λ) (hG : LandC m ld Λ hl tl) : gE l γ μX10_needPerson 6 1 6 (rV KK fun ρ9 m9 => ρ = ρ9 ∧ MR m9 ∧ m = m9 ∧ cdP Λ c = 0) (xC ρ m (cdP Λ c)) KK ρ m [vR 1, vI c] := by
  refine gE.ofw cl_X10.2 ?_ rfl rfl (Nat.le_of_ble_eq_true rfl)
  show gT l γ μX10_needPerson 6 1 6 _ _ KK ρ m 0 [some (vR 1), some (vI c)] []
  have hn := hW.2.1
  refine tz_iload1 (n := 1) (g_at ck_X10_needPerson 0 rfl) rfl ?_
  refine tz_if_lt (n := 4) (tgt := 15) (g_at ck_X10_needPerson 1 rfl) rfl rfl ⟨hc.1, hc.2⟩ (fun h1 => ?_) (fun h1 => ?_)
  · skip
    exact tz_throw tw_N (i9 := 18) st_18 (g_at ck_X10_needPerson 7 rfl) (g_at ck_X10_needPerson 8 rfl) (Or.inr ⟨(g_at ck_X10_needPerson 9 rfl), rfl⟩) (g_at ck_X10_needPerson 10 rfl) (g_at ck_X10_needPerson 11 rfl) rfl ⟨by decide, by decide, by decide⟩ (Nat.le_of_ble_eq_true rfl) ⟨rfl, rfl, rfl, exN_1 (by unfold cdP; rw [if_neg (by omega)])⟩
  · skip
    refine tz_iload1 (n := 5) (g_at ck_X10_needPerson 2 rfl) rfl ?_
    refine tz_aload0 (n := 6) (g_at ck_X10_needPerson 3 rfl) rfl (g_ne kd_1) ?_
    refine tz_getOv (n := 9) (a := ld) fk_X10_20 kd_1 hLn (g_at ck_X10_needPerson 4 rfl) rfl ?_
    refine tz_getIw (n := 12) (kz := 1) fk_X10_142 hS.k0 (g_at ck_X10_needPerson 5 rfl) rfl rfl ?_
    rw [hG.n1]
    refine tz_icmp_lt (n := 15) (tgt := 26) (g_at ck_X10_needPerson 6 rfl) rfl rfl ⟨hc.1, hc.2, by omega, by omega⟩ (fun h12 => ?_) (fun h12 => ?_)
    · skip
      exact tz_vret (g_at ck_X10_needPerson 12 rfl) rfl (rV_mk ⟨rfl, hR, rfl, by unfold cdP; rw [if_pos (by omega)]⟩)
    · skip
      exact tz_throw tw_N (i9 := 18) st_18 (g_at ck_X10_needPerson 7 rfl) (g_at ck_X10_needPerson 8 rfl) (Or.inr ⟨(g_at ck_X10_needPerson 9 rfl), rfl⟩) (g_at ck_X10_needPerson 10 rfl) (g_at ck_X10_needPerson 11 rfl) rfl ⟨by decide, by decide, by decide⟩ (Nat.le_of_ble_eq_true rfl) ⟨rfl, rfl, rfl, exN_1 (by unfold cdP; rw [if_neg (by omega)])⟩
theorem sp_needW {l : Launch} {γ : Gh} {ρ m : Mm} {w k : Int} (hw : -2147483648 ≤ w ∧ w < 2147483648) (hk : -2147483648 ≤ k ∧ k < 2147483648) (hR : MR m) : gE l γ μX10_needWhat 6 1 6 (rV KK fun ρ9 m9 => ρ = ρ9 ∧ MR m9 ∧ m = m9 ∧ cdW w k = 0) (xC ρ m (cdW w k)) KK ρ m [vI w, vI k] := by
  refine gE.ofw cl_X10.2 ?_ rfl rfl (Nat.le_of_ble_eq_true rfl)
  show gT l γ μX10_needWhat 6 1 6 _ _ KK ρ m 0 [some (vI w), some (vI k)] []
  refine tz_iload0 (n := 1) (g_at ck_X10_needWhat 0 rfl) rfl ?_
  refine tz_if_lt (n := 4) (tgt := 9) (g_at ck_X10_needWhat 1 rfl) rfl rfl ⟨hw.1, hw.2⟩ (fun h1 => ?_) (fun h1 => ?_)
  · skip
    exact tz_throw tw_N (i9 := 15) st_15 (g_at ck_X10_needWhat 5 rfl) (g_at ck_X10_needWhat 6 rfl) (Or.inr ⟨(g_at ck_X10_needWhat 7 rfl), rfl⟩) (g_at ck_X10_needWhat 8 rfl) (g_at ck_X10_needWhat 9 rfl) rfl ⟨by decide, by decide, by decide⟩ (Nat.le_of_ble_eq_true rfl) ⟨rfl, rfl, rfl, exN_1 (by unfold cdW; rw [if_neg (by omega)])⟩
  · skip
    refine tz_iload0 (n := 5) (g_at ck_X10_needWhat 2 rfl) rfl ?_
    refine tz_iload1 (n := 6) (g_at ck_X10_needWhat 3 rfl) rfl ?_
    refine tz_icmp_le (n := 9) (tgt := 20) (g_at ck_X10_needWhat 4 rfl) rfl rfl ⟨hw.1, hw.2, hk.1, hk.2⟩ (fun h6 => ?_) (fun h6 => ?_)
    · skip
      exact tz_vret (g_at ck_X10_needWhat 10 rfl) rfl (rV_mk ⟨rfl, hR, rfl, by unfold cdW; rw [if_pos (by omega)]⟩)
    · skip
      exact tz_throw tw_N (i9 := 15) st_15 (g_at ck_X10_needWhat 5 rfl) (g_at ck_X10_needWhat 6 rfl) (Or.inr ⟨(g_at ck_X10_needWhat 7 rfl), rfl⟩) (g_at ck_X10_needWhat 8 rfl) (g_at ck_X10_needWhat 9 rfl) rfl ⟨by decide, by decide, by decide⟩ (Nat.le_of_ble_eq_true rfl) ⟨rfl, rfl, rfl, exN_1 (by unfold cdW; rw [if_neg (by omega)])⟩
theorem sp_needD {l : Launch} {γ : Gh} {ρ m : Mm} {n a b : Int} (hn : -2147483648 ≤ n ∧ n < 2147483648) (ha : -2147483648 ≤ a ∧ a < 2147483648) (hb : -2147483648 ≤ b ∧ b < 2147483648) (hR : MR m) : gE l γ μX10_needDays 6 1 6 (rV KK fun ρ9 m9 => ρ = ρ9 ∧ MR m9 ∧ m = m9 ∧ cdD n a b = 0) (xC ρ m (cdD n a b)) KK ρ m [vI n, vI a, vI b] := by
  refine gE.ofw cl_X10.2 ?_ rfl rfl (Nat.le_of_ble_eq_true rfl)
  show gT l γ μX10_needDays 6 1 6 _ _ KK ρ m 0 [some (vI n), some (vI a), some (vI b)] []
  refine tz_iload0 (n := 1) (g_at ck_X10_needDays 0 rfl) rfl ?_
  refine tz_iload1 (n := 2) (g_at ck_X10_needDays 1 rfl) rfl ?_
  refine tz_icmp_lt (n := 5) (tgt := 10) (g_at ck_X10_needDays 2 rfl) rfl rfl ⟨hn.1, hn.2, ha.1, ha.2⟩ (fun h2 => ?_) (fun h2 => ?_)
  · skip
    exact tz_throw tw_I (i9 := 19) st_19 (g_at ck_X10_needDays 6 rfl) (g_at ck_X10_needDays 7 rfl) (Or.inr ⟨(g_at ck_X10_needDays 8 rfl), rfl⟩) (g_at ck_X10_needDays 9 rfl) (g_at ck_X10_needDays 10 rfl) rfl ⟨by decide, by decide, by decide⟩ (Nat.le_of_ble_eq_true rfl) ⟨rfl, rfl, rfl, exN_2 (by unfold cdD; rw [if_neg (by omega)])⟩
  · skip
    refine tz_iload0 (n := 6) (g_at ck_X10_needDays 3 rfl) rfl ?_
    refine tz_iload2 (n := 7) (g_at ck_X10_needDays 4 rfl) rfl ?_
    refine tz_icmp_le (n := 10) (tgt := 21) (g_at ck_X10_needDays 5 rfl) rfl rfl ⟨hn.1, hn.2, hb.1, hb.2⟩ (fun h7 => ?_) (fun h7 => ?_)
    · skip
      exact tz_vret (g_at ck_X10_needDays 11 rfl) rfl (rV_mk ⟨rfl, hR, rfl, by unfold cdD; rw [if_pos (by omega)]⟩)
    · skip
      exact tz_throw tw_I (i9 := 19) st_19 (g_at ck_X10_needDays 6 rfl) (g_at ck_X10_needDays 7 rfl) (Or.inr ⟨(g_at ck_X10_needDays 8 rfl), rfl⟩) (g_at ck_X10_needDays 9 rfl) (g_at ck_X10_needDays 10 rfl) rfl ⟨by decide, by decide, by decide⟩ (Nat.le_of_ble_eq_true rfl) ⟨rfl, rfl, rfl, exN_2 (by unfold cdD; rw [if_neg (by omega)])⟩
