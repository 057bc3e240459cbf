/-! Shire, Moment: what they answer, what they change. -/
def bitsW (f : Int → Int) (c : Int) (n : Nat) : Int := fd (fun p v => if f (p : Int) = c then bOr v (bShl 1 (p : Int)) else v) 0 n
def bitsH (f g : Int → Int) (n : Nat) : Int := fd (fun p v => if f (p : Int) = g (p : Int) then bOr v (bShl 1 (p : Int)) else v) 0 n
def sumP (f : Int → Int) (n : Nat) : Int := fd (fun p v => v + f (p : Int)) 0 n
def shutB (s r : Int) : Int := if bAnd (bShr s r) 1 = 1 then 1 else 0
theorem shutB_01 (s r : Int) : shutB s r = 0 ∨ shutB s r = 1 := by unfold shutB; split <;> simp
def momclr (m : Mm) (r : Int) : Mm := fil (fil (fil (fil (wr m r 0 0) (r + 1) 8 0) (r + 2) 8 0) (r + 3) 9 0) (r + 4) 9 0
def momcp (m : Mm) (o r : Int) : Mm := cpy (cpy (cpy (cpy (wr m r 0 (m o 0)) (o + 1) 0 (r + 1) 0 8) (o + 2) 0 (r + 2) 0 8) (o + 3) 0 (r + 3) 0 9) (o + 4) 0 (r + 4) 0 9
def momwr (m : Mm) (r a t : Int) : Mm := cpy (cpy (cpy (cpy (wr m a t (m r 0)) (r + 1) 0 a (t + 1) 8) (r + 2) 0 a (t + 1 + 8) 8) (r + 3) 0 a (t + 1 + 16) 9) (r + 4) 0 a (t + 1 + 16 + 9) 9
def momrd (m : Mm) (r a t : Int) : Mm := cpy (cpy (cpy (cpy (wr m r 0 (m a t)) a (t + 1) (r + 1) 0 8) a (t + 1 + 8) (r + 2) 0 8) a (t + 1 + 16) (r + 3) 0 9) a (t + 1 + 16 + 9) (r + 4) 0 9
def likeM (m : Mm) (r o : Int) : Int := if (∀ c : Nat, c < 9 → m (r + 3) c = m (o + 3) c) ∧ ∀ p : Nat, p < 8 → m (r + 1) p = m (o + 1) p then 1 else 0
theorem sp_peopleAt {l : Launch} {γ : Gh} {ρ m : Mm} {ld mo c : Int} (hS : isS ρ ld) (hM : isM ρ mo) (hR : MR m) (hp : 0 ≤ m ld 1 ∧ m ld 1 ≤ 8) (hc : -2147483648 ≤ c ∧ c < 2147483648) : gE l γ μX6_peopleAt 0 0 0 (rI KK fun x ρ9 m9 => ρ = ρ9 ∧ MR m9 ∧ bitsW (m (mo + 1)) c (m ld 1).toNat = x ∧ m = m9) xN KK ρ m [vR ld, vR mo, vI c] := by
  refine gE.ofw cl_X6.2 ?_ rfl rfl (Nat.le_of_ble_eq_true rfl)
  show gT l γ μX6_peopleAt 0 0 0 _ _ KK ρ m 0 [some (vR ld), some (vR mo), some (vI c), none, none] []
  refine tz_iconst (n := 1) (g_at ck_X6_peopleAt 0 rfl) rfl ?_
  refine tz_istore3 (n := 2) (g_at ck_X6_peopleAt 1 rfl) rfl (by decide) g_hpI ?_
  refine tz_iconst (n := 3) (g_at ck_X6_peopleAt 2 rfl) rfl ?_
  refine tz_istore4 (n := 5) (g_at ck_X6_peopleAt 3 rfl) rfl (by decide) g_hpI ?_
  refine g_for (fun i : Nat => gT l γ μX6_peopleAt 0 0 0 _ _ KK ρ m 5 [some (vR ld), some (vR mo), some (vI c), some (vI (bitsW (m (mo + 1)) c i)), some (vI (i : Int))] []) (m ld 1).toNat ?_ (fun i hi ihi => ?_) 0 (Nat.zero_le _)
  · skip
    refine tz_iload4 (n := 7) (g_at ck_X6_peopleAt 4 rfl) rfl ?_
    refine tz_aload0 (n := 8) (g_at ck_X6_peopleAt 5 rfl) rfl (g_ne hS.k0) ?_
    refine tz_getIw (n := 11) (kz := 1) fk_X6_48 hS.k0 (g_at ck_X6_peopleAt 6 rfl) rfl rfl ?_
    refine tz_icmp_ge (n := 14) (tgt := 38) (g_at ck_X6_peopleAt 7 rfl) rfl rfl ⟨(by omega), (by omega), (hR _ _).1, (hR _ _).2⟩ (fun h11 => ?_) (fun h11 => absurd h11 (by omega))
    refine tz_iload3 (n := 39) (g_at ck_X6_peopleAt 22 rfl) rfl ?_
    exact tz_iret (g_at ck_X6_peopleAt 23 rfl) rfl (rI_mk ⟨rfl, hR, rfl, rfl⟩)
  · skip
    refine tz_iload4 (n := 7) (g_at ck_X6_peopleAt 4 rfl) rfl ?_
    refine tz_aload0 (n := 8) (g_at ck_X6_peopleAt 5 rfl) rfl (g_ne hS.k0) ?_
    refine tz_getIw (n := 11) (kz := 1) fk_X6_48 hS.k0 (g_at ck_X6_peopleAt 6 rfl) rfl rfl ?_
    refine tz_icmp_ge (n := 14) (tgt := 38) (g_at ck_X6_peopleAt 7 rfl) rfl rfl ⟨(by omega), (by omega), (hR _ _).1, (hR _ _).2⟩ (fun h11 => absurd h11 (by omega)) (fun h11 => ?_)
    refine tz_aload1 (n := 15) (g_at ck_X6_peopleAt 8 rfl) rfl (g_ne hM.k0) ?_
    refine tz_getAv (n := 18) (a := (mo + 1)) fk_X6_67 hM.k0 hM.r0_1 (g_at ck_X6_peopleAt 9 rfl) rfl ?_
    refine tz_iload4 (n := 20) (g_at ck_X6_peopleAt 10 rfl) rfl ?_
    refine tz_iald (n := 21) hM.k1 (by omega) (g_at ck_X6_peopleAt 11 rfl) rfl ?_
    refine tz_iload2 (n := 22) (g_at ck_X6_peopleAt 12 rfl) rfl ?_
    refine tz_icmp_ne (n := 25) (tgt := 32) (g_at ck_X6_peopleAt 13 rfl) rfl rfl ⟨(hR _ _).1, (hR _ _).2, hc.1, hc.2⟩ (fun h22 => ?_) (fun h22 => ?_)
    · skip
      refine tz_iinc4 (n := 35) (g_at ck_X6_peopleAt 20 rfl) rfl (by decide) g_hpI ?_
      refine tz_goto (tgt := 5) (g_at ck_X6_peopleAt 21 rfl) rfl ?_
      refine Eq.mp ?_ ihi
      unfold bitsW
      simp only [fd, h22, if_true, if_false]
      rfl
    · skip
      refine tz_iload3 (n := 26) (g_at ck_X6_peopleAt 14 rfl) rfl ?_
      refine tz_iconst (n := 27) (g_at ck_X6_peopleAt 15 rfl) rfl ?_
      refine tz_iload4 (n := 29) (g_at ck_X6_peopleAt 16 rfl) rfl ?_
      refine tz_ishl (n := 30) (g_at ck_X6_peopleAt 17 rfl) rfl ?_
      refine tz_ior (n := 31) (g_at ck_X6_peopleAt 18 rfl) rfl ?_
      refine tz_istore3 (n := 32) (g_at ck_X6_peopleAt 19 rfl) rfl (by decide) g_hpI ?_
      refine tz_iinc4 (n := 35) (g_at ck_X6_peopleAt 20 rfl) rfl (by decide) g_hpI ?_
      refine tz_goto (tgt := 5) (g_at ck_X6_peopleAt 21 rfl) rfl ?_
      refine Eq.mp ?_ ihi
      unfold bitsW
      simp only [fd, h22, if_true, if_false]
      rfl
theorem sp_atHome {l : Launch} {γ : Gh} {ρ m : Mm} {ld mo : Int} (hS : isS ρ ld) (hM : isM ρ mo) (hR : MR m) (hp : 0 ≤ m ld 1 ∧ m ld 1 ≤ 8) : gE l γ μX6_atHome 0 0 0 (rI KK fun x ρ9 m9 => ρ = ρ9 ∧ MR m9 ∧ bitsH (m (mo + 1)) (m (ld + 5)) (m ld 1).toNat = x ∧ m = m9) xN KK ρ m [vR ld, vR mo] := by
  refine gE.ofw cl_X6.2 ?_ rfl rfl (Nat.le_of_ble_eq_true rfl)
  show gT l γ μX6_atHome 0 0 0 _ _ KK ρ m 0 [some (vR ld), some (vR mo), none, none] []
  refine tz_iconst (n := 1) (g_at ck_X6_atHome 0 rfl) rfl ?_
  refine tz_istore2 (n := 2) (g_at ck_X6_atHome 1 rfl) rfl (by decide) g_hpR ?_
  refine tz_iconst (n := 3) (g_at ck_X6_atHome 2 rfl) rfl ?_
  refine tz_istore3 (n := 4) (g_at ck_X6_atHome 3 rfl) rfl (by decide) g_hpI ?_
  refine g_for (fun i : Nat => gT l γ μX6_atHome 0 0 0 _ _ KK ρ m 4 [some (vR ld), some (vR mo), some (vI (bitsH (m (mo + 1)) (m (ld + 5)) i)), some (vI (i : Int))] []) (m ld 1).toNat ?_ (fun i hi ihi => ?_) 0 (Nat.zero_le _)
  · skip
    refine tz_iload3 (n := 5) (g_at ck_X6_atHome 4 rfl) rfl ?_
    refine tz_aload0 (n := 6) (g_at ck_X6_atHome 5 rfl) rfl (g_ne hS.k0) ?_
    refine tz_getIw (n := 9) (kz := 1) fk_X6_48 hS.k0 (g_at ck_X6_atHome 6 rfl) rfl rfl ?_
    refine tz_icmp_ge (n := 12) (tgt := 39) (g_at ck_X6_atHome 7 rfl) rfl rfl ⟨(by omega), (by omega), (hR _ _).1, (hR _ _).2⟩ (fun h9 => ?_) (fun h9 => absurd h9 (by omega))
    refine tz_iload2 (n := 40) (g_at ck_X6_atHome 25 rfl) rfl ?_
    exact tz_iret (g_at ck_X6_atHome 26 rfl) rfl (rI_mk ⟨rfl, hR, rfl, rfl⟩)
  · skip
    refine tz_iload3 (n := 5) (g_at ck_X6_atHome 4 rfl) rfl ?_
    refine tz_aload0 (n := 6) (g_at ck_X6_atHome 5 rfl) rfl (g_ne hS.k0) ?_
    refine tz_getIw (n := 9) (kz := 1) fk_X6_48 hS.k0 (g_at ck_X6_atHome 6 rfl) rfl rfl ?_
    refine tz_icmp_ge (n := 12) (tgt := 39) (g_at ck_X6_atHome 7 rfl) rfl rfl ⟨(by omega), (by omega), (hR _ _).1, (hR _ _).2⟩ (fun h9 => absurd h9 (by omega)) (fun h9 => ?_)
    refine tz_aload1 (n := 13) (g_at ck_X6_atHome 8 rfl) rfl (g_ne hM.k0) ?_
    refine tz_getAv (n := 16) (a := (mo + 1)) fk_X6_67 hM.k0 hM.r0_1 (g_at ck_X6_atHome 9 rfl) rfl ?_
    refine tz_iload3 (n := 17) (g_at ck_X6_atHome 10 rfl) rfl ?_
    refine tz_iald (n := 18) hM.k1 (by omega) (g_at ck_X6_atHome 11 rfl) rfl ?_
    refine tz_aload0 (n := 19) (g_at ck_X6_atHome 12 rfl) rfl (g_ne hS.k0) ?_
    refine tz_getAv (n := 22) (a := (ld + 5)) fk_X6_24 hS.k0 hS.r0_6 (g_at ck_X6_atHome 13 rfl) rfl ?_
    refine tz_iload3 (n := 23) (g_at ck_X6_atHome 14 rfl) rfl ?_
    refine tz_iald (n := 24) hS.k5 (by omega) (g_at ck_X6_atHome 15 rfl) rfl ?_
    refine tz_icmp_ne (n := 27) (tgt := 33) (g_at ck_X6_atHome 16 rfl) rfl rfl ⟨(hR _ _).1, (hR _ _).2, (hR _ _).1, (hR _ _).2⟩ (fun h24 => ?_) (fun h24 => ?_)
    · skip
      refine tz_iinc3 (n := 36) (g_at ck_X6_atHome 23 rfl) rfl (by decide) g_hpI ?_
      refine tz_goto (tgt := 4) (g_at ck_X6_atHome 24 rfl) rfl ?_
      refine Eq.mp ?_ ihi
      unfold bitsH
      simp only [fd, h24, if_true, if_false]
      rfl
    · skip
      refine tz_iload2 (n := 28) (g_at ck_X6_atHome 17 rfl) rfl ?_
      refine tz_iconst (n := 29) (g_at ck_X6_atHome 18 rfl) rfl ?_
      refine tz_iload3 (n := 30) (g_at ck_X6_atHome 19 rfl) rfl ?_
      refine tz_ishl (n := 31) (g_at ck_X6_atHome 20 rfl) rfl ?_
      refine tz_ior (n := 32) (g_at ck_X6_atHome 21 rfl) rfl ?_
      refine tz_istore2 (n := 33) (g_at ck_X6_atHome 22 rfl) rfl (by decide) g_hpR ?_
      refine tz_iinc3 (n := 36) (g_at ck_X6_atHome 23 rfl) rfl (by decide) g_hpI ?_
      refine tz_goto (tgt := 4) (g_at ck_X6_atHome 24 rfl) rfl ?_
      refine Eq.mp ?_ ihi
      unfold bitsH
      simp only [fd, h24, if_true, if_false]
      rfl
theorem sp_purses {l : Launch} {γ : Gh} {ρ m : Mm} {ld mo : Int} (hS : isS ρ ld) (hM : isM ρ mo) (hR : MR m) (hp : 0 ≤ m ld 1 ∧ m ld 1 ≤ 8) : gE l γ μX6_purses 0 0 0 (rI KK fun x ρ9 m9 => ρ = ρ9 ∧ MR m9 ∧ sumP (m (mo + 2)) (m ld 1).toNat = x ∧ m = m9) xN KK ρ m [vR ld, vR mo] := by
  refine gE.ofw cl_X6.2 ?_ rfl rfl (Nat.le_of_ble_eq_true rfl)
  show gT l γ μX6_purses 0 0 0 _ _ KK ρ m 0 [some (vR ld), some (vR mo), none, none] []
  refine tz_iconst (n := 1) (g_at ck_X6_purses 0 rfl) rfl ?_
  refine tz_istore2 (n := 2) (g_at ck_X6_purses 1 rfl) rfl (by decide) g_hpR ?_
  refine tz_iconst (n := 3) (g_at ck_X6_purses 2 rfl) rfl ?_
  refine tz_istore3 (n := 4) (g_at ck_X6_purses 3 rfl) rfl (by decide) g_hpI ?_
  refine g_for (fun i : Nat => gT l γ μX6_purses 0 0 0 _ _ KK ρ m 4 [some (vR ld), some (vR mo), some (vI (sumP (m (mo + 2)) i)), some (vI (i : Int))] []) (m ld 1).toNat ?_ (fun i hi ihi => ?_) 0 (Nat.zero_le _)
  · skip
    refine tz_iload3 (n := 5) (g_at ck_X6_purses 4 rfl) rfl ?_
    refine tz_aload0 (n := 6) (g_at ck_X6_purses 5 rfl) rfl (g_ne hS.k0) ?_
    refine tz_getIw (n := 9) (kz := 1) fk_X6_48 hS.k0 (g_at ck_X6_purses 6 rfl) rfl rfl ?_
    refine tz_icmp_ge (n := 12) (tgt := 27) (g_at ck_X6_purses 7 rfl) rfl rfl ⟨(by omega), (by omega), (hR _ _).1, (hR _ _).2⟩ (fun h9 => ?_) (fun h9 => absurd h9 (by omega))
    refine tz_iload2 (n := 28) (g_at ck_X6_purses 17 rfl) rfl ?_
    exact tz_iret (g_at ck_X6_purses 18 rfl) rfl (rI_mk ⟨rfl, hR, rfl, rfl⟩)
  · skip
    refine tz_iload3 (n := 5) (g_at ck_X6_purses 4 rfl) rfl ?_
    refine tz_aload0 (n := 6) (g_at ck_X6_purses 5 rfl) rfl (g_ne hS.k0) ?_
    refine tz_getIw (n := 9) (kz := 1) fk_X6_48 hS.k0 (g_at ck_X6_purses 6 rfl) rfl rfl ?_
    refine tz_icmp_ge (n := 12) (tgt := 27) (g_at ck_X6_purses 7 rfl) rfl rfl ⟨(by omega), (by omega), (hR _ _).1, (hR _ _).2⟩ (fun h9 => absurd h9 (by omega)) (fun h9 => ?_)
    refine tz_iload2 (n := 13) (g_at ck_X6_purses 8 rfl) rfl ?_
    refine tz_aload1 (n := 14) (g_at ck_X6_purses 9 rfl) rfl (g_ne hM.k0) ?_
    refine tz_getAv (n := 17) (a := (mo + 2)) fk_X6_80 hM.k0 hM.r0_2 (g_at ck_X6_purses 10 rfl) rfl ?_
    refine tz_iload3 (n := 18) (g_at ck_X6_purses 11 rfl) rfl ?_
    refine tz_iald (n := 19) hM.k2 (by omega) (g_at ck_X6_purses 12 rfl) rfl ?_
    refine tz_iadd (n := 20) (g_at ck_X6_purses 13 rfl) rfl ?_
    refine tz_istore2 (n := 21) (g_at ck_X6_purses 14 rfl) rfl (by decide) g_hpR ?_
    refine tz_iinc3 (n := 24) (g_at ck_X6_purses 15 rfl) rfl (by decide) g_hpI ?_
    refine tz_goto (tgt := 4) (g_at ck_X6_purses 16 rfl) rfl ?_
    exact ihi
theorem sp_allRoads {l : Launch} {γ : Gh} {ρ m : Mm} {ld : Int} (hS : isS ρ ld) (hR : MR m) (hq : 0 ≤ m ld 0 ∧ m ld 0 ≤ 9) : gE l γ μX6_allRoads 0 0 0 (rI KK fun x ρ9 m9 => ρ = ρ9 ∧ MR m9 ∧ sumP (m (ld + 3)) (m ld 0).toNat = x ∧ m = m9) xN KK ρ m [vR ld] := by
  refine gE.ofw cl_X6.2 ?_ rfl rfl (Nat.le_of_ble_eq_true rfl)
  show gT l γ μX6_allRoads 0 0 0 _ _ KK ρ m 0 [some (vR ld), none, none] []
  refine tz_iconst (n := 1) (g_at ck_X6_allRoads 0 rfl) rfl ?_
  refine tz_istore1 (n := 2) (g_at ck_X6_allRoads 1 rfl) rfl (by decide) g_hpR ?_
  refine tz_iconst (n := 3) (g_at ck_X6_allRoads 2 rfl) rfl ?_
  refine tz_istore2 (n := 4) (g_at ck_X6_allRoads 3 rfl) rfl (by decide) g_hpI ?_
  refine g_for (fun i : Nat => gT l γ μX6_allRoads 0 0 0 _ _ KK ρ m 4 [some (vR ld), some (vI (sumP (m (ld + 3)) i)), some (vI (i : Int))] []) (m ld 0).toNat ?_ (fun i hi ihi => ?_) 0 (Nat.zero_le _)
  · skip
    refine tz_iload2 (n := 5) (g_at ck_X6_allRoads 4 rfl) rfl ?_
    refine tz_aload0 (n := 6) (g_at ck_X6_allRoads 5 rfl) rfl (g_ne hS.k0) ?_
    refine tz_getIw (n := 9) (kz := 0) fk_X6_44 hS.k0 (g_at ck_X6_allRoads 6 rfl) rfl rfl ?_
    refine tz_icmp_ge (n := 12) (tgt := 27) (g_at ck_X6_allRoads 7 rfl) rfl rfl ⟨(by omega), (by omega), (hR _ _).1, (hR _ _).2⟩ (fun h9 => ?_) (fun h9 => absurd h9 (by omega))
    refine tz_iload1 (n := 28) (g_at ck_X6_allRoads 17 rfl) rfl ?_
    exact tz_iret (g_at ck_X6_allRoads 18 rfl) rfl (rI_mk ⟨rfl, hR, rfl, rfl⟩)
  · skip
    refine tz_iload2 (n := 5) (g_at ck_X6_allRoads 4 rfl) rfl ?_
    refine tz_aload0 (n := 6) (g_at ck_X6_allRoads 5 rfl) rfl (g_ne hS.k0) ?_
    refine tz_getIw (n := 9) (kz := 0) fk_X6_44 hS.k0 (g_at ck_X6_allRoads 6 rfl) rfl rfl ?_
    refine tz_icmp_ge (n := 12) (tgt := 27) (g_at ck_X6_allRoads 7 rfl) rfl rfl ⟨(by omega), (by omega), (hR _ _).1, (hR _ _).2⟩ (fun h9 => absurd h9 (by omega)) (fun h9 => ?_)
    refine tz_iload1 (n := 13) (g_at ck_X6_allRoads 8 rfl) rfl ?_
    refine tz_aload0 (n := 14) (g_at ck_X6_allRoads 9 rfl) rfl (g_ne hS.k0) ?_
    refine tz_getAv (n := 17) (a := (ld + 3)) fk_X6_18 hS.k0 hS.r0_4 (g_at ck_X6_allRoads 10 rfl) rfl ?_
    refine tz_iload2 (n := 18) (g_at ck_X6_allRoads 11 rfl) rfl ?_
    refine tz_iald (n := 19) hS.k3 (by omega) (g_at ck_X6_allRoads 12 rfl) rfl ?_
    refine tz_iadd (n := 20) (g_at ck_X6_allRoads 13 rfl) rfl ?_
    refine tz_istore1 (n := 21) (g_at ck_X6_allRoads 14 rfl) rfl (by decide) g_hpR ?_
    refine tz_iinc2 (n := 24) (g_at ck_X6_allRoads 15 rfl) rfl (by decide) g_hpI ?_
    refine tz_goto (tgt := 4) (g_at ck_X6_allRoads 16 rfl) rfl ?_
    exact ihi
theorem sp_roadIndex {l : Launch} {γ : Gh} {ρ m : Mm} {c r : Int} (hR : MR m) : gE l γ μX6_roadIndex 0 0 0 (rI KK fun x ρ9 m9 => ρ = ρ9 ∧ MR m9 ∧ c * 5 + r = x ∧ m = m9) xN KK ρ m [vI c, vI r] := by
  refine gE.ofw cl_X6.2 ?_ rfl rfl (Nat.le_of_ble_eq_true rfl)
  show gT l γ μX6_roadIndex 0 0 0 _ _ KK ρ m 0 [some (vI c), some (vI r)] []
  refine tz_iload0 (n := 1) (g_at ck_X6_roadIndex 0 rfl) rfl ?_
  refine tz_iconst (n := 2) (g_at ck_X6_roadIndex 1 rfl) rfl ?_
  refine tz_imul (n := 3) (g_at ck_X6_roadIndex 2 rfl) rfl ?_
  refine tz_iload1 (n := 4) (g_at ck_X6_roadIndex 3 rfl) rfl ?_
  refine tz_iadd (n := 5) (g_at ck_X6_roadIndex 4 rfl) rfl ?_
  exact tz_iret (g_at ck_X6_roadIndex 5 rfl) rfl (rI_mk ⟨rfl, hR, rfl, rfl⟩)
theorem sp_leads {l : Launch} {γ : Gh} {ρ m : Mm} {ld c r : Int} (hS : isS ρ ld) (hR : MR m) (hb : 0 ≤ c * 5 + r ∧ c * 5 + r < 45) : gE l γ μX6_leads 1 0 0 (rI KK fun x ρ9 m9 => ρ = ρ9 ∧ MR m9 ∧ m (ld + 4) (c * 5 + r) = x ∧ m = m9) xN KK ρ m [vR ld, vI c, vI r] := by
  refine gE.ofw cl_X6.2 ?_ rfl rfl (Nat.le_of_ble_eq_true rfl)
  show gT l γ μX6_leads 1 0 0 _ _ KK ρ m 0 [some (vR ld), some (vI c), some (vI r)] []
  refine tz_aload0 (n := 1) (g_at ck_X6_leads 0 rfl) rfl (g_ne hS.k0) ?_
  refine tz_getAv (n := 4) (a := (ld + 4)) fk_X6_21 hS.k0 hS.r0_5 (g_at ck_X6_leads 1 rfl) rfl ?_
  refine tz_iload1 (n := 5) (g_at ck_X6_leads 2 rfl) rfl ?_
  refine tz_iload2 (n := 6) (g_at ck_X6_leads 3 rfl) rfl ?_
  refine tz_csI2 (n := 9) (μ' := μX6_roadIndex) (cb' := 0) (sb' := 0) ml_X6_63 mo_X6_roadIndex ms_X6_roadIndex np_X6_roadIndex (g_at ck_X6_leads 4 rfl) (sp_roadIndex hR) rfl rfl ⟨by decide, by decide⟩ (Nat.le_of_ble_eq_true rfl) (by decide) (by decide) (fun x6 ρ9 m6 hq => ?_)
  obtain ⟨rfl, hR1, rfl, rfl⟩ := hq
  refine tz_iald (n := 10) hS.k4 (by omega) (g_at ck_X6_leads 5 rfl) rfl ?_
  exact tz_iret (g_at ck_X6_leads 6 rfl) rfl (rI_mk ⟨rfl, hR1, rfl, rfl⟩)
theorem sp_others {l : Launch} {γ : Gh} {ρ m : Mm} {ld mo p : Int} (hS : isS ρ ld) (hM : isM ρ mo) (hR : MR m) (hp : 0 ≤ m ld 1 ∧ m ld 1 ≤ 8) (hb : 0 ≤ p ∧ p < 8) : gE l γ μX6_others 1 0 0 (rI KK fun x ρ9 m9 => ρ = ρ9 ∧ MR m9 ∧ bcJ (bitsW (m (mo + 1)) (m (mo + 1) p) (m ld 1).toNat) - 1 = x ∧ m = m9) xN KK ρ m [vR ld, vR mo, vI p] := by
  refine gE.ofw cl_X6.2 ?_ rfl rfl (Nat.le_of_ble_eq_true rfl)
  show gT l γ μX6_others 1 0 0 _ _ KK ρ m 0 [some (vR ld), some (vR mo), some (vI p)] []
  refine tz_aload0 (n := 1) (g_at ck_X6_others 0 rfl) rfl (g_ne hS.k0) ?_
  refine tz_aload1 (n := 2) (g_at ck_X6_others 1 rfl) rfl (g_ne hM.k0) ?_
  refine tz_aload1 (n := 3) (g_at ck_X6_others 2 rfl) rfl (g_ne hM.k0) ?_
  refine tz_getAv (n := 6) (a := (mo + 1)) fk_X6_67 hM.k0 hM.r0_1 (g_at ck_X6_others 3 rfl) rfl ?_
  refine tz_iload2 (n := 7) (g_at ck_X6_others 4 rfl) rfl ?_
  refine tz_iald (n := 8) hM.k1 (by omega) (g_at ck_X6_others 5 rfl) rfl ?_
  refine tz_cvI2 (n := 11) (μ' := μX6_peopleAt) (cb' := 0) (sb' := 0) ml_X6_70 mo_X6_peopleAt mv_X6_peopleAt np_X6_peopleAt hS.k0 (g_at ck_X6_others 6 rfl) (sp_peopleAt hS hM hR hp ⟨(hR _ _).1, (hR _ _).2⟩) rfl rfl rfl ⟨by decide, by decide⟩ (Nat.le_of_ble_eq_true rfl) (by decide) (by decide) (fun x8 ρ9 m8 hq => ?_)
  obtain ⟨rfl, hR1, rfl, rfl⟩ := hq
  refine tz_csI1 (n := 14) (μ' := μJ6_bitCount_0f7a4) (cb' := 0) (sb' := 0) ml_X6_74 mo_J6_bitCount_0f7a4 ms_J6_bitCount_0f7a4 np_J6_bitCount_0f7a4 (g_at ck_X6_others 7 rfl) (sp_bitCount hR1) rfl rfl ⟨by decide, by decide⟩ (Nat.le_of_ble_eq_true rfl) (by decide) (by decide) (fun x11 ρ9 m11 hq => ?_)
  obtain ⟨rfl, hR2, rfl, rfl⟩ := hq
  refine tz_iconst (n := 15) (g_at ck_X6_others 8 rfl) rfl ?_
  refine tz_isub (n := 16) (g_at ck_X6_others 9 rfl) rfl ?_
  exact tz_iret (g_at ck_X6_others 10 rfl) rfl (rI_mk ⟨rfl, hR2, rfl, rfl⟩)
theorem sp_addRoad {l : Launch} {γ : Gh} {ρ m : Mm} {ld a b : Int} (hS : isS ρ ld) (hR : MR m) (ha : 0 ≤ a ∧ a < 9) (hr : 0 ≤ m (ld + 3) a ∧ m (ld + 3) a < 5) (hb : -2147483648 ≤ b ∧ b < 2147483648) : gE l γ μX6_addRoad 1 0 0 (rV KK fun ρ9 m9 => ρ = ρ9 ∧ MR m9 ∧ wr (wr m (ld + 4) (a * 5 + m (ld + 3) a) b) (ld + 3) a (wr m (ld + 4) (a * 5 + m (ld + 3) a) b (ld + 3) a + 1) = m9) xN KK ρ m [vR ld, vI a, vI b] := by
  refine gE.ofw cl_X6.2 ?_ rfl rfl (Nat.le_of_ble_eq_true rfl)
  show gT l γ μX6_addRoad 1 0 0 _ _ KK ρ m 0 [some (vR ld), some (vI a), some (vI b)] []
  refine tz_aload0 (n := 1) (g_at ck_X6_addRoad 0 rfl) rfl (g_ne hS.k0) ?_
  refine tz_getAv (n := 4) (a := (ld + 3)) fk_X6_18 hS.k0 hS.r0_4 (g_at ck_X6_addRoad 1 rfl) rfl ?_
  refine tz_iload1 (n := 5) (g_at ck_X6_addRoad 2 rfl) rfl ?_
  refine tz_iald (n := 6) hS.k3 (by omega) (g_at ck_X6_addRoad 3 rfl) rfl ?_
  refine tz_iconst (n := 7) (g_at ck_X6_addRoad 4 rfl) rfl ?_
  refine tz_icmp_ge (n := 10) (tgt := 36) (g_at ck_X6_addRoad 5 rfl) rfl rfl ⟨(hR _ _).1, (hR _ _).2, (by decide), (by decide)⟩ (fun h7 => absurd h7 (by omega)) (fun h7 => ?_)
  refine tz_aload0 (n := 11) (g_at ck_X6_addRoad 6 rfl) rfl (g_ne hS.k0) ?_
  refine tz_getAv (n := 14) (a := (ld + 4)) fk_X6_21 hS.k0 hS.r0_5 (g_at ck_X6_addRoad 7 rfl) rfl ?_
  refine tz_iload1 (n := 15) (g_at ck_X6_addRoad 8 rfl) rfl ?_
  refine tz_aload0 (n := 16) (g_at ck_X6_addRoad 9 rfl) rfl (g_ne hS.k0) ?_
  refine tz_getAv (n := 19) (a := (ld + 3)) fk_X6_18 hS.k0 hS.r0_4 (g_at ck_X6_addRoad 10 rfl) rfl ?_
  refine tz_iload1 (n := 20) (g_at ck_X6_addRoad 11 rfl) rfl ?_
  refine tz_iald (n := 21) hS.k3 (by omega) (g_at ck_X6_addRoad 12 rfl) rfl ?_
  refine tz_csI2 (n := 24) (μ' := μX6_roadIndex) (cb' := 0) (sb' := 0) ml_X6_63 mo_X6_roadIndex ms_X6_roadIndex np_X6_roadIndex (g_at ck_X6_addRoad 13 rfl) (sp_roadIndex hR) rfl rfl ⟨by decide, by decide⟩ (Nat.le_of_ble_eq_true rfl) (by decide) (by decide) (fun x21 ρ9 m21 hq => ?_)
  obtain ⟨rfl, hR1, rfl, rfl⟩ := hq
  refine tz_iload2 (n := 25) (g_at ck_X6_addRoad 14 rfl) rfl ?_
  refine tz_iastr (n := 26) hS.k4 (by omega) (g_at ck_X6_addRoad 15 rfl) rfl hR1 ⟨hb.1, hb.2⟩ (fun hR2 => ?_)
  refine tz_aload0 (n := 27) (g_at ck_X6_addRoad 16 rfl) rfl (g_ne hS.k0) ?_
  refine tz_getAv (n := 30) (a := (ld + 3)) fk_X6_18 hS.k0 hS.r0_4 (g_at ck_X6_addRoad 17 rfl) rfl ?_
  refine tz_iload1 (n := 31) (g_at ck_X6_addRoad 18 rfl) rfl ?_
  refine tz_dup2 (n := 32) (g_at ck_X6_addRoad 19 rfl) rfl ?_
  refine tz_iald (n := 33) hS.k3 (by omega) (g_at ck_X6_addRoad 20 rfl) rfl ?_
  refine tz_iconst (n := 34) (g_at ck_X6_addRoad 21 rfl) rfl ?_
  refine tz_iadd (n := 35) (g_at ck_X6_addRoad 22 rfl) rfl ?_
  refine tz_iastr (n := 36) hS.k3 (by omega) (g_at ck_X6_addRoad 23 rfl) rfl hR2 (by rw [wr_ne (by omega)]; omega) (fun hR3 => ?_)
  exact tz_vret (g_at ck_X6_addRoad 24 rfl) rfl (rV_mk ⟨rfl, hR3, rfl⟩)
theorem sp_isShut {l : Launch} {γ : Gh} {ρ m : Mm} {mo c r : Int} (hM : isM ρ mo) (hR : MR m) (hc : 0 ≤ c ∧ c < 9) : gE l γ μX2_isShut 0 0 0 (rI KK fun x ρ9 m9 => ρ = ρ9 ∧ MR m9 ∧ shutB (m (mo + 4) c) r = x ∧ m = m9) xN KK ρ m [vR mo, vI c, vI r] := by
  refine gE.ofw cl_X2.2 ?_ rfl rfl (Nat.le_of_ble_eq_true rfl)
  show gT l γ μX2_isShut 0 0 0 _ _ KK ρ m 0 [some (vR mo), some (vI c), some (vI r)] []
  refine tz_aload0 (n := 1) (g_at ck_X2_isShut 0 rfl) rfl (g_ne hM.k0) ?_
  refine tz_getAv (n := 4) (a := (mo + 4)) fk_X2_21 hM.k0 hM.r0_4 (g_at ck_X2_isShut 1 rfl) rfl ?_
  refine tz_iload1 (n := 5) (g_at ck_X2_isShut 2 rfl) rfl ?_
  refine tz_iald (n := 6) hM.k4 (by omega) (g_at ck_X2_isShut 3 rfl) rfl ?_
  refine tz_iload2 (n := 7) (g_at ck_X2_isShut 4 rfl) rfl ?_
  refine tz_ishr (n := 8) (g_at ck_X2_isShut 5 rfl) rfl ?_
  refine tz_iconst (n := 9) (g_at ck_X2_isShut 6 rfl) rfl ?_
  refine tz_iand (n := 10) (g_at ck_X2_isShut 7 rfl) rfl ?_
  refine tz_iconst (n := 11) (g_at ck_X2_isShut 8 rfl) rfl ?_
  refine tz_icmp_ne (n := 14) (tgt := 18) (g_at ck_X2_isShut 9 rfl) rfl rfl ⟨(bAnd_rg _ _).1, (bAnd_rg _ _).2, (by decide), (by decide)⟩ (fun h11 => ?_) (fun h11 => ?_)
  · skip
    refine tz_iconst (n := 19) (g_at ck_X2_isShut 12 rfl) rfl ?_
    exact tz_bret (g_at ck_X2_isShut 13 rfl) rfl (by decide) (rI_mk ⟨rfl, hR, by simp [shutB, h11], rfl⟩)
  · skip
    refine tz_iconst (n := 15) (g_at ck_X2_isShut 10 rfl) rfl ?_
    refine tz_goto (tgt := 19) (g_at ck_X2_isShut 11 rfl) rfl ?_
    exact tz_bret (g_at ck_X2_isShut 13 rfl) rfl (by decide) (rI_mk ⟨rfl, hR, by simp [shutB, h11], rfl⟩)
theorem sp_momClear {l : Launch} {γ : Gh} {ρ m : Mm} {mo : Int} (hM : isM ρ mo) (hR : MR m) : gE l γ μX2_clear 1 0 0 (rV KK fun ρ9 m9 => ρ = ρ9 ∧ MR m9 ∧ momclr m mo = m9) xN KK ρ m [vR mo] := by
  refine gE.ofw cl_X2.2 ?_ rfl rfl (Nat.le_of_ble_eq_true rfl)
  show gT l γ μX2_clear 1 0 0 _ _ KK ρ m 0 [some (vR mo)] []
  refine tz_aload0 (n := 1) (g_at ck_X2_clear 0 rfl) rfl (g_ne hM.k0) ?_
  refine tz_iconst (n := 2) (g_at ck_X2_clear 1 rfl) rfl ?_
  refine tz_putIr (n := 5) (kz := 0) fk_X2_24 hM.k0 (g_at ck_X2_clear 2 rfl) rfl hR ⟨(by decide), (by decide)⟩ rfl (fun hR1 => ?_)
  refine tz_aload0 (n := 6) (g_at ck_X2_clear 3 rfl) rfl (g_ne hM.k0) ?_
  refine tz_getAv (n := 9) (a := (mo + 1)) fk_X2_9 hM.k0 hM.r0_1 (g_at ck_X2_clear 4 rfl) rfl ?_
  refine tz_iconst (n := 10) (g_at ck_X2_clear 5 rfl) rfl ?_
  refine tz_csV2 (n := 13) (μ' := μJ7_fill_53178) (cb' := 0) (sb' := 0) ml_X2_28 mo_J7_fill_53178 ms_J7_fill_53178 np_J7_fill_53178 (g_at ck_X2_clear 6 rfl) (sp_fill hM.k1 (by decide) hR1 ⟨(by decide), (by decide)⟩) rfl rfl ⟨by decide, by decide⟩ (Nat.le_of_ble_eq_true rfl) (by decide) (by decide) (fun ρ9 m10 hq => ?_)
  obtain ⟨rfl, hR2, rfl⟩ := hq
  refine tz_aload0 (n := 14) (g_at ck_X2_clear 7 rfl) rfl (g_ne hM.k0) ?_
  refine tz_getAv (n := 17) (a := (mo + 2)) fk_X2_15 hM.k0 hM.r0_2 (g_at ck_X2_clear 8 rfl) rfl ?_
  refine tz_iconst (n := 18) (g_at ck_X2_clear 9 rfl) rfl ?_
  refine tz_csV2 (n := 21) (μ' := μJ7_fill_53178) (cb' := 0) (sb' := 0) ml_X2_28 mo_J7_fill_53178 ms_J7_fill_53178 np_J7_fill_53178 (g_at ck_X2_clear 10 rfl) (sp_fill hM.k2 (by decide) hR2 ⟨(by decide), (by decide)⟩) rfl rfl ⟨by decide, by decide⟩ (Nat.le_of_ble_eq_true rfl) (by decide) (by decide) (fun ρ9 m18 hq => ?_)
  obtain ⟨rfl, hR3, rfl⟩ := hq
  refine tz_aload0 (n := 22) (g_at ck_X2_clear 11 rfl) rfl (g_ne hM.k0) ?_
  refine tz_getAv (n := 25) (a := (mo + 3)) fk_X2_18 hM.k0 hM.r0_3 (g_at ck_X2_clear 12 rfl) rfl ?_
  refine tz_iconst (n := 26) (g_at ck_X2_clear 13 rfl) rfl ?_
  refine tz_csV2 (n := 29) (μ' := μJ7_fill_53178) (cb' := 0) (sb' := 0) ml_X2_28 mo_J7_fill_53178 ms_J7_fill_53178 np_J7_fill_53178 (g_at ck_X2_clear 14 rfl) (sp_fill hM.k3 (by decide) hR3 ⟨(by decide), (by decide)⟩) rfl rfl ⟨by decide, by decide⟩ (Nat.le_of_ble_eq_true rfl) (by decide) (by decide) (fun ρ9 m26 hq => ?_)
  obtain ⟨rfl, hR4, rfl⟩ := hq
  refine tz_aload0 (n := 30) (g_at ck_X2_clear 15 rfl) rfl (g_ne hM.k0) ?_
  refine tz_getAv (n := 33) (a := (mo + 4)) fk_X2_21 hM.k0 hM.r0_4 (g_at ck_X2_clear 16 rfl) rfl ?_
  refine tz_iconst (n := 34) (g_at ck_X2_clear 17 rfl) rfl ?_
  refine tz_csV2 (n := 37) (μ' := μJ7_fill_53178) (cb' := 0) (sb' := 0) ml_X2_28 mo_J7_fill_53178 ms_J7_fill_53178 np_J7_fill_53178 (g_at ck_X2_clear 18 rfl) (sp_fill hM.k4 (by decide) hR4 ⟨(by decide), (by decide)⟩) rfl rfl ⟨by decide, by decide⟩ (Nat.le_of_ble_eq_true rfl) (by decide) (by decide) (fun ρ9 m34 hq => ?_)
  obtain ⟨rfl, hR5, rfl⟩ := hq
  exact tz_vret (g_at ck_X2_clear 19 rfl) rfl (rV_mk ⟨rfl, hR5, rfl⟩)
theorem sp_momCopy {l : Launch} {γ : Gh} {ρ m : Mm} {mo o : Int} (hM : isM ρ mo) (hO : isM ρ o) (hR : MR m) : gE l γ μX2_copy 2 0 0 (rV KK fun ρ9 m9 => ρ = ρ9 ∧ MR m9 ∧ momcp m o mo = m9) xN KK ρ m [vR mo, vR o] := by
  refine gE.ofw cl_X2.2 ?_ rfl rfl (Nat.le_of_ble_eq_true rfl)
  show gT l γ μX2_copy 2 0 0 _ _ KK ρ m 0 [some (vR mo), some (vR o)] []
  refine tz_aload0 (n := 1) (g_at ck_X2_copy 0 rfl) rfl (g_ne hM.k0) ?_
  refine tz_aload1 (n := 2) (g_at ck_X2_copy 1 rfl) rfl (g_ne hO.k0) ?_
  refine tz_getIw (n := 5) (kz := 0) fk_X2_24 hO.k0 (g_at ck_X2_copy 2 rfl) rfl rfl ?_
  refine tz_putIr (n := 8) (kz := 0) fk_X2_24 hM.k0 (g_at ck_X2_copy 3 rfl) rfl hR ⟨(hR _ _).1, (hR _ _).2⟩ rfl (fun hR1 => ?_)
  refine tz_aload1 (n := 9) (g_at ck_X2_copy 4 rfl) rfl (g_ne hO.k0) ?_
  refine tz_getAv (n := 12) (a := (o + 1)) fk_X2_9 hO.k0 hO.r0_1 (g_at ck_X2_copy 5 rfl) rfl ?_
  refine tz_iconst (n := 13) (g_at ck_X2_copy 6 rfl) rfl ?_
  refine tz_aload0 (n := 14) (g_at ck_X2_copy 7 rfl) rfl (g_ne hM.k0) ?_
  refine tz_getAv (n := 17) (a := (mo + 1)) fk_X2_9 hM.k0 hM.r0_1 (g_at ck_X2_copy 8 rfl) rfl ?_
  refine tz_iconst (n := 18) (g_at ck_X2_copy 9 rfl) rfl ?_
  refine tz_bipush (n := 20) (g_at ck_X2_copy 10 rfl) rfl rfl ?_
  refine tz_acopyr (n := 23) cp_X2_34 hO.k1 hM.k1 (by omega) (g_at ck_X2_copy 11 rfl) rfl (by decide) (Nat.le_of_ble_eq_true rfl) hR1 (fun hR2 => ?_)
  refine tz_aload1 (n := 24) (g_at ck_X2_copy 12 rfl) rfl (g_ne hO.k0) ?_
  refine tz_getAv (n := 27) (a := (o + 2)) fk_X2_15 hO.k0 hO.r0_2 (g_at ck_X2_copy 13 rfl) rfl ?_
  refine tz_iconst (n := 28) (g_at ck_X2_copy 14 rfl) rfl ?_
  refine tz_aload0 (n := 29) (g_at ck_X2_copy 15 rfl) rfl (g_ne hM.k0) ?_
  refine tz_getAv (n := 32) (a := (mo + 2)) fk_X2_15 hM.k0 hM.r0_2 (g_at ck_X2_copy 16 rfl) rfl ?_
  refine tz_iconst (n := 33) (g_at ck_X2_copy 17 rfl) rfl ?_
  refine tz_bipush (n := 35) (g_at ck_X2_copy 18 rfl) rfl rfl ?_
  refine tz_acopyr (n := 38) cp_X2_34 hO.k2 hM.k2 (by omega) (g_at ck_X2_copy 19 rfl) rfl (by decide) (Nat.le_of_ble_eq_true rfl) hR2 (fun hR3 => ?_)
  refine tz_aload1 (n := 39) (g_at ck_X2_copy 20 rfl) rfl (g_ne hO.k0) ?_
  refine tz_getAv (n := 42) (a := (o + 3)) fk_X2_18 hO.k0 hO.r0_3 (g_at ck_X2_copy 21 rfl) rfl ?_
  refine tz_iconst (n := 43) (g_at ck_X2_copy 22 rfl) rfl ?_
  refine tz_aload0 (n := 44) (g_at ck_X2_copy 23 rfl) rfl (g_ne hM.k0) ?_
  refine tz_getAv (n := 47) (a := (mo + 3)) fk_X2_18 hM.k0 hM.r0_3 (g_at ck_X2_copy 24 rfl) rfl ?_
  refine tz_iconst (n := 48) (g_at ck_X2_copy 25 rfl) rfl ?_
  refine tz_bipush (n := 50) (g_at ck_X2_copy 26 rfl) rfl rfl ?_
  refine tz_acopyr (n := 53) cp_X2_34 hO.k3 hM.k3 (by omega) (g_at ck_X2_copy 27 rfl) rfl (by decide) (Nat.le_of_ble_eq_true rfl) hR3 (fun hR4 => ?_)
  refine tz_aload1 (n := 54) (g_at ck_X2_copy 28 rfl) rfl (g_ne hO.k0) ?_
  refine tz_getAv (n := 57) (a := (o + 4)) fk_X2_21 hO.k0 hO.r0_4 (g_at ck_X2_copy 29 rfl) rfl ?_
  refine tz_iconst (n := 58) (g_at ck_X2_copy 30 rfl) rfl ?_
  refine tz_aload0 (n := 59) (g_at ck_X2_copy 31 rfl) rfl (g_ne hM.k0) ?_
  refine tz_getAv (n := 62) (a := (mo + 4)) fk_X2_21 hM.k0 hM.r0_4 (g_at ck_X2_copy 32 rfl) rfl ?_
  refine tz_iconst (n := 63) (g_at ck_X2_copy 33 rfl) rfl ?_
  refine tz_bipush (n := 65) (g_at ck_X2_copy 34 rfl) rfl rfl ?_
  refine tz_acopyr (n := 68) cp_X2_34 hO.k4 hM.k4 (by omega) (g_at ck_X2_copy 35 rfl) rfl (by decide) (Nat.le_of_ble_eq_true rfl) hR4 (fun hR5 => ?_)
  exact tz_vret (g_at ck_X2_copy 36 rfl) rfl (rV_mk ⟨rfl, hR5, rfl⟩)
theorem sp_momWrite {l : Launch} {γ : Gh} {ρ m : Mm} {mo a t : Int} (hM : isM ρ mo) (hk : g_k KK a = some (.inr (0, 1400))) (hR : MR m) (ht : 0 ≤ t ∧ t ≤ 1365) : gE l γ μX2_write 2 0 0 (rV KK fun ρ9 m9 => ρ = ρ9 ∧ MR m9 ∧ momwr m mo a t = m9) xN KK ρ m [vR mo, vR a, vI t] := by
  refine gE.ofw cl_X2.2 ?_ rfl rfl (Nat.le_of_ble_eq_true rfl)
  show gT l γ μX2_write 2 0 0 _ _ KK ρ m 0 [some (vR mo), some (vR a), some (vI t)] []
  refine tz_iload2 (n := 1) (g_at ck_X2_write 0 rfl) rfl ?_
  refine tz_if_lt (n := 4) (tgt := 13) (g_at ck_X2_write 1 rfl) rfl rfl ⟨(by omega), (by omega)⟩ (fun h1 => absurd h1 (by omega)) (fun h1 => ?_)
  refine tz_iload2 (n := 5) (g_at ck_X2_write 2 rfl) rfl ?_
  refine tz_aload1 (n := 6) (g_at ck_X2_write 3 rfl) rfl (g_ne hk) ?_
  refine tz_alen (n := 7) hk (g_at ck_X2_write 4 rfl) rfl ?_
  refine tz_bipush (n := 9) (g_at ck_X2_write 5 rfl) rfl rfl ?_
  refine tz_isub (n := 10) (g_at ck_X2_write 6 rfl) rfl ?_
  refine tz_icmp_le (n := 13) (tgt := 14) (g_at ck_X2_write 7 rfl) rfl rfl ⟨(by omega), (by omega), (by omega), (by omega)⟩ (fun h10 => ?_) (fun h10 => absurd h10 (by omega))
  refine tz_aload1 (n := 15) (g_at ck_X2_write 9 rfl) rfl (g_ne hk) ?_
  refine tz_iload2 (n := 16) (g_at ck_X2_write 10 rfl) rfl ?_
  refine tz_aload0 (n := 17) (g_at ck_X2_write 11 rfl) rfl (g_ne hM.k0) ?_
  refine tz_getIw (n := 20) (kz := 0) fk_X2_24 hM.k0 (g_at ck_X2_write 12 rfl) rfl rfl ?_
  refine tz_iastr (n := 21) hk (by omega) (g_at ck_X2_write 13 rfl) rfl hR ⟨(hR _ _).1, (hR _ _).2⟩ (fun hR1 => ?_)
  refine tz_aload0 (n := 22) (g_at ck_X2_write 14 rfl) rfl (g_ne hM.k0) ?_
  refine tz_getAv (n := 25) (a := (mo + 1)) fk_X2_9 hM.k0 hM.r0_1 (g_at ck_X2_write 15 rfl) rfl ?_
  refine tz_iconst (n := 26) (g_at ck_X2_write 16 rfl) rfl ?_
  refine tz_aload1 (n := 27) (g_at ck_X2_write 17 rfl) rfl (g_ne hk) ?_
  refine tz_iload2 (n := 28) (g_at ck_X2_write 18 rfl) rfl ?_
  refine tz_iconst (n := 29) (g_at ck_X2_write 19 rfl) rfl ?_
  refine tz_iadd (n := 30) (g_at ck_X2_write 20 rfl) rfl ?_
  refine tz_bipush (n := 32) (g_at ck_X2_write 21 rfl) rfl rfl ?_
  refine tz_acopyr (n := 35) cp_X2_34 hM.k1 hk (by omega) (g_at ck_X2_write 22 rfl) rfl (by decide) (Nat.le_of_ble_eq_true rfl) hR1 (fun hR2 => ?_)
  refine tz_aload0 (n := 36) (g_at ck_X2_write 23 rfl) rfl (g_ne hM.k0) ?_
  refine tz_getAv (n := 39) (a := (mo + 2)) fk_X2_15 hM.k0 hM.r0_2 (g_at ck_X2_write 24 rfl) rfl ?_
  refine tz_iconst (n := 40) (g_at ck_X2_write 25 rfl) rfl ?_
  refine tz_aload1 (n := 41) (g_at ck_X2_write 26 rfl) rfl (g_ne hk) ?_
  refine tz_iload2 (n := 42) (g_at ck_X2_write 27 rfl) rfl ?_
  refine tz_iconst (n := 43) (g_at ck_X2_write 28 rfl) rfl ?_
  refine tz_iadd (n := 44) (g_at ck_X2_write 29 rfl) rfl ?_
  refine tz_bipush (n := 46) (g_at ck_X2_write 30 rfl) rfl rfl ?_
  refine tz_iadd (n := 47) (g_at ck_X2_write 31 rfl) rfl ?_
  refine tz_bipush (n := 49) (g_at ck_X2_write 32 rfl) rfl rfl ?_
  refine tz_acopyr (n := 52) cp_X2_34 hM.k2 hk (by omega) (g_at ck_X2_write 33 rfl) rfl (by decide) (Nat.le_of_ble_eq_true rfl) hR2 (fun hR3 => ?_)
  refine tz_aload0 (n := 53) (g_at ck_X2_write 34 rfl) rfl (g_ne hM.k0) ?_
  refine tz_getAv (n := 56) (a := (mo + 3)) fk_X2_18 hM.k0 hM.r0_3 (g_at ck_X2_write 35 rfl) rfl ?_
  refine tz_iconst (n := 57) (g_at ck_X2_write 36 rfl) rfl ?_
  refine tz_aload1 (n := 58) (g_at ck_X2_write 37 rfl) rfl (g_ne hk) ?_
  refine tz_iload2 (n := 59) (g_at ck_X2_write 38 rfl) rfl ?_
  refine tz_iconst (n := 60) (g_at ck_X2_write 39 rfl) rfl ?_
  refine tz_iadd (n := 61) (g_at ck_X2_write 40 rfl) rfl ?_
  refine tz_bipush (n := 63) (g_at ck_X2_write 41 rfl) rfl rfl ?_
  refine tz_iadd (n := 64) (g_at ck_X2_write 42 rfl) rfl ?_
  refine tz_bipush (n := 66) (g_at ck_X2_write 43 rfl) rfl rfl ?_
  refine tz_acopyr (n := 69) cp_X2_34 hM.k3 hk (by omega) (g_at ck_X2_write 44 rfl) rfl (by decide) (Nat.le_of_ble_eq_true rfl) hR3 (fun hR4 => ?_)
  refine tz_aload0 (n := 70) (g_at ck_X2_write 45 rfl) rfl (g_ne hM.k0) ?_
  refine tz_getAv (n := 73) (a := (mo + 4)) fk_X2_21 hM.k0 hM.r0_4 (g_at ck_X2_write 46 rfl) rfl ?_
  refine tz_iconst (n := 74) (g_at ck_X2_write 47 rfl) rfl ?_
  refine tz_aload1 (n := 75) (g_at ck_X2_write 48 rfl) rfl (g_ne hk) ?_
  refine tz_iload2 (n := 76) (g_at ck_X2_write 49 rfl) rfl ?_
  refine tz_iconst (n := 77) (g_at ck_X2_write 50 rfl) rfl ?_
  refine tz_iadd (n := 78) (g_at ck_X2_write 51 rfl) rfl ?_
  refine tz_bipush (n := 80) (g_at ck_X2_write 52 rfl) rfl rfl ?_
  refine tz_iadd (n := 81) (g_at ck_X2_write 53 rfl) rfl ?_
  refine tz_bipush (n := 83) (g_at ck_X2_write 54 rfl) rfl rfl ?_
  refine tz_iadd (n := 84) (g_at ck_X2_write 55 rfl) rfl ?_
  refine tz_bipush (n := 86) (g_at ck_X2_write 56 rfl) rfl rfl ?_
  refine tz_acopyr (n := 89) cp_X2_34 hM.k4 hk (by omega) (g_at ck_X2_write 57 rfl) rfl (by decide) (Nat.le_of_ble_eq_true rfl) hR4 (fun hR5 => ?_)
  exact tz_vret (g_at ck_X2_write 58 rfl) rfl (rV_mk ⟨rfl, hR5, rfl⟩)
theorem sp_momRead {l : Launch} {γ : Gh} {ρ m : Mm} {mo a t : Int} (hM : isM ρ mo) (hk : g_k KK a = some (.inr (0, 1400))) (hR : MR m) (ht : 0 ≤ t ∧ t ≤ 1365) : gE l γ μX2_readBack 2 0 0 (rV KK fun ρ9 m9 => ρ = ρ9 ∧ MR m9 ∧ momrd m mo a t = m9) xN KK ρ m [vR mo, vR a, vI t] := by
  refine gE.ofw cl_X2.2 ?_ rfl rfl (Nat.le_of_ble_eq_true rfl)
  show gT l γ μX2_readBack 2 0 0 _ _ KK ρ m 0 [some (vR mo), some (vR a), some (vI t)] []
  refine tz_iload2 (n := 1) (g_at ck_X2_readBack 0 rfl) rfl ?_
  refine tz_if_lt (n := 4) (tgt := 13) (g_at ck_X2_readBack 1 rfl) rfl rfl ⟨(by omega), (by omega)⟩ (fun h1 => absurd h1 (by omega)) (fun h1 => ?_)
  refine tz_iload2 (n := 5) (g_at ck_X2_readBack 2 rfl) rfl ?_
  refine tz_aload1 (n := 6) (g_at ck_X2_readBack 3 rfl) rfl (g_ne hk) ?_
  refine tz_alen (n := 7) hk (g_at ck_X2_readBack 4 rfl) rfl ?_
  refine tz_bipush (n := 9) (g_at ck_X2_readBack 5 rfl) rfl rfl ?_
  refine tz_isub (n := 10) (g_at ck_X2_readBack 6 rfl) rfl ?_
  refine tz_icmp_le (n := 13) (tgt := 14) (g_at ck_X2_readBack 7 rfl) rfl rfl ⟨(by omega), (by omega), (by omega), (by omega)⟩ (fun h10 => ?_) (fun h10 => absurd h10 (by omega))
  refine tz_aload0 (n := 15) (g_at ck_X2_readBack 9 rfl) rfl (g_ne hM.k0) ?_
  refine tz_aload1 (n := 16) (g_at ck_X2_readBack 10 rfl) rfl (g_ne hk) ?_
  refine tz_iload2 (n := 17) (g_at ck_X2_readBack 11 rfl) rfl ?_
  refine tz_iald (n := 18) hk (by omega) (g_at ck_X2_readBack 12 rfl) rfl ?_
  refine tz_putIr (n := 21) (kz := 0) fk_X2_24 hM.k0 (g_at ck_X2_readBack 13 rfl) rfl hR ⟨(hR _ _).1, (hR _ _).2⟩ rfl (fun hR1 => ?_)
  refine tz_aload1 (n := 22) (g_at ck_X2_readBack 14 rfl) rfl (g_ne hk) ?_
  refine tz_iload2 (n := 23) (g_at ck_X2_readBack 15 rfl) rfl ?_
  refine tz_iconst (n := 24) (g_at ck_X2_readBack 16 rfl) rfl ?_
  refine tz_iadd (n := 25) (g_at ck_X2_readBack 17 rfl) rfl ?_
  refine tz_aload0 (n := 26) (g_at ck_X2_readBack 18 rfl) rfl (g_ne hM.k0) ?_
  refine tz_getAv (n := 29) (a := (mo + 1)) fk_X2_9 hM.k0 hM.r0_1 (g_at ck_X2_readBack 19 rfl) rfl ?_
  refine tz_iconst (n := 30) (g_at ck_X2_readBack 20 rfl) rfl ?_
  refine tz_bipush (n := 32) (g_at ck_X2_readBack 21 rfl) rfl rfl ?_
  refine tz_acopyr (n := 35) cp_X2_34 hk hM.k1 (by omega) (g_at ck_X2_readBack 22 rfl) rfl (by decide) (Nat.le_of_ble_eq_true rfl) hR1 (fun hR2 => ?_)
  refine tz_aload1 (n := 36) (g_at ck_X2_readBack 23 rfl) rfl (g_ne hk) ?_
  refine tz_iload2 (n := 37) (g_at ck_X2_readBack 24 rfl) rfl ?_
  refine tz_iconst (n := 38) (g_at ck_X2_readBack 25 rfl) rfl ?_
  refine tz_iadd (n := 39) (g_at ck_X2_readBack 26 rfl) rfl ?_
  refine tz_bipush (n := 41) (g_at ck_X2_readBack 27 rfl) rfl rfl ?_
  refine tz_iadd (n := 42) (g_at ck_X2_readBack 28 rfl) rfl ?_
  refine tz_aload0 (n := 43) (g_at ck_X2_readBack 29 rfl) rfl (g_ne hM.k0) ?_
  refine tz_getAv (n := 46) (a := (mo + 2)) fk_X2_15 hM.k0 hM.r0_2 (g_at ck_X2_readBack 30 rfl) rfl ?_
  refine tz_iconst (n := 47) (g_at ck_X2_readBack 31 rfl) rfl ?_
  refine tz_bipush (n := 49) (g_at ck_X2_readBack 32 rfl) rfl rfl ?_
  refine tz_acopyr (n := 52) cp_X2_34 hk hM.k2 (by omega) (g_at ck_X2_readBack 33 rfl) rfl (by decide) (Nat.le_of_ble_eq_true rfl) hR2 (fun hR3 => ?_)
  refine tz_aload1 (n := 53) (g_at ck_X2_readBack 34 rfl) rfl (g_ne hk) ?_
  refine tz_iload2 (n := 54) (g_at ck_X2_readBack 35 rfl) rfl ?_
  refine tz_iconst (n := 55) (g_at ck_X2_readBack 36 rfl) rfl ?_
  refine tz_iadd (n := 56) (g_at ck_X2_readBack 37 rfl) rfl ?_
  refine tz_bipush (n := 58) (g_at ck_X2_readBack 38 rfl) rfl rfl ?_
  refine tz_iadd (n := 59) (g_at ck_X2_readBack 39 rfl) rfl ?_
  refine tz_aload0 (n := 60) (g_at ck_X2_readBack 40 rfl) rfl (g_ne hM.k0) ?_
  refine tz_getAv (n := 63) (a := (mo + 3)) fk_X2_18 hM.k0 hM.r0_3 (g_at ck_X2_readBack 41 rfl) rfl ?_
  refine tz_iconst (n := 64) (g_at ck_X2_readBack 42 rfl) rfl ?_
  refine tz_bipush (n := 66) (g_at ck_X2_readBack 43 rfl) rfl rfl ?_
  refine tz_acopyr (n := 69) cp_X2_34 hk hM.k3 (by omega) (g_at ck_X2_readBack 44 rfl) rfl (by decide) (Nat.le_of_ble_eq_true rfl) hR3 (fun hR4 => ?_)
  refine tz_aload1 (n := 70) (g_at ck_X2_readBack 45 rfl) rfl (g_ne hk) ?_
  refine tz_iload2 (n := 71) (g_at ck_X2_readBack 46 rfl) rfl ?_
  refine tz_iconst (n := 72) (g_at ck_X2_readBack 47 rfl) rfl ?_
  refine tz_iadd (n := 73) (g_at ck_X2_readBack 48 rfl) rfl ?_
  refine tz_bipush (n := 75) (g_at ck_X2_readBack 49 rfl) rfl rfl ?_
  refine tz_iadd (n := 76) (g_at ck_X2_readBack 50 rfl) rfl ?_
  refine tz_bipush (n := 78) (g_at ck_X2_readBack 51 rfl) rfl rfl ?_
  refine tz_iadd (n := 79) (g_at ck_X2_readBack 52 rfl) rfl ?_
  refine tz_aload0 (n := 80) (g_at ck_X2_readBack 53 rfl) rfl (g_ne hM.k0) ?_
  refine tz_getAv (n := 83) (a := (mo + 4)) fk_X2_21 hM.k0 hM.r0_4 (g_at ck_X2_readBack 54 rfl) rfl ?_
  refine tz_iconst (n := 84) (g_at ck_X2_readBack 55 rfl) rfl ?_
  refine tz_bipush (n := 86) (g_at ck_X2_readBack 56 rfl) rfl rfl ?_
  refine tz_acopyr (n := 89) cp_X2_34 hk hM.k4 (by omega) (g_at ck_X2_readBack 57 rfl) rfl (by decide) (Nat.le_of_ble_eq_true rfl) hR4 (fun hR5 => ?_)
  exact tz_vret (g_at ck_X2_readBack 58 rfl) rfl (rV_mk ⟨rfl, hR5, rfl⟩)
