/-! Shire, Moment: what they answer. -/
def bitsW (f : Int → Int) (c : Int) (n : Nat) : Int := fd (fun p v => if f (p : Int) = c then bOr v (bShl 1 (p : Int)) else v) 0 n
def bitsH (f g : Int → Int) (n : Nat) : Int := fd (fun p v => if f (p : Int) = g (p : Int) then bOr v (bShl 1 (p : Int)) else v) 0 n
def sumP (f : Int → Int) (n : Nat) : Int := fd (fun p v => v + f (p : Int)) 0 n
theorem sp_peopleAt {l : Launch} {γ : Gh} {ρ m : Mm} {ld mo c : Int} (hS : isS ρ ld) (hM : isM ρ mo) (hR : MR m) (hp : 0 ≤ m ld 1 ∧ m ld 1 ≤ 8) (hc : -2147483648 ≤ c ∧ c < 2147483648) : gE l γ μX6_peopleAt 0 0 0 (rI KK fun x ρ9 m9 => ρ = ρ9 ∧ MR m9 ∧ bitsW (m (mo + 1)) c (m ld 1).toNat = x ∧ m = m9) xN KK ρ m [vR ld, vR mo, vI c] := by
  refine gE.ofw cl_X6.2 ?_ rfl rfl (Nat.le_of_ble_eq_true rfl)
  show gT l γ μX6_peopleAt 0 0 0 _ _ KK ρ m 0 [some (vR ld), some (vR mo), some (vI c), none, none] []
  refine tz_iconst (n := 1) (g_at ck_X6_peopleAt 0 rfl) rfl ?_
  refine tz_istore3 (n := 2) (g_at ck_X6_peopleAt 1 rfl) rfl (by decide) g_hpI ?_
  refine tz_iconst (n := 3) (g_at ck_X6_peopleAt 2 rfl) rfl ?_
  refine tz_istore4 (n := 5) (g_at ck_X6_peopleAt 3 rfl) rfl (by decide) g_hpI ?_
  refine g_for (fun i : Nat => gT l γ μX6_peopleAt 0 0 0 _ _ KK ρ m 5 [some (vR ld), some (vR mo), some (vI c), some (vI (bitsW (m (mo + 1)) c i)), some (vI (i : Int))] []) (m ld 1).toNat ?_ (fun i hi ihi => ?_) 0 (Nat.zero_le _)
  · skip
    refine tz_iload4 (n := 7) (g_at ck_X6_peopleAt 4 rfl) rfl ?_
    refine tz_aload0 (n := 8) (g_at ck_X6_peopleAt 5 rfl) rfl (g_ne hS.k0) ?_
    refine tz_getIw (n := 11) (kz := 1) fk_X6_48 hS.k0 (g_at ck_X6_peopleAt 6 rfl) rfl rfl ?_
    refine tz_icmp_ge (n := 14) (tgt := 38) (g_at ck_X6_peopleAt 7 rfl) rfl rfl ⟨(by omega), (by omega), (hR _ _).1, (hR _ _).2⟩ (fun h11 => ?_) (fun h11 => absurd h11 (by omega))
    refine tz_iload3 (n := 39) (g_at ck_X6_peopleAt 22 rfl) rfl ?_
    exact tz_iret (g_at ck_X6_peopleAt 23 rfl) rfl (rI_mk ⟨rfl, hR, rfl, rfl⟩)
  · skip
    refine tz_iload4 (n := 7) (g_at ck_X6_peopleAt 4 rfl) rfl ?_
    refine tz_aload0 (n := 8) (g_at ck_X6_peopleAt 5 rfl) rfl (g_ne hS.k0) ?_
    refine tz_getIw (n := 11) (kz := 1) fk_X6_48 hS.k0 (g_at ck_X6_peopleAt 6 rfl) rfl rfl ?_
    refine tz_icmp_ge (n := 14) (tgt := 38) (g_at ck_X6_peopleAt 7 rfl) rfl rfl ⟨(by omega), (by omega), (hR _ _).1, (hR _ _).2⟩ (fun h11 => absurd h11 (by omega)) (fun h11 => ?_)
    refine tz_aload1 (n := 15) (g_at ck_X6_peopleAt 8 rfl) rfl (g_ne hM.k0) ?_
    refine tz_getAv (n := 18) (a := (mo + 1)) fk_X6_67 hM.k0 hM.r0_1 (g_at ck_X6_peopleAt 9 rfl) rfl ?_
    refine tz_iload4 (n := 20) (g_at ck_X6_peopleAt 10 rfl) rfl ?_
    refine tz_iald (n := 21) hM.k1 (by omega) (g_at ck_X6_peopleAt 11 rfl) rfl ?_
    refine tz_iload2 (n := 22) (g_at ck_X6_peopleAt 12 rfl) rfl ?_
    refine tz_icmp_ne (n := 25) (tgt := 32) (g_at ck_X6_peopleAt 13 rfl) rfl rfl ⟨(hR _ _).1, (hR _ _).2, hc.1, hc.2⟩ (fun h22 => ?_) (fun h22 => ?_)
    · skip
      refine tz_iinc4 (n := 35) (g_at ck_X6_peopleAt 20 rfl) rfl (by decide) g_hpI ?_
      refine tz_goto (tgt := 5) (g_at ck_X6_peopleAt 21 rfl) rfl ?_
      refine Eq.mp ?_ ihi
      unfold bitsW
      simp only [fd, h22, if_true, if_false]
      rfl
    · skip
      refine tz_iload3 (n := 26) (g_at ck_X6_peopleAt 14 rfl) rfl ?_
      refine tz_iconst (n := 27) (g_at ck_X6_peopleAt 15 rfl) rfl ?_
      refine tz_iload4 (n := 29) (g_at ck_X6_peopleAt 16 rfl) rfl ?_
      refine tz_ishl (n := 30) (g_at ck_X6_peopleAt 17 rfl) rfl ?_
      refine tz_ior (n := 31) (g_at ck_X6_peopleAt 18 rfl) rfl ?_
      refine tz_istore3 (n := 32) (g_at ck_X6_peopleAt 19 rfl) rfl (by decide) g_hpI ?_
      refine tz_iinc4 (n := 35) (g_at ck_X6_peopleAt 20 rfl) rfl (by decide) g_hpI ?_
      refine tz_goto (tgt := 5) (g_at ck_X6_peopleAt 21 rfl) rfl ?_
      refine Eq.mp ?_ ihi
      unfold bitsW
      simp only [fd, h22, if_true, if_false]
      rfl
