/-! The reference: how many roads. -/
def cBr (b : Int) (s : Int → Int) (c r : Int) : Int := if b = 0 then 1 else if shutB (s (26 + c)) r = 0 then 0 else 1
def raR (b : Int) (s : Int → Int) (c v : Int) (n : Nat) : Int := fd (fun r v => v + cBr b s c (r : Int)) v n
def raN (Λ : Mm) (b : Int) (s : Int → Int) (n : Nat) : Int := fd (fun c v => raR b s (c : Int) v (Λ 3 (c : Int)).toNat) 0 n
theorem ra_0 {s : Int → Int} {c v : Int} : ∀ n : Nat, raR 0 s c v n = v + n
  | 0 => (Int.add_zero v).symm
  | n + 1 => by
    show raR 0 s c v n + 1 = v + ((n + 1 : Nat) : Int)
    rw [ra_0 n]
    omega
theorem raN_0 {Λ : Mm} {s : Int → Int} (hW : WL Λ) : ∀ n : Nat, (n : Int) ≤ Λ 0 0 → raN Λ 0 s n = rdsN Λ n
  | 0, _ => rfl
  | n + 1, h => by
    have hc := hW.2.2.1 (n : Int) (by omega) (by omega)
    show raR 0 s (n : Int) (raN Λ 0 s n) (Λ 3 (n : Int)).toNat = rdsN Λ n + Λ 3 (n : Int)
    rw [raN_0 hW n (by omega), ra_0]
    omega
theorem ra_1 {s : Int → Int} {c v : Int} : ∀ n : Nat, raR 1 s c v n = v + fd (fun r u => u + shutB (s (26 + c)) (r : Int)) 0 n
  | 0 => (Int.add_zero v).symm
  | n + 1 => by
    have ih := ra_1 (s := s) (c := c) (v := v) n
    have h01 := shutB_01 (s (26 + c)) (n : Int)
    have e : cBr 1 s c (n : Int) = shutB (s (26 + c)) (n : Int) := by
      unfold cBr
      rw [if_neg (by decide)]
      split <;> omega
    show raR 1 s c v n + cBr 1 s c (n : Int) = v + (fd (fun r u => u + shutB (s (26 + c)) (r : Int)) 0 n + shutB (s (26 + c)) (n : Int))
    rw [ih, e]
    omega
theorem sh_bc : ∀ k : Nat, k < 6 → ∀ x : Nat, x < 32 → x < 2 ^ k → fd (fun r u => u + shutB (x : Int) (r : Int)) 0 k = bcJ (x : Int) := by decide +kernel
theorem raN_1 {Λ : Mm} {s : Int → Int} (hW : WL Λ) (hσ : WS Λ 0 (sig0 s)) (hk : ∀ c, 0 ≤ c → c < Λ 0 0 → s (26 + c) < ((2 ^ (Λ 3 c).toNat : Nat) : Int)) : ∀ n : Nat, (n : Int) ≤ Λ 0 0 → raN Λ 1 s n = shtN s n
  | 0, _ => rfl
  | n + 1, h => by
    have hc := hW.2.2.1 (n : Int) (by omega) (by omega)
    have hs := sig0_WS_c hσ (c := (n : Int)) (by omega)
    have h2 := hk (n : Int) (by omega) (by omega)
    obtain ⟨x, ex⟩ : ∃ x : Nat, s (26 + (n : Int)) = (x : Int) := ⟨(s (26 + (n : Int))).toNat, by omega⟩
    have e := sh_bc (Λ 3 (n : Int)).toNat (by omega) x (by omega) (by rw [ex] at h2; exact Int.ofNat_lt.mp h2)
    show raR 1 s (n : Int) (raN Λ 1 s n) (Λ 3 (n : Int)).toNat = shtN s n + bcJ (s (26 + (n : Int)))
    rw [raN_1 hW hσ hk n (by omega), ra_1, ex, e]
theorem mp_roadsAll {l : Launch} {γ : Gh} {ρ m : Mm} {b : Int} {s : Int → Int} {Λ : Mm} {hl tl : List Int} (hL : LY ρ) (hR : MR m) (hW : WL Λ) (hM : MLand m Λ hl tl) (hs : MRow m s) (hb : b = 0 ∨ b = 1) : gE l γ μX11_roadsAll 1 0 0 (rI KK fun x ρ9 m9 => ρ = ρ9 ∧ MR m9 ∧ raN Λ b s (Λ 0 0).toNat = x ∧ m = m9) xN KK ρ m [vR 84, vI b] := by
  refine gE.ofw cl_X11.2 ?_ rfl rfl (Nat.le_of_ble_eq_true rfl)
  show gT l γ μX11_roadsAll 1 0 0 _ _ KK ρ m 0 [some (vR 84), some (vI b), none, none, none] []
  have hn1 := hW.1
  have hN := hM.1
  refine tz_iconst (n := 1) (g_at ck_X11_roadsAll 0 rfl) rfl ?_
  refine tz_istore2 (n := 2) (g_at ck_X11_roadsAll 1 rfl) rfl (by decide) g_hpI ?_
  refine tz_iconst (n := 3) (g_at ck_X11_roadsAll 2 rfl) rfl ?_
  refine tz_istore3 (n := 4) (g_at ck_X11_roadsAll 3 rfl) rfl (by decide) g_hpI ?_
  refine g_for (fun i : Nat => gT l γ μX11_roadsAll 1 0 0 _ _ KK ρ m 4 [some (vR 84), some (vI b), some (vI (raN Λ b s i)), some (vI (i : Int)), none] []) (Λ 0 0).toNat ?_ (fun i hi ihi => ?_) 0 (Nat.zero_le _)
  · skip
    refine tz_iload3 (n := 5) (g_at ck_X11_roadsAll 4 rfl) rfl ?_
    refine tz_aload0 (n := 6) (g_at ck_X11_roadsAll 5 rfl) rfl (g_ne kd_84) ?_
    refine tz_getIw (n := 9) (kz := 1) fk_X11_302 kd_84 (g_at ck_X11_roadsAll 6 rfl) rfl rfl ?_
    rw [hN]
    refine tz_icmp_ge (n := 12) (tgt := 61) (g_at ck_X11_roadsAll 7 rfl) rfl rfl (by omega) (fun h9 => ?_) (fun h9 => absurd h9 (by omega))
    refine tz_iload2 (n := 62) (g_at ck_X11_roadsAll 34 rfl) rfl ?_
    exact tz_iret (g_at ck_X11_roadsAll 35 rfl) rfl (rI_mk ⟨rfl, hR, rfl, rfl⟩)
  · skip
    have hcw := hW.2.2.1 (i : Int) (by omega) (by omega)
    have r87 := (hM.2.2.1 (i : Int) (by omega) (by omega)).2.2
    refine tz_iload3 (n := 5) (g_at ck_X11_roadsAll 4 rfl) rfl ?_
    refine tz_aload0 (n := 6) (g_at ck_X11_roadsAll 5 rfl) rfl (g_ne kd_84) ?_
    refine tz_getIw (n := 9) (kz := 1) fk_X11_302 kd_84 (g_at ck_X11_roadsAll 6 rfl) rfl rfl ?_
    rw [hN]
    refine tz_icmp_ge (n := 12) (tgt := 61) (g_at ck_X11_roadsAll 7 rfl) rfl rfl (by omega) (fun h9 => absurd h9 (by omega)) (fun h9 => ?_)
    refine tz_iconst (n := 13) (g_at ck_X11_roadsAll 8 rfl) rfl ?_
    refine tz_istore4 (n := 15) (g_at ck_X11_roadsAll 9 rfl) rfl (by decide) g_hpI ?_
    refine g_for (fun j : Nat => gT l γ μX11_roadsAll 1 0 0 _ _ KK ρ m 15 [some (vR 84), some (vI b), some (vI (raR b s (i : Int) (raN Λ b s i) j)), some (vI (i : Int)), some (vI (j : Int))] []) (Λ 3 (i : Int)).toNat ?_ (fun j hj ihj => ?_) 0 (Nat.zero_le _)
    · skip
      refine tz_iload4 (n := 17) (g_at ck_X11_roadsAll 10 rfl) rfl ?_
      refine tz_aload0 (n := 18) (g_at ck_X11_roadsAll 11 rfl) rfl (g_ne kd_84) ?_
      refine tz_getAv (n := 21) (a := 87) fk_X11_23 kd_84 (ly_84_7 hL) (g_at ck_X11_roadsAll 12 rfl) rfl ?_
      refine tz_iload3 (n := 22) (g_at ck_X11_roadsAll 13 rfl) rfl ?_
      refine tz_iald (n := 23) kd_87 (by omega) (g_at ck_X11_roadsAll 14 rfl) rfl ?_
      rw [r87]
      refine tz_icmp_ge (n := 26) (tgt := 55) (g_at ck_X11_roadsAll 15 rfl) rfl rfl (by omega) (fun h23 => ?_) (fun h23 => absurd h23 (by omega))
      refine tz_iinc3 (n := 58) (g_at ck_X11_roadsAll 32 rfl) rfl (by decide) g_hpI ?_
      refine tz_goto (tgt := 4) (g_at ck_X11_roadsAll 33 rfl) rfl ?_
      refine tz_drop4 ?_
      exact ihi
    · skip
      refine tz_iload4 (n := 17) (g_at ck_X11_roadsAll 10 rfl) rfl ?_
      refine tz_aload0 (n := 18) (g_at ck_X11_roadsAll 11 rfl) rfl (g_ne kd_84) ?_
      refine tz_getAv (n := 21) (a := 87) fk_X11_23 kd_84 (ly_84_7 hL) (g_at ck_X11_roadsAll 12 rfl) rfl ?_
      refine tz_iload3 (n := 22) (g_at ck_X11_roadsAll 13 rfl) rfl ?_
      refine tz_iald (n := 23) kd_87 (by omega) (g_at ck_X11_roadsAll 14 rfl) rfl ?_
      rw [r87]
      refine tz_icmp_ge (n := 26) (tgt := 55) (g_at ck_X11_roadsAll 15 rfl) rfl rfl (by omega) (fun h23 => absurd h23 (by omega)) (fun h23 => ?_)
      refine tz_iload2 (n := 27) (g_at ck_X11_roadsAll 16 rfl) rfl ?_
      refine tz_iload1 (n := 28) (g_at ck_X11_roadsAll 17 rfl) rfl ?_
      refine tz_if_eq (n := 31) (tgt := 42) (g_at ck_X11_roadsAll 18 rfl) rfl rfl (by omega) (fun h28 => ?_) (fun h28 => ?_)
      · skip
        refine tz_iconst (n := 43) (g_at ck_X11_roadsAll 25 rfl) rfl ?_
        refine tz_goto (tgt := 47) (g_at ck_X11_roadsAll 26 rfl) rfl ?_
        refine tz_iadd (n := 48) (g_at ck_X11_roadsAll 28 rfl) rfl ?_
        refine tz_istore2 (n := 49) (g_at ck_X11_roadsAll 29 rfl) rfl (by decide) g_hpI ?_
        refine tz_iinc4 (n := 52) (g_at ck_X11_roadsAll 30 rfl) rfl (by decide) g_hpI ?_
        refine tz_goto (tgt := 15) (g_at ck_X11_roadsAll 31 rfl) rfl ?_
        have e9 : raR b s (i : Int) (raN Λ b s i) (j + 1) = (raR b s (i : Int) (raN Λ b s i) j) + 1 := congrArg (fun z9 => (raR b s (i : Int) (raN Λ b s i) j) + z9) (if_pos h28)
        rw [e9] at ihj
        exact ihj
      · skip
        refine tz_aload0 (n := 32) (g_at ck_X11_roadsAll 19 rfl) rfl (g_ne kd_84) ?_
        refine tz_iconst (n := 33) (g_at ck_X11_roadsAll 20 rfl) rfl ?_
        refine tz_iload3 (n := 34) (g_at ck_X11_roadsAll 21 rfl) rfl ?_
        refine tz_iload4 (n := 36) (g_at ck_X11_roadsAll 22 rfl) rfl ?_
        refine tz_cvI3 (n := 39) (μ' := μX11_isShut) (cb' := 0) (sb' := 0) ml_X11_338 mo_X11_isShut mv_X11_isShut np_X11_isShut kd_84 (g_at ck_X11_roadsAll 23 rfl) (mp_isShut hL hR (Or.inl rfl) (by omega)) rfl rfl rfl ⟨by decide, by decide⟩ (Nat.le_of_ble_eq_true rfl) (by decide) (by decide) (fun x36 ρ9 m36 hq => ?_)
        obtain ⟨rfl, hR1, rfl, rfl⟩ := hq
        rw [show (0 : Int) + 26 + (i : Int) = 26 + (i : Int) by omega, hs (26 + (i : Int)) (by omega) (by omega)]
        have h01 := shutB_01 (s (26 + (i : Int))) (j : Int)
        refine tz_if_eq (n := 42) (tgt := 46) (g_at ck_X11_roadsAll 24 rfl) rfl rfl (by omega) (fun h39 => ?_) (fun h39 => ?_)
        · skip
          refine tz_iconst (n := 47) (g_at ck_X11_roadsAll 27 rfl) rfl ?_
          refine tz_iadd (n := 48) (g_at ck_X11_roadsAll 28 rfl) rfl ?_
          refine tz_istore2 (n := 49) (g_at ck_X11_roadsAll 29 rfl) rfl (by decide) g_hpI ?_
          refine tz_iinc4 (n := 52) (g_at ck_X11_roadsAll 30 rfl) rfl (by decide) g_hpI ?_
          refine tz_goto (tgt := 15) (g_at ck_X11_roadsAll 31 rfl) rfl ?_
          have e9 : raR b s (i : Int) (raN Λ b s i) (j + 1) = (raR b s (i : Int) (raN Λ b s i) j) + 0 := congrArg (fun z9 => (raR b s (i : Int) (raN Λ b s i) j) + z9) ((if_neg h28).trans (if_pos h39))
          rw [e9] at ihj
          exact ihj
        · skip
          refine tz_iconst (n := 43) (g_at ck_X11_roadsAll 25 rfl) rfl ?_
          refine tz_goto (tgt := 47) (g_at ck_X11_roadsAll 26 rfl) rfl ?_
          refine tz_iadd (n := 48) (g_at ck_X11_roadsAll 28 rfl) rfl ?_
          refine tz_istore2 (n := 49) (g_at ck_X11_roadsAll 29 rfl) rfl (by decide) g_hpI ?_
          refine tz_iinc4 (n := 52) (g_at ck_X11_roadsAll 30 rfl) rfl (by decide) g_hpI ?_
          refine tz_goto (tgt := 15) (g_at ck_X11_roadsAll 31 rfl) rfl ?_
          have e9 : raR b s (i : Int) (raN Λ b s i) (j + 1) = (raR b s (i : Int) (raN Λ b s i) j) + 1 := congrArg (fun z9 => (raR b s (i : Int) (raN Λ b s i) j) + z9) ((if_neg h28).trans (if_neg h39))
          rw [e9] at ihj
          exact ihj
