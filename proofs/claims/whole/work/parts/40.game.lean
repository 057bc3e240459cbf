/-! game, years. -/
def gm0 (Λ : Mm) (s : Int → Int) (p x : Int) (σ : Mm) : Mm := if x = 1 then trnP Λ (s (1 + p)) 1 σ else σ
def gmT (Λ : Mm) (s : Int → Int) (p o k : Int) : Mm := gm0 Λ s o (bAnd k 1) (gm0 Λ s p (bShr k 1) (sig0 s))
def gmG (Λ : Mm) (hl tl : List Int) (τ : Mm) (q v : Int) (n : Nat) : Int := fd (fun i v => v + (if daysP Λ hl tl τ (i + 1) 0 (1 + q) = Λ 5 q then 3 else 0)) v n
def gmA (Λ : Mm) (hl tl : List Int) (s : Int → Int) (p o k : Int) : Int := gmG Λ hl tl (gmT Λ s p o k) p (-(bShr k 1)) 8 - daysP Λ hl tl (gmT Λ s p o k) 8 1 p
def gmB (Λ : Mm) (hl tl : List Int) (s : Int → Int) (p o k : Int) : Int := gmG Λ hl tl (gmT Λ s p o k) o (-(bAnd k 1)) 8 - daysP Λ hl tl (gmT Λ s p o k) 8 1 o
def gmF (A B : Int → Int) (f : Int → Int) (n : Nat) : Int → Int := fd (fun k g => up (up g (k : Int) (A (k : Int))) (4 + (k : Int)) (B (k : Int))) f n
theorem gmF_4 {A B f : Int → Int} {k : Int} (hk : 0 ≤ k ∧ k < 4) : gmF A B f 4 k = A k ∧ gmF A B f 4 (4 + k) = B k := by
  have hc : k = 0 ∨ k = 1 ∨ k = 2 ∨ k = 3 := by omega
  rcases hc with rfl | rfl | rfl | rfl <;> exact ⟨rfl, rfl⟩
def rsB (A B : Int → Int) (k : Int) : Int := if A (bXor k 2) ≤ A k ∧ B (bXor k 1) ≤ B k then 1 else 0
theorem rsB_01 {A B : Int → Int} {k : Int} : rsB A B k = 0 ∨ rsB A B k = 1 := by
  unfold rsB
  split <;> simp
def rsS (A B : Int → Int) (k : Int) (q : Int × Int) : Int × Int := if rsB A B k = 0 then q else (q.1 + 1, if q.1 = 0 then 10 * bShr k 1 + bAnd k 1 else q.2)
def rsN (A B : Int → Int) (n : Nat) : Int × Int := fd (fun k q => rsS A B (k : Int) q) (0, -1) n
theorem rsS_1 {A B : Int → Int} {k : Int} {q : Int × Int} (h : ¬ rsB A B k = 0) (h0 : q.1 = 0) : rsS A B k q = (q.1 + 1, 10 * bShr k 1 + bAnd k 1) := by
  unfold rsS
  rw [if_neg h, if_pos h0]
theorem rsS_2 {A B : Int → Int} {k : Int} {q : Int × Int} (h : ¬ rsB A B k = 0) (h0 : ¬ q.1 = 0) : rsS A B k q = (q.1 + 1, q.2) := by
  unfold rsS
  rw [if_neg h, if_neg h0]
theorem rsN_rg {A B : Int → Int} : ∀ n, 0 ≤ (rsN A B n).1 ∧ (rsN A B n).1 ≤ n
  | 0 => by show (0 : Int) ≤ 0 ∧ (0 : Int) ≤ ((0 : Nat) : Int); decide
  | n + 1 => by
    have ih := rsN_rg (A := A) (B := B) n
    show 0 ≤ (rsS A B (n : Int) (rsN A B n)).1 ∧ (rsS A B (n : Int) (rsN A B n)).1 ≤ ((n + 1 : Nat) : Int)
    unfold rsS
    split
    · omega
    · simp only []; omega
theorem k4 {k : Int} (hk : 0 ≤ k ∧ k < 4) : (0 ≤ bShr k 1 ∧ bShr k 1 ≤ 1) ∧ (0 ≤ bAnd k 1 ∧ bAnd k 1 ≤ 1) ∧ (0 ≤ bXor k 2 ∧ bXor k 2 < 4) ∧ 0 ≤ bXor k 1 ∧ bXor k 1 < 4 := by
  have hc : k = 0 ∨ k = 1 ∨ k = 2 ∨ k = 3 := by omega
  rcases hc with rfl | rfl | rfl | rfl <;> decide
theorem gmG_rg {Λ : Mm} {hl tl : List Int} {τ : Mm} {q v : Int} : ∀ n : Nat, v ≤ gmG Λ hl tl τ q v n ∧ gmG Λ hl tl τ q v n ≤ v + 3 * n
  | 0 => by show v ≤ v ∧ v ≤ v + 3 * ((0 : Nat) : Int); omega
  | n + 1 => by
    have ih := gmG_rg (Λ := Λ) (hl := hl) (tl := tl) (τ := τ) (q := q) (v := v) n
    show v ≤ gmG Λ hl tl τ q v n + (if _ then (3 : Int) else 0) ∧ gmG Λ hl tl τ q v n + (if _ then (3 : Int) else 0) ≤ _
    split <;> omega
theorem gm0_WS {Λ σ : Mm} {s : Int → Int} {p x : Int} (hW : WL Λ) (hc : 0 ≤ s (1 + p) ∧ s (1 + p) < Λ 0 0) (h : WS Λ 0 σ) : WS Λ 0 (gm0 Λ s p x σ) := by
  unfold gm0
  split
  · exact trnP_WS hW h hc (by decide)
  · exact h
theorem trL_n83 {ld : Int} (h : ld = 3 ∨ ld = 20) : (83 : Int) ∉ trL ld := fun h9 => by
  have := trL_no h h9
  omega
theorem sp_play {l : Launch} {γ : Gh} {ρ m : Mm} {p o k : Int} {ld : Int} {Λ : Mm} {hl tl : List Int} (hL : LY ρ) (hLn : ρ 1 3 = ld) (hS : isS ρ ld) (hR : MR m) (hW : WL Λ) (hG : LandC m ld Λ hl tl) {s : Int → Int} (hN : MomC m 39 s) (hσ : WS Λ 0 (sig0 s)) (hp : 0 ≤ p ∧ p < Λ 0 1) (ho : 0 ≤ o ∧ o < Λ 0 1) (hk : 0 ≤ k ∧ k < 4) {g : Int → Int} (hg : ∀ j, 0 ≤ j → j < 8 → m 83 j = g j) : gE l γ μX10_play 6 0 0 (rV KK fun ρ9 m9 => qR ρ ρ9 ∧ MR m9 ∧ Fr (83 :: trL ld) m m9 ∧ ∀ j, 0 ≤ j → j < 8 → m9 83 j = (up (up g k (gmA Λ hl tl s p o k)) (4 + k) (gmB Λ hl tl s p o k)) j) xN KK ρ m [vR 1, vI p, vI o, vI k] := by
  refine gE.ofw cl_X10.2 ?_ rfl rfl (Nat.le_of_ble_eq_true rfl)
  show gT l γ μX10_play 6 0 0 _ _ KK ρ m 0 [some (vR 1), some (vI p), some (vI o), some (vI k), none, none, none] []
  have hn1 := hW.1
  have hn8 := hW.2.1
  have hld := hG.ld9
  have hk4 := k4 hk
  have hwp0 := sig0_WS_n hσ hp
  have hwo0 := sig0_WS_n hσ ho
  have hwp : 0 ≤ s (1 + p) ∧ s (1 + p) < Λ 0 0 := by omega
  have hwo : 0 ≤ s (1 + o) ∧ s (1 + o) < Λ 0 0 := by omega
  refine tz_aload0 (n := 1) (g_at ck_X10_play 0 rfl) rfl (g_ne kd_1) ?_
  refine tz_cvR0 (n := 4) (μ' := μX10_setOut) (cb' := 0) (sb' := 0) ml_X10_251 mo_X10_setOut mv_X10_setOut np_X10_setOut kd_1 (g_at ck_X10_play 1 rfl) (sp_setOut hL hLn hS hR hW hG hN) rfl rfl rfl ⟨by decide, by decide⟩ (Nat.le_of_ble_eq_true rfl) (by decide) (by decide) (fun x1 ρ9 m1 hq => ?_)
  obtain ⟨rfl, rfl, hR1, hT1, hF1⟩ := hq
  have hQ1 := qM_trL (hF1.sub (trL_be (ld := ld)))
  have hG1 := hG.fr (hF1.sub trL_be)
  have hL := LY_wr (r := 62) (k := 0) (x := ld) hL (by decide)
  have hLt : wr ρ 62 0 ld 62 0 = ld := wr_same
  have hLn : wr ρ 62 0 ld 1 3 = ld := (by rw [wr_ne (by decide)]; exact hLn)
  have hS : isS (wr ρ 62 0 ld) ld := isS_of hL hld
  have hqr1 := qR_62 (ρ := ρ) (x := ld)
  refine tz_popR (n := 5) (g_at ck_X10_play 2 rfl) rfl ?_
  refine g_cut (T := ∀ m1 : Mm, (MR m1 ∧ TripC m1 (gmT Λ s p o k) ∧ Fr (trL ld) m m1) → gT l γ μX10_play 6 0 0 (rV KK fun ρ9 m9 => qR ρ ρ9 ∧ MR m9 ∧ Fr (83 :: trL ld) m m9 ∧ ∀ j, 0 ≤ j → j < 8 → m9 83 j = (up (up g k (gmA Λ hl tl s p o k)) (4 + k) (gmB Λ hl tl s p o k)) j) xN KK (wr ρ 62 0 ld) m1 53 [some (vR 1), some (vI p), some (vI o), some (vI k), none, none, none] []) (fun hj53 => ?_) ?_
  · skip
    refine tz_iload3 (n := 6) (g_at ck_X10_play 3 rfl) rfl ?_
    refine tz_iconst (n := 7) (g_at ck_X10_play 4 rfl) rfl ?_
    refine tz_ishr (n := 8) (g_at ck_X10_play 5 rfl) rfl ?_
    refine tz_iconst (n := 9) (g_at ck_X10_play 6 rfl) rfl ?_
    refine tz_icmp_ne (n := 12) (tgt := 29) (g_at ck_X10_play 7 rfl) rfl rfl ⟨by omega, by omega, by decide, by decide⟩ (fun h9 => ?_) (fun h9 => ?_)
    · skip
      refine tz_iload3 (n := 30) (g_at ck_X10_play 17 rfl) rfl ?_
      refine tz_iconst (n := 31) (g_at ck_X10_play 18 rfl) rfl ?_
      refine tz_iand (n := 32) (g_at ck_X10_play 19 rfl) rfl ?_
      refine tz_iconst (n := 33) (g_at ck_X10_play 20 rfl) rfl ?_
      refine tz_icmp_ne (n := 36) (tgt := 53) (g_at ck_X10_play 21 rfl) rfl rfl ⟨by omega, by omega, by decide, by decide⟩ (fun h33 => ?_) (fun h33 => ?_)
      · skip
        exact hj53 _ ⟨hR1, by unfold gmT; rw [show ∀ z, gm0 Λ s o (bAnd k 1) z = z from fun z => if_neg h33]; unfold gm0; rw [if_neg h9]; exact hT1, hF1.sub trL_be⟩
      · skip
        refine tz_aload0 (n := 37) (g_at ck_X10_play 22 rfl) rfl (g_ne kd_1) ?_
        refine tz_getOv (n := 40) (a := 62) fk_X10_74 kd_1 (ly_1_14 hL) (g_at ck_X10_play 23 rfl) rfl ?_
        refine tz_aload0 (n := 41) (g_at ck_X10_play 24 rfl) rfl (g_ne kd_1) ?_
        refine tz_getOv (n := 44) (a := 39) fk_X10_39 kd_1 (ly_1_6 hL) (g_at ck_X10_play 25 rfl) rfl ?_
        refine tz_getAv (n := 47) (a := 40) fk_X10_224 (isM_39 hL).k0 (isM_39 hL).r0_1 (g_at ck_X10_play 26 rfl) rfl ?_
        refine tz_iload2 (n := 48) (g_at ck_X10_play 27 rfl) rfl ?_
        refine tz_iald (n := 49) (isM_39 hL).k1 (by omega) (g_at ck_X10_play 28 rfl) rfl ?_
        rw [show m1 40 o = s (1 + o) from nowW (hN.fr hld (hF1.sub trL_be)) o (by omega)]
        refine tz_iconst (n := 50) (g_at ck_X10_play 29 rfl) rfl ?_
        refine tz_cvV2 (n := 53) (μ' := μX8_turnOn) (cb' := 0) (sb' := 0) ml_X10_361 mo_X8_turnOn mv_X8_turnOn np_X8_turnOn kd_62 (g_at ck_X10_play 30 rfl) (sp_turnOn hL hLt hS hR1 hW hG1 (show TripC m1 (gm0 Λ s p (bShr k 1) (sig0 s)) by unfold gm0; rw [if_neg h9]; exact hT1) (gm0_WS hW hwp hσ) (by decide) hwo (by decide)) rfl rfl rfl ⟨by decide, by decide⟩ (Nat.le_of_ble_eq_true rfl) (by decide) (by decide) (fun ρ9 m50 hq => ?_)
        obtain ⟨rfl, hR2, hT50, hF50⟩ := hq
        exact hj53 _ ⟨hR2, by unfold gmT; unfold gm0; rw [if_pos h33]; exact hT50, (hF1.sub trL_be).tr (hF50.sub trL_66)⟩
    · skip
      refine tz_aload0 (n := 13) (g_at ck_X10_play 8 rfl) rfl (g_ne kd_1) ?_
      refine tz_getOv (n := 16) (a := 62) fk_X10_74 kd_1 (ly_1_14 hL) (g_at ck_X10_play 9 rfl) rfl ?_
      refine tz_aload0 (n := 17) (g_at ck_X10_play 10 rfl) rfl (g_ne kd_1) ?_
      refine tz_getOv (n := 20) (a := 39) fk_X10_39 kd_1 (ly_1_6 hL) (g_at ck_X10_play 11 rfl) rfl ?_
      refine tz_getAv (n := 23) (a := 40) fk_X10_224 (isM_39 hL).k0 (isM_39 hL).r0_1 (g_at ck_X10_play 12 rfl) rfl ?_
      refine tz_iload1 (n := 24) (g_at ck_X10_play 13 rfl) rfl ?_
      refine tz_iald (n := 25) (isM_39 hL).k1 (by omega) (g_at ck_X10_play 14 rfl) rfl ?_
      rw [show m1 40 p = s (1 + p) from nowW (hN.fr hld (hF1.sub trL_be)) p (by omega)]
      refine tz_iconst (n := 26) (g_at ck_X10_play 15 rfl) rfl ?_
      refine tz_cvV2 (n := 29) (μ' := μX8_turnOn) (cb' := 0) (sb' := 0) ml_X10_361 mo_X8_turnOn mv_X8_turnOn np_X8_turnOn kd_62 (g_at ck_X10_play 16 rfl) (sp_turnOn hL hLt hS hR1 hW hG1 hT1 hσ (by decide) hwp (by decide)) rfl rfl rfl ⟨by decide, by decide⟩ (Nat.le_of_ble_eq_true rfl) (by decide) (by decide) (fun ρ9 m26 hq => ?_)
      obtain ⟨rfl, hR3, hT26, hF26⟩ := hq
      have hT26 : TripC m26 (gm0 Λ s p (bShr k 1) (sig0 s)) := by unfold gm0; rw [if_pos h9]; exact hT26
      refine tz_iload3 (n := 30) (g_at ck_X10_play 17 rfl) rfl ?_
      refine tz_iconst (n := 31) (g_at ck_X10_play 18 rfl) rfl ?_
      refine tz_iand (n := 32) (g_at ck_X10_play 19 rfl) rfl ?_
      refine tz_iconst (n := 33) (g_at ck_X10_play 20 rfl) rfl ?_
      refine tz_icmp_ne (n := 36) (tgt := 53) (g_at ck_X10_play 21 rfl) rfl rfl ⟨by omega, by omega, by decide, by decide⟩ (fun h33 => ?_) (fun h33 => ?_)
      · skip
        exact hj53 _ ⟨hR3, by unfold gmT; rw [show ∀ z, gm0 Λ s o (bAnd k 1) z = z from fun z => if_neg h33]; exact hT26, (hF1.sub trL_be).tr (hF26.sub trL_66)⟩
      · skip
        refine tz_aload0 (n := 37) (g_at ck_X10_play 22 rfl) rfl (g_ne kd_1) ?_
        refine tz_getOv (n := 40) (a := 62) fk_X10_74 kd_1 (ly_1_14 hL) (g_at ck_X10_play 23 rfl) rfl ?_
        refine tz_aload0 (n := 41) (g_at ck_X10_play 24 rfl) rfl (g_ne kd_1) ?_
        refine tz_getOv (n := 44) (a := 39) fk_X10_39 kd_1 (ly_1_6 hL) (g_at ck_X10_play 25 rfl) rfl ?_
        refine tz_getAv (n := 47) (a := 40) fk_X10_224 (isM_39 hL).k0 (isM_39 hL).r0_1 (g_at ck_X10_play 26 rfl) rfl ?_
        refine tz_iload2 (n := 48) (g_at ck_X10_play 27 rfl) rfl ?_
        refine tz_iald (n := 49) (isM_39 hL).k1 (by omega) (g_at ck_X10_play 28 rfl) rfl ?_
        rw [show m26 40 o = s (1 + o) from nowW (hN.fr hld ((hF1.sub trL_be).tr (hF26.sub trL_66))) o (by omega)]
        refine tz_iconst (n := 50) (g_at ck_X10_play 29 rfl) rfl ?_
        refine tz_cvV2 (n := 53) (μ' := μX8_turnOn) (cb' := 0) (sb' := 0) ml_X10_361 mo_X8_turnOn mv_X8_turnOn np_X8_turnOn kd_62 (g_at ck_X10_play 30 rfl) (sp_turnOn hL hLt hS hR3 hW (hG1.fr (hF26.sub trL_66)) hT26 (gm0_WS hW hwp hσ) (by decide) hwo (by decide)) rfl rfl rfl ⟨by decide, by decide⟩ (Nat.le_of_ble_eq_true rfl) (by decide) (by decide) (fun ρ9 m50 hq => ?_)
        obtain ⟨rfl, hR4, hT50, hF50⟩ := hq
        exact hj53 _ ⟨hR4, by unfold gmT; unfold gm0; rw [if_pos h33]; exact hT50, ((hF1.sub trL_be).tr (hF26.sub trL_66)).tr (hF50.sub trL_66)⟩
  · intro m1 hinv
    obtain ⟨hRi, hTi, hFi⟩ := hinv
    have hTi0 := hTi
    have hσt : WS Λ 0 (gmT Λ s p o k) := gm0_WS hW hwo (gm0_WS hW hwp hσ)
    refine tz_iload3 (n := 54) (g_at ck_X10_play 31 rfl) rfl ?_
    refine tz_iconst (n := 55) (g_at ck_X10_play 32 rfl) rfl ?_
    refine tz_ishr (n := 56) (g_at ck_X10_play 33 rfl) rfl ?_
    refine tz_ineg (n := 57) (g_at ck_X10_play 34 rfl) rfl ?_
    refine tz_istore4 (n := 59) (g_at ck_X10_play 35 rfl) rfl (by decide) g_hpI ?_
    refine tz_iload3 (n := 60) (g_at ck_X10_play 36 rfl) rfl ?_
    refine tz_iconst (n := 61) (g_at ck_X10_play 37 rfl) rfl ?_
    refine tz_iand (n := 62) (g_at ck_X10_play 38 rfl) rfl ?_
    refine tz_ineg (n := 63) (g_at ck_X10_play 39 rfl) rfl ?_
    refine tz_istore5 (n := 65) (g_at ck_X10_play 40 rfl) rfl (by decide) g_hpI ?_
    refine tz_iconst (n := 66) (g_at ck_X10_play 41 rfl) rfl ?_
    refine tz_istore6 (n := 68) (g_at ck_X10_play 42 rfl) rfl (by decide) g_hpI ?_
    refine g_for (fun i : Nat => ∀ m2 : Mm, (MR m2 ∧ TripC m2 (daysP Λ hl tl (gmT Λ s p o k) i) ∧ Fr (trL ld) m m2) → gT l γ μX10_play 6 0 0 _ _ KK (wr ρ 62 0 ld) m2 68 [some (vR 1), some (vI p), some (vI o), some (vI k), some (vI (gmG Λ hl tl (gmT Λ s p o k) p (-(bShr k 1)) i)), some (vI (gmG Λ hl tl (gmT Λ s p o k) o (-(bAnd k 1)) i)), some (vI ((i : Int) + 1))] []) 8 ?_ (fun i hi ihi => ?_) 0 (Nat.zero_le _) _ ⟨hRi, hTi0, hFi⟩
    · intro m2 hinv
      obtain ⟨hRi, hTi, hFi⟩ := hinv
      have hσi := daysP_WS (hl := hl) (tl := tl) hW hσt (Int.le_refl 0) 8
      have hg1 := gmG_rg (Λ := Λ) (hl := hl) (tl := tl) (τ := (gmT Λ s p o k)) (q := p) (v := -(bShr k 1)) 8
      have hg2 := gmG_rg (Λ := Λ) (hl := hl) (tl := tl) (τ := (gmT Λ s p o k)) (q := o) (v := -(bAnd k 1)) 8
      have hs1 := hσi.2.1 p hp.1 hp.2
      have hs2 := hσi.2.1 o ho.1 ho.2
      refine tz_iload6 (n := 70) (g_at ck_X10_play 43 rfl) rfl ?_
      refine tz_bipush (n := 72) (g_at ck_X10_play 44 rfl) rfl rfl ?_
      refine tz_icmp_gt (n := 75) (tgt := 131) (g_at ck_X10_play 45 rfl) rfl rfl ⟨(by omega), (by omega), (by decide), (by decide)⟩ (fun h72 => ?_) (fun h72 => absurd h72 (by omega))
      refine tz_aload0 (n := 132) (g_at ck_X10_play 74 rfl) rfl (g_ne kd_1) ?_
      refine tz_getAv (n := 135) (a := 83) fk_X10_98 kd_1 (ly_1_19 hL) (g_at ck_X10_play 75 rfl) rfl ?_
      refine tz_iload3 (n := 136) (g_at ck_X10_play 76 rfl) rfl ?_
      refine tz_iload4 (n := 138) (g_at ck_X10_play 77 rfl) rfl ?_
      refine tz_aload0 (n := 139) (g_at ck_X10_play 78 rfl) rfl (g_ne kd_1) ?_
      refine tz_getOv (n := 142) (a := 62) fk_X10_74 kd_1 (ly_1_14 hL) (g_at ck_X10_play 79 rfl) rfl ?_
      refine tz_getAv (n := 145) (a := 68) fk_X10_274 kd_62 (ly_62_2 hL) (g_at ck_X10_play 80 rfl) rfl ?_
      refine tz_iload1 (n := 146) (g_at ck_X10_play 81 rfl) rfl ?_
      refine tz_iald (n := 147) kd_68 (by omega) (g_at ck_X10_play 82 rfl) rfl ?_
      rw [hTi.stp p (by omega)]
      refine tz_isub (n := 148) (g_at ck_X10_play 83 rfl) rfl ?_
      refine tz_iastr (n := 149) kd_83 (by omega) (g_at ck_X10_play 84 rfl) rfl hRi (by omega) (fun hR5 => ?_)
      refine tz_aload0 (n := 150) (g_at ck_X10_play 85 rfl) rfl (g_ne kd_1) ?_
      refine tz_getAv (n := 153) (a := 83) fk_X10_98 kd_1 (ly_1_19 hL) (g_at ck_X10_play 86 rfl) rfl ?_
      refine tz_iconst (n := 154) (g_at ck_X10_play 87 rfl) rfl ?_
      refine tz_iload3 (n := 155) (g_at ck_X10_play 88 rfl) rfl ?_
      refine tz_iadd (n := 156) (g_at ck_X10_play 89 rfl) rfl ?_
      refine tz_iload5 (n := 158) (g_at ck_X10_play 90 rfl) rfl ?_
      refine tz_aload0 (n := 159) (g_at ck_X10_play 91 rfl) rfl (g_ne kd_1) ?_
      refine tz_getOv (n := 162) (a := 62) fk_X10_74 kd_1 (ly_1_14 hL) (g_at ck_X10_play 92 rfl) rfl ?_
      refine tz_getAv (n := 165) (a := 68) fk_X10_274 kd_62 (ly_62_2 hL) (g_at ck_X10_play 93 rfl) rfl ?_
      refine tz_iload2 (n := 166) (g_at ck_X10_play 94 rfl) rfl ?_
      refine tz_iald (n := 167) kd_68 (by omega) (g_at ck_X10_play 95 rfl) rfl ?_
      rw [wr_ne (show (68 : Int) ≠ 83 by decide), hTi.stp o (by omega)]
      refine tz_isub (n := 168) (g_at ck_X10_play 96 rfl) rfl ?_
      refine tz_iastr (n := 169) kd_83 (by omega) (g_at ck_X10_play 97 rfl) rfl hR5 (by omega) (fun hR6 => ?_)
      exact tz_vret (g_at ck_X10_play 98 rfl) rfl (rV_mk ⟨hqr1, hR6, hFi.cons.wrc.wrc, up_row (up_row (fun j h1 h2 => by rw [hFi 83 (trL_n83 hld)]; exact hg j h1 h2) rfl) rfl⟩)
    · intro m2 hinv
      obtain ⟨hRi, hTi, hFi⟩ := hinv
      have hGi := hG.fr hFi
      have hσi := daysP_WS (hl := hl) (tl := tl) hW hσt (Int.le_refl 0) i
      refine tz_iload6 (n := 70) (g_at ck_X10_play 43 rfl) rfl ?_
      refine tz_bipush (n := 72) (g_at ck_X10_play 44 rfl) rfl rfl ?_
      refine tz_icmp_gt (n := 75) (tgt := 131) (g_at ck_X10_play 45 rfl) rfl rfl ⟨(by omega), (by omega), (by decide), (by decide)⟩ (fun h72 => absurd h72 (by omega)) (fun h72 => ?_)
      refine tz_aload0 (n := 76) (g_at ck_X10_play 46 rfl) rfl (g_ne kd_1) ?_
      refine tz_getOv (n := 79) (a := 62) fk_X10_74 kd_1 (ly_1_14 hL) (g_at ck_X10_play 47 rfl) rfl ?_
      refine tz_iconst (n := 80) (g_at ck_X10_play 48 rfl) rfl ?_
      refine tz_cvV1 (n := 83) (μ' := μX8_goDay) (cb' := 0) (sb' := 0) ml_X10_277 mo_X8_goDay mv_X8_goDay np_X8_goDay kd_62 (g_at ck_X10_play 49 rfl) (sp_goDay hL hLt hS hRi hW hGi hTi hσi (by omega) (by omega)) rfl rfl rfl ⟨by decide, by decide⟩ (Nat.le_of_ble_eq_true rfl) (by decide) (by decide) (fun ρ9 m80 hq => ?_)
      obtain ⟨rfl, hR7, hT80, hF80⟩ := hq
      have hσ9 := daysP_WS (hl := hl) (tl := tl) hW hσt (Int.le_refl 0) (i + 1)
      have hT9 : TripC m80 (daysP Λ hl tl (gmT Λ s p o k) (i + 1)) := hT80
      have hG9 := hGi.fr hF80
      refine tz_iload4 (n := 85) (g_at ck_X10_play 50 rfl) rfl ?_
      refine tz_aload0 (n := 86) (g_at ck_X10_play 51 rfl) rfl (g_ne kd_1) ?_
      refine tz_getOv (n := 89) (a := 62) fk_X10_74 kd_1 (ly_1_14 hL) (g_at ck_X10_play 52 rfl) rfl ?_
      refine tz_iload1 (n := 90) (g_at ck_X10_play 53 rfl) rfl ?_
      refine tz_cvI1 (n := 93) (μ' := μX8_isHome) (cb' := 0) (sb' := 0) ml_X10_312 mo_X8_isHome mv_X8_isHome np_X8_isHome kd_62 (g_at ck_X10_play 54 rfl) (sp_tHome hL hLt hS hR7 hW hG9 hT9 hσ9 (by omega) (by omega)) rfl rfl rfl ⟨by decide, by decide⟩ (Nat.le_of_ble_eq_true rfl) (by decide) (by decide) (fun x90 ρ9 m90 hq => ?_)
      obtain ⟨rfl, hR8, rfl, rfl⟩ := hq
      refine tz_if_eq (n := 96) (tgt := 100) (g_at ck_X10_play 55 rfl) rfl rfl (by split <;> decide) (fun h93 => ?_) (fun h93 => ?_)
      · skip
        refine tz_iconst (n := 101) (g_at ck_X10_play 58 rfl) rfl ?_
        refine tz_iadd (n := 102) (g_at ck_X10_play 59 rfl) rfl ?_
        refine tz_istore4 (n := 104) (g_at ck_X10_play 60 rfl) rfl (by decide) g_hpI ?_
        refine tz_iload5 (n := 106) (g_at ck_X10_play 61 rfl) rfl ?_
        refine tz_aload0 (n := 107) (g_at ck_X10_play 62 rfl) rfl (g_ne kd_1) ?_
        refine tz_getOv (n := 110) (a := 62) fk_X10_74 kd_1 (ly_1_14 hL) (g_at ck_X10_play 63 rfl) rfl ?_
        refine tz_iload2 (n := 111) (g_at ck_X10_play 64 rfl) rfl ?_
        refine tz_cvI1 (n := 114) (μ' := μX8_isHome) (cb' := 0) (sb' := 0) ml_X10_312 mo_X8_isHome mv_X8_isHome np_X8_isHome kd_62 (g_at ck_X10_play 65 rfl) (sp_tHome hL hLt hS hR8 hW hG9 hT9 hσ9 (by omega) (by omega)) rfl rfl rfl ⟨by decide, by decide⟩ (Nat.le_of_ble_eq_true rfl) (by decide) (by decide) (fun x111 ρ9 m111 hq => ?_)
        obtain ⟨rfl, hR9, rfl, rfl⟩ := hq
        refine tz_if_eq (n := 117) (tgt := 121) (g_at ck_X10_play 66 rfl) rfl rfl (by split <;> decide) (fun h114 => ?_) (fun h114 => ?_)
        · skip
          refine tz_iconst (n := 122) (g_at ck_X10_play 69 rfl) rfl ?_
          refine tz_iadd (n := 123) (g_at ck_X10_play 70 rfl) rfl ?_
          refine tz_istore5 (n := 125) (g_at ck_X10_play 71 rfl) rfl (by decide) g_hpI ?_
          refine tz_iinc6 (n := 128) (g_at ck_X10_play 72 rfl) rfl (by decide) g_hpI ?_
          refine tz_goto (tgt := 68) (g_at ck_X10_play 73 rfl) rfl ?_
          have e8 : gmG Λ hl tl (gmT Λ s p o k) p (-(bShr k 1)) (i + 1) = (gmG Λ hl tl (gmT Λ s p o k) p (-(bShr k 1)) i) + 0 := congrArg (fun z9 => (gmG Λ hl tl (gmT Λ s p o k) p (-(bShr k 1)) i) + z9) (if_neg (ite10n h93))
          have e9 : gmG Λ hl tl (gmT Λ s p o k) o (-(bAnd k 1)) (i + 1) = (gmG Λ hl tl (gmT Λ s p o k) o (-(bAnd k 1)) i) + 0 := congrArg (fun z9 => (gmG Λ hl tl (gmT Λ s p o k) o (-(bAnd k 1)) i) + z9) (if_neg (ite10n h114))
          exact gT_eq (ihi _ ⟨hR9, hT9, hFi.tr hF80⟩) rfl (by rw [e8, e9]; rfl)
        · skip
          refine tz_iconst (n := 118) (g_at ck_X10_play 67 rfl) rfl ?_
          refine tz_goto (tgt := 122) (g_at ck_X10_play 68 rfl) rfl ?_
          refine tz_iadd (n := 123) (g_at ck_X10_play 70 rfl) rfl ?_
          refine tz_istore5 (n := 125) (g_at ck_X10_play 71 rfl) rfl (by decide) g_hpI ?_
          refine tz_iinc6 (n := 128) (g_at ck_X10_play 72 rfl) rfl (by decide) g_hpI ?_
          refine tz_goto (tgt := 68) (g_at ck_X10_play 73 rfl) rfl ?_
          have e8 : gmG Λ hl tl (gmT Λ s p o k) p (-(bShr k 1)) (i + 1) = (gmG Λ hl tl (gmT Λ s p o k) p (-(bShr k 1)) i) + 0 := congrArg (fun z9 => (gmG Λ hl tl (gmT Λ s p o k) p (-(bShr k 1)) i) + z9) (if_neg (ite10n h93))
          have e9 : gmG Λ hl tl (gmT Λ s p o k) o (-(bAnd k 1)) (i + 1) = (gmG Λ hl tl (gmT Λ s p o k) o (-(bAnd k 1)) i) + 3 := congrArg (fun z9 => (gmG Λ hl tl (gmT Λ s p o k) o (-(bAnd k 1)) i) + z9) (if_pos (ite10 h114))
          exact gT_eq (ihi _ ⟨hR9, hT9, hFi.tr hF80⟩) rfl (by rw [e8, e9]; rfl)
      · skip
        refine tz_iconst (n := 97) (g_at ck_X10_play 56 rfl) rfl ?_
        refine tz_goto (tgt := 101) (g_at ck_X10_play 57 rfl) rfl ?_
        refine tz_iadd (n := 102) (g_at ck_X10_play 59 rfl) rfl ?_
        refine tz_istore4 (n := 104) (g_at ck_X10_play 60 rfl) rfl (by decide) g_hpI ?_
        refine tz_iload5 (n := 106) (g_at ck_X10_play 61 rfl) rfl ?_
        refine tz_aload0 (n := 107) (g_at ck_X10_play 62 rfl) rfl (g_ne kd_1) ?_
        refine tz_getOv (n := 110) (a := 62) fk_X10_74 kd_1 (ly_1_14 hL) (g_at ck_X10_play 63 rfl) rfl ?_
        refine tz_iload2 (n := 111) (g_at ck_X10_play 64 rfl) rfl ?_
        refine tz_cvI1 (n := 114) (μ' := μX8_isHome) (cb' := 0) (sb' := 0) ml_X10_312 mo_X8_isHome mv_X8_isHome np_X8_isHome kd_62 (g_at ck_X10_play 65 rfl) (sp_tHome hL hLt hS hR8 hW hG9 hT9 hσ9 (by omega) (by omega)) rfl rfl rfl ⟨by decide, by decide⟩ (Nat.le_of_ble_eq_true rfl) (by decide) (by decide) (fun x111 ρ9 m111 hq => ?_)
        obtain ⟨rfl, hR10, rfl, rfl⟩ := hq
        refine tz_if_eq (n := 117) (tgt := 121) (g_at ck_X10_play 66 rfl) rfl rfl (by split <;> decide) (fun h114 => ?_) (fun h114 => ?_)
        · skip
          refine tz_iconst (n := 122) (g_at ck_X10_play 69 rfl) rfl ?_
          refine tz_iadd (n := 123) (g_at ck_X10_play 70 rfl) rfl ?_
          refine tz_istore5 (n := 125) (g_at ck_X10_play 71 rfl) rfl (by decide) g_hpI ?_
          refine tz_iinc6 (n := 128) (g_at ck_X10_play 72 rfl) rfl (by decide) g_hpI ?_
          refine tz_goto (tgt := 68) (g_at ck_X10_play 73 rfl) rfl ?_
          have e8 : gmG Λ hl tl (gmT Λ s p o k) p (-(bShr k 1)) (i + 1) = (gmG Λ hl tl (gmT Λ s p o k) p (-(bShr k 1)) i) + 3 := congrArg (fun z9 => (gmG Λ hl tl (gmT Λ s p o k) p (-(bShr k 1)) i) + z9) (if_pos (ite10 h93))
          have e9 : gmG Λ hl tl (gmT Λ s p o k) o (-(bAnd k 1)) (i + 1) = (gmG Λ hl tl (gmT Λ s p o k) o (-(bAnd k 1)) i) + 0 := congrArg (fun z9 => (gmG Λ hl tl (gmT Λ s p o k) o (-(bAnd k 1)) i) + z9) (if_neg (ite10n h114))
          exact gT_eq (ihi _ ⟨hR10, hT9, hFi.tr hF80⟩) rfl (by rw [e8, e9]; rfl)
        · skip
          refine tz_iconst (n := 118) (g_at ck_X10_play 67 rfl) rfl ?_
          refine tz_goto (tgt := 122) (g_at ck_X10_play 68 rfl) rfl ?_
          refine tz_iadd (n := 123) (g_at ck_X10_play 70 rfl) rfl ?_
          refine tz_istore5 (n := 125) (g_at ck_X10_play 71 rfl) rfl (by decide) g_hpI ?_
          refine tz_iinc6 (n := 128) (g_at ck_X10_play 72 rfl) rfl (by decide) g_hpI ?_
          refine tz_goto (tgt := 68) (g_at ck_X10_play 73 rfl) rfl ?_
          have e8 : gmG Λ hl tl (gmT Λ s p o k) p (-(bShr k 1)) (i + 1) = (gmG Λ hl tl (gmT Λ s p o k) p (-(bShr k 1)) i) + 3 := congrArg (fun z9 => (gmG Λ hl tl (gmT Λ s p o k) p (-(bShr k 1)) i) + z9) (if_pos (ite10 h93))
          have e9 : gmG Λ hl tl (gmT Λ s p o k) o (-(bAnd k 1)) (i + 1) = (gmG Λ hl tl (gmT Λ s p o k) o (-(bAnd k 1)) i) + 3 := congrArg (fun z9 => (gmG Λ hl tl (gmT Λ s p o k) o (-(bAnd k 1)) i) + z9) (if_pos (ite10 h114))
          exact gT_eq (ihi _ ⟨hR10, hT9, hFi.tr hF80⟩) rfl (by rw [e8, e9]; rfl)
theorem sp_rests {l : Launch} {γ : Gh} {ρ m : Mm} {k : Int} {A B f : Int → Int} (hL : LY ρ) (hR : MR m) (hk : 0 ≤ k ∧ k < 4) (hg : ∀ j, 0 ≤ j → j < 8 → m 83 j = (gmF A B f 4) j) : gE l γ μX10_rests 0 0 0 (rI KK fun x ρ9 m9 => ρ = ρ9 ∧ MR m9 ∧ rsB A B k = x ∧ m = m9) xN KK ρ m [vR 1, vI k] := by
  refine gE.ofw cl_X10.2 ?_ rfl rfl (Nat.le_of_ble_eq_true rfl)
  show gT l γ μX10_rests 0 0 0 _ _ KK ρ m 0 [some (vR 1), some (vI k)] []
  have hk4 := k4 hk
  refine tz_aload0 (n := 1) (g_at ck_X10_rests 0 rfl) rfl (g_ne kd_1) ?_
  refine tz_getAv (n := 4) (a := 83) fk_X10_98 kd_1 (ly_1_19 hL) (g_at ck_X10_rests 1 rfl) rfl ?_
  refine tz_iload1 (n := 5) (g_at ck_X10_rests 2 rfl) rfl ?_
  refine tz_iald (n := 6) kd_83 (by omega) (g_at ck_X10_rests 3 rfl) rfl ?_
  rw [hg k (by omega) (by omega), (gmF_4 hk).1]
  refine tz_aload0 (n := 7) (g_at ck_X10_rests 4 rfl) rfl (g_ne kd_1) ?_
  refine tz_getAv (n := 10) (a := 83) fk_X10_98 kd_1 (ly_1_19 hL) (g_at ck_X10_rests 5 rfl) rfl ?_
  refine tz_iload1 (n := 11) (g_at ck_X10_rests 6 rfl) rfl ?_
  refine tz_iconst (n := 12) (g_at ck_X10_rests 7 rfl) rfl ?_
  refine tz_ixor (n := 13) (g_at ck_X10_rests 8 rfl) rfl ?_
  refine tz_iald (n := 14) kd_83 (by omega) (g_at ck_X10_rests 9 rfl) rfl ?_
  rw [hg (bXor k 2) (by omega) (by omega), (gmF_4 hk4.2.2.1).1]
  refine tz_icmp_lt (n := 17) (tgt := 42) (g_at ck_X10_rests 10 rfl) rfl rfl (by have a1 := (gmF_4 (A := A) (B := B) (f := f) hk).1; have a2 := (gmF_4 (A := A) (B := B) (f := f) hk4.2.2.1).1; rw [← a1, ← a2, ← hg k (by omega) (by omega), ← hg (bXor k 2) (by omega) (by omega)]; exact ⟨(hR _ _).1, (hR _ _).2, (hR _ _).1, (hR _ _).2⟩) (fun h14 => ?_) (fun h14 => ?_)
  · skip
    refine tz_iconst (n := 43) (g_at ck_X10_rests 28 rfl) rfl ?_
    exact tz_bret (g_at ck_X10_rests 29 rfl) rfl (by decide) (rI_mk ⟨rfl, hR, by unfold rsB; rw [if_neg (by omega)], rfl⟩)
  · skip
    refine tz_aload0 (n := 18) (g_at ck_X10_rests 11 rfl) rfl (g_ne kd_1) ?_
    refine tz_getAv (n := 21) (a := 83) fk_X10_98 kd_1 (ly_1_19 hL) (g_at ck_X10_rests 12 rfl) rfl ?_
    refine tz_iconst (n := 22) (g_at ck_X10_rests 13 rfl) rfl ?_
    refine tz_iload1 (n := 23) (g_at ck_X10_rests 14 rfl) rfl ?_
    refine tz_iadd (n := 24) (g_at ck_X10_rests 15 rfl) rfl ?_
    refine tz_iald (n := 25) kd_83 (by omega) (g_at ck_X10_rests 16 rfl) rfl ?_
    rw [hg (4 + k) (by omega) (by omega), (gmF_4 hk).2]
    refine tz_aload0 (n := 26) (g_at ck_X10_rests 17 rfl) rfl (g_ne kd_1) ?_
    refine tz_getAv (n := 29) (a := 83) fk_X10_98 kd_1 (ly_1_19 hL) (g_at ck_X10_rests 18 rfl) rfl ?_
    refine tz_iconst (n := 30) (g_at ck_X10_rests 19 rfl) rfl ?_
    refine tz_iload1 (n := 31) (g_at ck_X10_rests 20 rfl) rfl ?_
    refine tz_iconst (n := 32) (g_at ck_X10_rests 21 rfl) rfl ?_
    refine tz_ixor (n := 33) (g_at ck_X10_rests 22 rfl) rfl ?_
    refine tz_iadd (n := 34) (g_at ck_X10_rests 23 rfl) rfl ?_
    refine tz_iald (n := 35) kd_83 (by omega) (g_at ck_X10_rests 24 rfl) rfl ?_
    rw [hg (4 + bXor k 1) (by omega) (by omega), (gmF_4 hk4.2.2.2).2]
    refine tz_icmp_lt (n := 38) (tgt := 42) (g_at ck_X10_rests 25 rfl) rfl rfl (by have a1 := (gmF_4 (A := A) (B := B) (f := f) hk).2; have a2 := (gmF_4 (A := A) (B := B) (f := f) hk4.2.2.2).2; rw [← a1, ← a2, ← hg (4 + k) (by omega) (by omega), ← hg (4 + bXor k 1) (by omega) (by omega)]; exact ⟨(hR _ _).1, (hR _ _).2, (hR _ _).1, (hR _ _).2⟩) (fun h35 => ?_) (fun h35 => ?_)
    · skip
      refine tz_iconst (n := 43) (g_at ck_X10_rests 28 rfl) rfl ?_
      exact tz_bret (g_at ck_X10_rests 29 rfl) rfl (by decide) (rI_mk ⟨rfl, hR, by unfold rsB; rw [if_neg (by omega)], rfl⟩)
    · skip
      refine tz_iconst (n := 39) (g_at ck_X10_rests 26 rfl) rfl ?_
      refine tz_goto (tgt := 43) (g_at ck_X10_rests 27 rfl) rfl ?_
      exact tz_bret (g_at ck_X10_rests 29 rfl) rfl (by decide) (rI_mk ⟨rfl, hR, by unfold rsB; rw [if_pos ⟨by omega, by omega⟩], rfl⟩)
def cdE (p o : Int) : Int := if p = o then 2 else 0
theorem sp_game {l : Launch} {γ : Gh} {ρ m : Mm} {p o w : Int} (hp : -2147483648 ≤ p ∧ p < 2147483648) (ho : -2147483648 ≤ o ∧ o < 2147483648) (hw : -2147483648 ≤ w ∧ w < 2147483648) {ld : Int} {Λ : Mm} {hl tl : List Int} (hL : LY ρ) (hLn : ρ 1 3 = ld) (hS : isS ρ ld) (hR : MR m) (hW : WL Λ) (hG : LandC m ld Λ hl tl) {s : Int → Int} (hN : MomC m 39 s) (hσ : WS Λ 0 (sig0 s)) : gE l γ μX10_game 7 4 24 (rI KK fun x ρ9 m9 => qR ρ ρ9 ∧ MR m9 ∧ qM ld m m9 ∧ sq (cdP Λ p) (sq (cdP Λ o) (sq (cdW w 1) (cdE p o))) = 0 ∧ (if s (1 + p) = Λ 5 p ∨ s (1 + o) = Λ 5 o then -1 else if w = 0 then (rsN (gmA Λ hl tl s p o) (gmB Λ hl tl s p o) 4).1 else (rsN (gmA Λ hl tl s p o) (gmB Λ hl tl s p o) 4).2) = x) (xC ρ m (sq (cdP Λ p) (sq (cdP Λ o) (sq (cdW w 1) (cdE p o))))) KK ρ m [vR 1, vI p, vI o, vI w] := by
  refine gE.ofw cl_X10.2 ?_ rfl rfl (Nat.le_of_ble_eq_true rfl)
  show gT l γ μX10_game 7 4 24 _ _ KK ρ m 0 [some (vR 1), some (vI p), some (vI o), some (vI w), none, none, none] []
  have hn1 := hW.1
  have hn8 := hW.2.1
  have hld := hG.ld9
  refine tz_aload0 (n := 1) (g_at ck_X10_game 0 rfl) rfl (g_ne kd_1) ?_
  refine tz_iload1 (n := 2) (g_at ck_X10_game 1 rfl) rfl ?_
  refine tz_cvxV1 (n := 5) (μ' := μX10_needPerson) (cb' := 3) (sb' := 18) ml_X10_221 mo_X10_needPerson mv_X10_needPerson np_X10_needPerson kd_1 (g_at ck_X10_game 2 rfl) (sp_needP ⟨hp.1, hp.2⟩ hL hLn hS hR hW hG) rfl rfl rfl ⟨by decide, by decide⟩ (Nat.le_of_ble_eq_true rfl) (by decide) (by decide) (g_in (g_m5 (List.mem_of_getElem? (i := 68) rfl)) rfl) (fun E9 ρ9 m9 h9 => g_gX_out rfl h9.1 h9.2.1 (sq_1 h9.2.2)) (fun ρ9 m2 hq => ?_)
  obtain ⟨rfl, hR1, rfl, hz2⟩ := hq
  have hp2 := cdP_0 hz2
  refine tz_aload0 (n := 6) (g_at ck_X10_game 3 rfl) rfl (g_ne kd_1) ?_
  refine tz_iload2 (n := 7) (g_at ck_X10_game 4 rfl) rfl ?_
  refine tz_cvxV1 (n := 10) (μ' := μX10_needPerson) (cb' := 2) (sb' := 12) ml_X10_221 mo_X10_needPerson mv_X10_needPerson np_X10_needPerson kd_1 (g_at ck_X10_game 5 rfl) (sp_needP ⟨ho.1, ho.2⟩ hL hLn hS hR1 hW hG) rfl rfl rfl ⟨by decide, by decide⟩ (Nat.le_of_ble_eq_true rfl) (by decide) (by decide) (g_in (g_m5 (List.mem_of_getElem? (i := 68) rfl)) rfl) (fun E9 ρ9 m9 h9 => g_gX_out rfl h9.1 h9.2.1 (sq_2 hz2 (sq_1 h9.2.2))) (fun ρ9 m7 hq => ?_)
  obtain ⟨rfl, hR2, rfl, hz7⟩ := hq
  have ho2 := cdP_0 hz7
  refine tz_iload3 (n := 11) (g_at ck_X10_game 6 rfl) rfl ?_
  refine tz_iconst (n := 12) (g_at ck_X10_game 7 rfl) rfl ?_
  refine tz_csxV2 (n := 15) (μ' := μX10_needWhat) (cb' := 1) (sb' := 6) ml_X10_135 mo_X10_needWhat ms_X10_needWhat np_X10_needWhat (g_at ck_X10_game 8 rfl) (sp_needW ⟨hw.1, hw.2⟩ ⟨(by decide), (by decide)⟩ hR2) rfl rfl ⟨by decide, by decide⟩ (Nat.le_of_ble_eq_true rfl) (by decide) (by decide) (g_in (g_m4 (List.mem_of_getElem? (i := 228) rfl)) rfl) (fun E9 ρ9 m9 h9 => g_gX_out rfl h9.1 h9.2.1 (sq_2 hz2 (sq_2 hz7 (sq_1 h9.2.2)))) (fun ρ9 m12 hq => ?_)
  obtain ⟨rfl, hR3, rfl, hz12⟩ := hq
  have hw2 := cdW_0 hz12
  have hwp := sig0_WS_n hσ hp2
  have hwo := sig0_WS_n hσ ho2
  have hhp := hW.2.2.2.2 p hp2.1 hp2.2
  have hho := hW.2.2.2.2 o ho2.1 ho2.2
  refine tz_iload1 (n := 16) (g_at ck_X10_game 9 rfl) rfl ?_
  refine tz_iload2 (n := 17) (g_at ck_X10_game 10 rfl) rfl ?_
  refine tz_icmp_ne (n := 20) (tgt := 31) (g_at ck_X10_game 11 rfl) rfl rfl ⟨hp.1, hp.2, ho.1, ho.2⟩ (fun h17 => ?_) (fun h17 => ?_)
  · skip
    refine tz_aload0 (n := 32) (g_at ck_X10_game 17 rfl) rfl (g_ne kd_1) ?_
    refine tz_getOv (n := 35) (a := 39) fk_X10_39 kd_1 (ly_1_6 hL) (g_at ck_X10_game 18 rfl) rfl ?_
    refine tz_getAv (n := 38) (a := 40) fk_X10_224 (isM_39 hL).k0 (isM_39 hL).r0_1 (g_at ck_X10_game 19 rfl) rfl ?_
    refine tz_iload1 (n := 39) (g_at ck_X10_game 20 rfl) rfl ?_
    refine tz_iald (n := 40) (isM_39 hL).k1 (by omega) (g_at ck_X10_game 21 rfl) rfl ?_
    rw [nowW hN p (by omega)]
    refine tz_aload0 (n := 41) (g_at ck_X10_game 22 rfl) rfl (g_ne kd_1) ?_
    refine tz_getOv (n := 44) (a := ld) fk_X10_20 kd_1 hLn (g_at ck_X10_game 23 rfl) rfl ?_
    refine tz_getAv (n := 47) (a := (ld + 5)) fk_X10_227 hS.k0 hS.r0_6 (g_at ck_X10_game 24 rfl) rfl ?_
    refine tz_iload1 (n := 48) (g_at ck_X10_game 25 rfl) rfl ?_
    refine tz_iald (n := 49) hS.k5 (by omega) (g_at ck_X10_game 26 rfl) rfl ?_
    rw [hG.home p (by omega)]
    refine tz_icmp_eq (n := 52) (tgt := 73) (g_at ck_X10_game 27 rfl) rfl rfl ⟨by omega, by omega, by omega, by omega⟩ (fun h49 => ?_) (fun h49 => ?_)
    · skip
      refine tz_iconst (n := 74) (g_at ck_X10_game 39 rfl) rfl ?_
      exact tz_iret (g_at ck_X10_game 40 rfl) rfl (rI_mk ⟨qR.rf, hR3, qM.rf, sq_0 hz2 (sq_0 hz7 (sq_0 hz12 (if_neg h17))), if_pos (Or.inl h49)⟩)
    · skip
      refine tz_aload0 (n := 53) (g_at ck_X10_game 28 rfl) rfl (g_ne kd_1) ?_
      refine tz_getOv (n := 56) (a := 39) fk_X10_39 kd_1 (ly_1_6 hL) (g_at ck_X10_game 29 rfl) rfl ?_
      refine tz_getAv (n := 59) (a := 40) fk_X10_224 (isM_39 hL).k0 (isM_39 hL).r0_1 (g_at ck_X10_game 30 rfl) rfl ?_
      refine tz_iload2 (n := 60) (g_at ck_X10_game 31 rfl) rfl ?_
      refine tz_iald (n := 61) (isM_39 hL).k1 (by omega) (g_at ck_X10_game 32 rfl) rfl ?_
      rw [nowW hN o (by omega)]
      refine tz_aload0 (n := 62) (g_at ck_X10_game 33 rfl) rfl (g_ne kd_1) ?_
      refine tz_getOv (n := 65) (a := ld) fk_X10_20 kd_1 hLn (g_at ck_X10_game 34 rfl) rfl ?_
      refine tz_getAv (n := 68) (a := (ld + 5)) fk_X10_227 hS.k0 hS.r0_6 (g_at ck_X10_game 35 rfl) rfl ?_
      refine tz_iload2 (n := 69) (g_at ck_X10_game 36 rfl) rfl ?_
      refine tz_iald (n := 70) hS.k5 (by omega) (g_at ck_X10_game 37 rfl) rfl ?_
      rw [hG.home o (by omega)]
      refine tz_icmp_ne (n := 73) (tgt := 75) (g_at ck_X10_game 38 rfl) rfl rfl ⟨by omega, by omega, by omega, by omega⟩ (fun h70 => ?_) (fun h70 => ?_)
      · skip
        refine tz_iconst (n := 76) (g_at ck_X10_game 41 rfl) rfl ?_
        refine tz_istore4 (n := 78) (g_at ck_X10_game 42 rfl) rfl (by decide) g_hpI ?_
        refine g_for (fun i : Nat => ∀ ρ1 m1 : Mm, (MR m1 ∧ qR ρ ρ1 ∧ Fr (83 :: trL ld) m m1 ∧ ∀ j, 0 ≤ j → j < 8 → m1 83 j = (gmF (gmA Λ hl tl s p o) (gmB Λ hl tl s p o) (m 83) i) j) → gT l γ μX10_game 7 1 6 _ _ KK ρ1 m1 78 [some (vR 1), some (vI p), some (vI o), some (vI w), some (vI (i : Int)), none, none] []) 4 ?_ (fun i hi ihi => ?_) 0 (Nat.zero_le _) _ _ ⟨hR3, qR.rf, Fr.rf, fun j _ _ => rfl⟩
        · intro ρ1 m1 hinv
          obtain ⟨hR1, hq1, hF1, hKi⟩ := hinv
          have hL1 := hL.q hq1
          have hLn1 := hq1.ln hLn
          have hS1 := isS_q hL hq1 hld
          have hG1 := hG.q (qM_trc (by decide) hF1)
          have hN1 := hN.q hld (qM_trc (by decide) hF1)
          refine tz_iload4 (n := 80) (g_at ck_X10_game 43 rfl) rfl ?_
          refine tz_iconst (n := 81) (g_at ck_X10_game 44 rfl) rfl ?_
          refine tz_icmp_ge (n := 84) (tgt := 98) (g_at ck_X10_game 45 rfl) rfl rfl ⟨(by omega), (by omega), (by decide), (by decide)⟩ (fun h81 => ?_) (fun h81 => absurd h81 (by omega))
          refine tz_iconst (n := 99) (g_at ck_X10_game 53 rfl) rfl ?_
          refine tz_istore4 (n := 101) (g_at ck_X10_game 54 rfl) rfl (by decide) g_hpI ?_
          refine tz_iconst (n := 102) (g_at ck_X10_game 55 rfl) rfl ?_
          refine tz_istore5 (n := 104) (g_at ck_X10_game 56 rfl) rfl (by decide) g_hpI ?_
          refine tz_iconst (n := 105) (g_at ck_X10_game 57 rfl) rfl ?_
          refine tz_istore6 (n := 107) (g_at ck_X10_game 58 rfl) rfl (by decide) g_hpI ?_
          refine g_for (fun i : Nat => gT l γ μX10_game 7 1 6 _ _ KK ρ1 m1 107 [some (vR 1), some (vI p), some (vI o), some (vI w), some (vI (rsN (gmA Λ hl tl s p o) (gmB Λ hl tl s p o) i).1), some (vI (rsN (gmA Λ hl tl s p o) (gmB Λ hl tl s p o) i).2), some (vI (i : Int))] []) 4 ?_ (fun i hi ihi => ?_) 0 (Nat.zero_le _)
          · skip
            refine tz_iload6 (n := 109) (g_at ck_X10_game 59 rfl) rfl ?_
            refine tz_iconst (n := 110) (g_at ck_X10_game 60 rfl) rfl ?_
            refine tz_icmp_ge (n := 113) (tgt := 155) (g_at ck_X10_game 61 rfl) rfl rfl ⟨(by omega), (by omega), (by decide), (by decide)⟩ (fun h110 => ?_) (fun h110 => absurd h110 (by omega))
            refine tz_iload3 (n := 156) (g_at ck_X10_game 83 rfl) rfl ?_
            refine tz_if_ne (n := 159) (tgt := 164) (g_at ck_X10_game 84 rfl) rfl rfl ⟨hw.1, hw.2⟩ (fun h156 => ?_) (fun h156 => ?_)
            · skip
              refine tz_iload5 (n := 166) (g_at ck_X10_game 87 rfl) rfl ?_
              exact tz_iret (g_at ck_X10_game 88 rfl) rfl (rI_mk ⟨hq1, hR1, qM_trc (by decide) hF1, sq_0 hz2 (sq_0 hz7 (sq_0 hz12 (if_neg h17))), by rw [if_neg (fun h9 => h9.elim h49 h70), if_neg h156]⟩)
            · skip
              refine tz_iload4 (n := 161) (g_at ck_X10_game 85 rfl) rfl ?_
              refine tz_goto (tgt := 166) (g_at ck_X10_game 86 rfl) rfl ?_
              exact tz_iret (g_at ck_X10_game 88 rfl) rfl (rI_mk ⟨hq1, hR1, qM_trc (by decide) hF1, sq_0 hz2 (sq_0 hz7 (sq_0 hz12 (if_neg h17))), by rw [if_neg (fun h9 => h9.elim h49 h70), if_pos h156]⟩)
          · skip
            have hrs := rsN_rg (A := gmA Λ hl tl s p o) (B := gmB Λ hl tl s p o) i
            refine tz_iload6 (n := 109) (g_at ck_X10_game 59 rfl) rfl ?_
            refine tz_iconst (n := 110) (g_at ck_X10_game 60 rfl) rfl ?_
            refine tz_icmp_ge (n := 113) (tgt := 155) (g_at ck_X10_game 61 rfl) rfl rfl ⟨(by omega), (by omega), (by decide), (by decide)⟩ (fun h110 => absurd h110 (by omega)) (fun h110 => ?_)
            refine tz_aload0 (n := 114) (g_at ck_X10_game 62 rfl) rfl (g_ne kd_1) ?_
            refine tz_iload6 (n := 116) (g_at ck_X10_game 63 rfl) rfl ?_
            refine tz_cvI1 (n := 119) (μ' := μX10_rests) (cb' := 1) (sb' := 6) ml_X10_358 mo_X10_rests mv_X10_rests np_X10_rests kd_1 (g_at ck_X10_game 64 rfl) (sp_rests hL1 hR1 (by omega) hKi) rfl rfl rfl ⟨by decide, by decide⟩ (Nat.le_of_ble_eq_true rfl) (by decide) (by decide) (fun x116 ρ9 m116 hq => ?_)
            obtain ⟨rfl, hR4, rfl, rfl⟩ := hq
            have h01 := rsB_01 (A := gmA Λ hl tl s p o) (B := gmB Λ hl tl s p o) (k := (i : Int))
            refine tz_if_eq (n := 122) (tgt := 149) (g_at ck_X10_game 65 rfl) rfl rfl (by omega) (fun h119 => ?_) (fun h119 => ?_)
            · skip
              refine tz_iinc6 (n := 152) (g_at ck_X10_game 81 rfl) rfl (by decide) g_hpI ?_
              refine tz_goto (tgt := 107) (g_at ck_X10_game 82 rfl) rfl ?_
              have e9 : rsN (gmA Λ hl tl s p o) (gmB Λ hl tl s p o) (i + 1) = (rsN (gmA Λ hl tl s p o) (gmB Λ hl tl s p o) i) := if_pos h119
              exact gT_eq ihi rfl (by rw [e9]; rfl)
            · skip
              refine tz_iload4 (n := 124) (g_at ck_X10_game 66 rfl) rfl ?_
              refine tz_if_ne (n := 127) (tgt := 142) (g_at ck_X10_game 67 rfl) rfl rfl (by omega) (fun h124 => ?_) (fun h124 => ?_)
              · skip
                refine tz_iload5 (n := 144) (g_at ck_X10_game 78 rfl) rfl ?_
                refine tz_istore5 (n := 146) (g_at ck_X10_game 79 rfl) rfl (by decide) g_hpI ?_
                refine tz_iinc4 (n := 149) (g_at ck_X10_game 80 rfl) rfl (by decide) g_hpI ?_
                refine tz_iinc6 (n := 152) (g_at ck_X10_game 81 rfl) rfl (by decide) g_hpI ?_
                refine tz_goto (tgt := 107) (g_at ck_X10_game 82 rfl) rfl ?_
                have e9 : rsN (gmA Λ hl tl s p o) (gmB Λ hl tl s p o) (i + 1) = ((rsN (gmA Λ hl tl s p o) (gmB Λ hl tl s p o) i).1 + 1, (rsN (gmA Λ hl tl s p o) (gmB Λ hl tl s p o) i).2) := rsS_2 h119 h124
                exact gT_eq ihi rfl (by rw [e9]; rfl)
              · skip
                refine tz_bipush (n := 129) (g_at ck_X10_game 68 rfl) rfl rfl ?_
                refine tz_iload6 (n := 131) (g_at ck_X10_game 69 rfl) rfl ?_
                refine tz_iconst (n := 132) (g_at ck_X10_game 70 rfl) rfl ?_
                refine tz_ishr (n := 133) (g_at ck_X10_game 71 rfl) rfl ?_
                refine tz_imul (n := 134) (g_at ck_X10_game 72 rfl) rfl ?_
                refine tz_iload6 (n := 136) (g_at ck_X10_game 73 rfl) rfl ?_
                refine tz_iconst (n := 137) (g_at ck_X10_game 74 rfl) rfl ?_
                refine tz_iand (n := 138) (g_at ck_X10_game 75 rfl) rfl ?_
                refine tz_iadd (n := 139) (g_at ck_X10_game 76 rfl) rfl ?_
                refine tz_goto (tgt := 144) (g_at ck_X10_game 77 rfl) rfl ?_
                refine tz_istore5 (n := 146) (g_at ck_X10_game 79 rfl) rfl (by decide) g_hpI ?_
                refine tz_iinc4 (n := 149) (g_at ck_X10_game 80 rfl) rfl (by decide) g_hpI ?_
                refine tz_iinc6 (n := 152) (g_at ck_X10_game 81 rfl) rfl (by decide) g_hpI ?_
                refine tz_goto (tgt := 107) (g_at ck_X10_game 82 rfl) rfl ?_
                have e9 : rsN (gmA Λ hl tl s p o) (gmB Λ hl tl s p o) (i + 1) = ((rsN (gmA Λ hl tl s p o) (gmB Λ hl tl s p o) i).1 + 1, 10 * bShr (i : Int) 1 + bAnd (i : Int) 1) := rsS_1 h119 h124
                exact gT_eq ihi rfl (by rw [e9]; rfl)
        · intro ρ1 m1 hinv
          obtain ⟨hR1, hq1, hF1, hKi⟩ := hinv
          have hL1 := hL.q hq1
          have hLn1 := hq1.ln hLn
          have hS1 := isS_q hL hq1 hld
          have hG1 := hG.q (qM_trc (by decide) hF1)
          have hN1 := hN.q hld (qM_trc (by decide) hF1)
          refine tz_iload4 (n := 80) (g_at ck_X10_game 43 rfl) rfl ?_
          refine tz_iconst (n := 81) (g_at ck_X10_game 44 rfl) rfl ?_
          refine tz_icmp_ge (n := 84) (tgt := 98) (g_at ck_X10_game 45 rfl) rfl rfl ⟨(by omega), (by omega), (by decide), (by decide)⟩ (fun h81 => absurd h81 (by omega)) (fun h81 => ?_)
          refine tz_aload0 (n := 85) (g_at ck_X10_game 46 rfl) rfl (g_ne kd_1) ?_
          refine tz_iload1 (n := 86) (g_at ck_X10_game 47 rfl) rfl ?_
          refine tz_iload2 (n := 87) (g_at ck_X10_game 48 rfl) rfl ?_
          refine tz_iload4 (n := 89) (g_at ck_X10_game 49 rfl) rfl ?_
          refine tz_cvV3 (n := 92) (μ' := μX10_play) (cb' := 1) (sb' := 6) ml_X10_355 mo_X10_play mv_X10_play np_X10_play kd_1 (g_at ck_X10_game 50 rfl) (sp_play hL1 hLn1 hS1 hR1 hW hG1 hN1 hσ (by omega) (by omega) (by omega) hKi) rfl rfl rfl ⟨by decide, by decide⟩ (Nat.le_of_ble_eq_true rfl) (by decide) (by decide) (fun ρ9 m89 hq => ?_)
          obtain ⟨hq89, hR5, hF89, hK89⟩ := hq
          refine tz_iinc4 (n := 95) (g_at ck_X10_game 51 rfl) rfl (by decide) g_hpI ?_
          refine tz_goto (tgt := 78) (g_at ck_X10_game 52 rfl) rfl ?_
          exact ihi _ _ ⟨hR5, hq1.tr hq89, hF1.tr hF89, hK89⟩
      · skip
        refine tz_iconst (n := 74) (g_at ck_X10_game 39 rfl) rfl ?_
        exact tz_iret (g_at ck_X10_game 40 rfl) rfl (rI_mk ⟨qR.rf, hR3, qM.rf, sq_0 hz2 (sq_0 hz7 (sq_0 hz12 (if_neg h17))), if_pos (Or.inr h70)⟩)
  · skip
    exact tz_throw tw_I (i9 := 21) st_21 (g_at ck_X10_game 12 rfl) (g_at ck_X10_game 13 rfl) (Or.inr ⟨(g_at ck_X10_game 14 rfl), rfl⟩) (g_at ck_X10_game 15 rfl) (g_at ck_X10_game 16 rfl) rfl ⟨by decide, by decide, by decide⟩ (Nat.le_of_ble_eq_true rfl) ⟨rfl, rfl, rfl, sq_2 hz2 (sq_2 hz7 (sq_2 hz12 (exN_2 (if_pos h17))))⟩
