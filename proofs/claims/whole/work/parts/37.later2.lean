/-! busiest, stuck, later, first, purse, cuts. -/
def ofP (σ : Mm) (f : Int → Int) (n : Nat) : Int → Int := fd (fun p g => up g (σ 0 (1 + (p : Int))) (g (σ 0 (1 + (p : Int))) + 1)) f n
def ofN (Λ : Mm) (hl tl : List Int) (σ : Mm) (n : Nat) : Int → Int := fd (fun i g => ofP (daysP Λ hl tl σ (i + 1)) g (Λ 0 1).toNat) (fun _ => 0) n
theorem ofP_rg {σ : Mm} {f : Int → Int} {b : Int} (h : ∀ c, 0 ≤ f c ∧ f c ≤ b) : ∀ n c, 0 ≤ ofP σ f n c ∧ ofP σ f n c ≤ b + n
  | 0, c => by
    have := h c
    show 0 ≤ f c ∧ f c ≤ b + ((0 : Nat) : Int)
    omega
  | n + 1, c => by
    have h1 := ofP_rg (σ := σ) h n c
    have h2 := ofP_rg (σ := σ) h n (σ 0 (1 + (n : Int)))
    show 0 ≤ up (ofP σ f n) (σ 0 (1 + (n : Int))) (ofP σ f n (σ 0 (1 + (n : Int))) + 1) c ∧ up (ofP σ f n) (σ 0 (1 + (n : Int))) (ofP σ f n (σ 0 (1 + (n : Int))) + 1) c ≤ b + ((n + 1 : Nat) : Int)
    unfold up
    split <;> omega
theorem ofN_rg {Λ : Mm} (hW : WL Λ) (hl tl : List Int) (σ : Mm) : ∀ n c, 0 ≤ ofN Λ hl tl σ n c ∧ ofN Λ hl tl σ n c ≤ 8 * n
  | 0, c => by show (0 : Int) ≤ 0 ∧ (0 : Int) ≤ 8 * ((0 : Nat) : Int); decide
  | n + 1, c => by
    have hn8 := hW.2.1
    have h := ofP_rg (σ := daysP Λ hl tl σ (n + 1)) (fun c => ofN_rg hW hl tl σ n c) (Λ 0 1).toNat c
    show 0 ≤ ofP (daysP Λ hl tl σ (n + 1)) (ofN Λ hl tl σ n) (Λ 0 1).toNat c ∧ ofP (daysP Λ hl tl σ (n + 1)) (ofN Λ hl tl σ n) (Λ 0 1).toNat c ≤ _
    omega
def bzN (f : Int → Int) (n : Nat) : Int × Int := fd (fun c q => if f (c : Int) ≤ q.2 then q else ((c : Int), f (c : Int))) (-1, 0) n
theorem bzN_rg {f : Int → Int} {b : Int} (hb : 0 ≤ b) (h : ∀ c, 0 ≤ f c ∧ f c ≤ b) : ∀ n, 0 ≤ (bzN f n).2 ∧ (bzN f n).2 ≤ b
  | 0 => ⟨Int.le_refl 0, hb⟩
  | n + 1 => by
    have h1 := bzN_rg hb h n
    show 0 ≤ (if f (n : Int) ≤ (bzN f n).2 then bzN f n else ((n : Int), f (n : Int))).2 ∧ (if f (n : Int) ≤ (bzN f n).2 then bzN f n else ((n : Int), f (n : Int))).2 ≤ b
    split
    · exact h1
    · exact h n
theorem up_row {m m9 : Mm} {a k x : Int} {f : Int → Int} {n : Int} (h : ∀ c, 0 ≤ c → c < n → m a c = f c) (h9 : m9 = wr m a k x) : ∀ c, 0 ≤ c → c < n → m9 a c = up f k x c := fun c h1 h2 => by
  rw [h9, wr_at]
  unfold up
  split
  · rfl
  · exact h c h1 h2
def stkN (Λ τ : Mm) (v : Int) (n : Nat) : Int := fd (fun p v => if τ 1 (p : Int) ≤ 0 then v else bAnd v (bXor (bShl 1 (p : Int)) (-1))) v n
def stkT (Λ : Mm) (hl tl : List Int) (σ : Mm) : Mm := daysP Λ hl tl (upA σ 1 (fun _ => 0)) 20
def stkP (Λ : Mm) (hl tl : List Int) (σ : Mm) : Int := stkN Λ (stkT Λ hl tl σ) (bAnd (bShl 1 (Λ 0 1) - 1) (bXor (homB Λ σ) (-1))) (Λ 0 1).toNat
theorem trL_n81 {ld : Int} (h : ld = 3 ∨ ld = 20) : (81 : Int) ∉ trL ld := fun h9 => by
  have := trL_no h h9
  omega
theorem TripC.n81 {m m9 σ : Mm} (h : TripC m σ) (k : ∀ a, a ≠ 81 → m9 a = m a) : TripC m9 σ := h.sam fun a h1 h2 => k a (by omega)
theorem sp_busiest {l : Launch} {γ : Gh} {ρ m : Mm} {n : Int} {ld b : Int} {Λ σ : Mm} {hl tl : List Int} (hL : LY ρ) (hLt : ρ 62 0 = ld) (hS : isS ρ ld) (hR : MR m) (hW : WL Λ) (hG : LandC m ld Λ hl tl) (hT : TripC m σ) (hσ : WS Λ b σ) (hb : 0 ≤ b ∧ b ≤ 80000) (hLn : ρ 1 3 = ld) (hn : 0 ≤ n ∧ n ≤ 100) : gE l γ μX10_busiest 6 0 0 (rI KK fun x ρ9 m9 => ρ = ρ9 ∧ MR m9 ∧ (bzN (ofN Λ hl tl σ n.toNat) (Λ 0 0).toNat).1 = x ∧ Fr (81 :: trL ld) m m9) xN KK ρ m [vR 1, vI n] := by
  refine gE.ofw cl_X10.2 ?_ rfl rfl (Nat.le_of_ble_eq_true rfl)
  show gT l γ μX10_busiest 6 0 0 _ _ KK ρ m 0 [some (vR 1), some (vI n), none, none, none] []
  have hn := hW.1
  have hn8 := hW.2.1
  have hld := hG.ld9
  refine tz_aload0 (n := 1) (g_at ck_X10_busiest 0 rfl) rfl (g_ne kd_1) ?_
  refine tz_getAv (n := 4) (a := 81) fk_X10_92 kd_1 (ly_1_17 hL) (g_at ck_X10_busiest 1 rfl) rfl ?_
  refine tz_iconst (n := 5) (g_at ck_X10_busiest 2 rfl) rfl ?_
  refine tz_csV2 (n := 8) (μ' := μJ7_fill_53178) (cb' := 0) (sb' := 0) ml_X10_302 mo_J7_fill_53178 ms_J7_fill_53178 np_J7_fill_53178 (g_at ck_X10_busiest 3 rfl) (sp_fill kd_81 (by decide) hR ⟨(by decide), (by decide)⟩) rfl rfl ⟨by decide, by decide⟩ (Nat.le_of_ble_eq_true rfl) (by decide) (by decide) (fun ρ9 m5 hq => ?_)
  obtain ⟨rfl, hR1, rfl⟩ := hq
  refine tz_iconst (n := 9) (g_at ck_X10_busiest 4 rfl) rfl ?_
  refine tz_istore2 (n := 10) (g_at ck_X10_busiest 5 rfl) rfl (by decide) g_hpI ?_
  refine g_for (fun i : Nat => ∀ m1 : Mm, (MR m1 ∧ TripC m1 (daysP Λ hl tl σ i) ∧ Fr (81 :: trL ld) m m1 ∧ ∀ c, 0 ≤ c → c < 9 → m1 81 c = (ofN Λ hl tl σ i) c) → gT l γ μX10_busiest 6 0 0 _ _ KK ρ m1 10 [some (vR 1), some (vI n), some (vI (i : Int)), none, none] []) n.toNat ?_ (fun i hi ihi => ?_) 0 (Nat.zero_le _) _ ⟨hR1, hT.n81 (fun a ha => fil_ne ha), Fr.rf.fil List.mem_cons_self, fun c h1 h2 => fil_at (by omega)⟩
  · intro m1 hinv
    obtain ⟨hRi, hTi, hFi, hKi⟩ := hinv
    have hGi := hG.q (qM_trc (by decide) hFi)
    refine tz_iload2 (n := 11) (g_at ck_X10_busiest 6 rfl) rfl ?_
    refine tz_iload1 (n := 12) (g_at ck_X10_busiest 7 rfl) rfl ?_
    refine tz_icmp_ge (n := 15) (tgt := 69) (g_at ck_X10_busiest 8 rfl) rfl rfl ⟨(by omega), (by omega), (by omega), (by omega)⟩ (fun h12 => ?_) (fun h12 => absurd h12 (by omega))
    refine tz_iconst (n := 70) (g_at ck_X10_busiest 37 rfl) rfl ?_
    refine tz_istore2 (n := 71) (g_at ck_X10_busiest 38 rfl) rfl (by decide) g_hpI ?_
    refine tz_iconst (n := 72) (g_at ck_X10_busiest 39 rfl) rfl ?_
    refine tz_istore3 (n := 73) (g_at ck_X10_busiest 40 rfl) rfl (by decide) g_hpI ?_
    refine tz_iconst (n := 74) (g_at ck_X10_busiest 41 rfl) rfl ?_
    refine tz_istore4 (n := 76) (g_at ck_X10_busiest 42 rfl) rfl (by decide) g_hpI ?_
    refine g_for (fun i : Nat => gT l γ μX10_busiest 6 0 0 _ _ KK ρ m1 76 [some (vR 1), some (vI n), some (vI (bzN (ofN Λ hl tl σ n.toNat) i).1), some (vI (bzN (ofN Λ hl tl σ n.toNat) i).2), some (vI (i : Int))] []) (Λ 0 0).toNat ?_ (fun i hi ihi => ?_) 0 (Nat.zero_le _)
    · skip
      refine tz_iload4 (n := 78) (g_at ck_X10_busiest 43 rfl) rfl ?_
      refine tz_aload0 (n := 79) (g_at ck_X10_busiest 44 rfl) rfl (g_ne kd_1) ?_
      refine tz_getOv (n := 82) (a := ld) fk_X10_20 kd_1 hLn (g_at ck_X10_busiest 45 rfl) rfl ?_
      refine tz_getIw (n := 85) (kz := 0) fk_X10_139 hS.k0 (g_at ck_X10_busiest 46 rfl) rfl rfl ?_
      rw [hGi.n0]
      refine tz_icmp_ge (n := 88) (tgt := 116) (g_at ck_X10_busiest 47 rfl) rfl rfl ⟨by omega, by omega, by omega, by omega⟩ (fun h85 => ?_) (fun h85 => absurd h85 (by omega))
      refine tz_iload2 (n := 117) (g_at ck_X10_busiest 63 rfl) rfl ?_
      exact tz_iret (g_at ck_X10_busiest 64 rfl) rfl (rI_mk ⟨rfl, hRi, rfl, hFi⟩)
    · skip
      have hof := ofN_rg hW hl tl σ n.toNat (i : Int)
      have hbz := bzN_rg (f := ofN Λ hl tl σ n.toNat) (b := 8 * n.toNat) (by omega) (fun c => ofN_rg hW hl tl σ n.toNat c) i
      refine tz_iload4 (n := 78) (g_at ck_X10_busiest 43 rfl) rfl ?_
      refine tz_aload0 (n := 79) (g_at ck_X10_busiest 44 rfl) rfl (g_ne kd_1) ?_
      refine tz_getOv (n := 82) (a := ld) fk_X10_20 kd_1 hLn (g_at ck_X10_busiest 45 rfl) rfl ?_
      refine tz_getIw (n := 85) (kz := 0) fk_X10_139 hS.k0 (g_at ck_X10_busiest 46 rfl) rfl rfl ?_
      rw [hGi.n0]
      refine tz_icmp_ge (n := 88) (tgt := 116) (g_at ck_X10_busiest 47 rfl) rfl rfl ⟨by omega, by omega, by omega, by omega⟩ (fun h85 => absurd h85 (by omega)) (fun h85 => ?_)
      refine tz_aload0 (n := 89) (g_at ck_X10_busiest 48 rfl) rfl (g_ne kd_1) ?_
      refine tz_getAv (n := 92) (a := 81) fk_X10_92 kd_1 (ly_1_17 hL) (g_at ck_X10_busiest 49 rfl) rfl ?_
      refine tz_iload4 (n := 94) (g_at ck_X10_busiest 50 rfl) rfl ?_
      refine tz_iald (n := 95) kd_81 (by omega) (g_at ck_X10_busiest 51 rfl) rfl ?_
      rw [hKi _ (by omega) (by omega)]
      refine tz_iload3 (n := 96) (g_at ck_X10_busiest 52 rfl) rfl ?_
      refine tz_icmp_le (n := 99) (tgt := 110) (g_at ck_X10_busiest 53 rfl) rfl rfl ⟨by omega, by omega, by omega, by omega⟩ (fun h96 => ?_) (fun h96 => ?_)
      · skip
        refine tz_iinc4 (n := 113) (g_at ck_X10_busiest 61 rfl) rfl (by decide) g_hpI ?_
        refine tz_goto (tgt := 76) (g_at ck_X10_busiest 62 rfl) rfl ?_
        have e9 : bzN (ofN Λ hl tl σ n.toNat) (i + 1) = (bzN (ofN Λ hl tl σ n.toNat) i) := if_pos h96
        exact gT_eq ihi rfl (by rw [e9]; rfl)
      · skip
        refine tz_aload0 (n := 100) (g_at ck_X10_busiest 54 rfl) rfl (g_ne kd_1) ?_
        refine tz_getAv (n := 103) (a := 81) fk_X10_92 kd_1 (ly_1_17 hL) (g_at ck_X10_busiest 55 rfl) rfl ?_
        refine tz_iload4 (n := 105) (g_at ck_X10_busiest 56 rfl) rfl ?_
        refine tz_iald (n := 106) kd_81 (by omega) (g_at ck_X10_busiest 57 rfl) rfl ?_
        rw [hKi _ (by omega) (by omega)]
        refine tz_istore3 (n := 107) (g_at ck_X10_busiest 58 rfl) rfl (by decide) g_hpI ?_
        refine tz_iload4 (n := 109) (g_at ck_X10_busiest 59 rfl) rfl ?_
        refine tz_istore2 (n := 110) (g_at ck_X10_busiest 60 rfl) rfl (by decide) g_hpI ?_
        refine tz_iinc4 (n := 113) (g_at ck_X10_busiest 61 rfl) rfl (by decide) g_hpI ?_
        refine tz_goto (tgt := 76) (g_at ck_X10_busiest 62 rfl) rfl ?_
        have e9 : bzN (ofN Λ hl tl σ n.toNat) (i + 1) = ((i : Int), ofN Λ hl tl σ n.toNat (i : Int)) := if_neg h96
        exact gT_eq ihi rfl (by rw [e9]; rfl)
  · intro m1 hinv
    obtain ⟨hRi, hTi, hFi, hKi⟩ := hinv
    have hGi := hG.q (qM_trc (by decide) hFi)
    have hσi := daysP_WS (hl := hl) (tl := tl) hW hσ hb.1 i
    refine tz_iload2 (n := 11) (g_at ck_X10_busiest 6 rfl) rfl ?_
    refine tz_iload1 (n := 12) (g_at ck_X10_busiest 7 rfl) rfl ?_
    refine tz_icmp_ge (n := 15) (tgt := 69) (g_at ck_X10_busiest 8 rfl) rfl rfl ⟨(by omega), (by omega), (by omega), (by omega)⟩ (fun h12 => absurd h12 (by omega)) (fun h12 => ?_)
    refine tz_aload0 (n := 16) (g_at ck_X10_busiest 9 rfl) rfl (g_ne kd_1) ?_
    refine tz_getOv (n := 19) (a := 62) fk_X10_74 kd_1 (ly_1_14 hL) (g_at ck_X10_busiest 10 rfl) rfl ?_
    refine tz_iconst (n := 20) (g_at ck_X10_busiest 11 rfl) rfl ?_
    refine tz_cvV1 (n := 23) (μ' := μX8_goDay) (cb' := 0) (sb' := 0) ml_X10_277 mo_X8_goDay mv_X8_goDay np_X8_goDay kd_62 (g_at ck_X10_busiest 12 rfl) (sp_goDay hL hLt hS hRi hW hGi hTi hσi (by omega) (by omega)) rfl rfl rfl ⟨by decide, by decide⟩ (Nat.le_of_ble_eq_true rfl) (by decide) (by decide) (fun ρ9 m20 hq => ?_)
    obtain ⟨rfl, hR2, hT20, hF20⟩ := hq
    have hσ9 := daysP_WS (hl := hl) (tl := tl) hW hσ hb.1 (i + 1)
    have hT9 : TripC m20 (daysP Λ hl tl σ (i + 1)) := hT20
    have hK9 : ∀ c, 0 ≤ c → c < 9 → m20 81 c = (ofN Λ hl tl σ i) c := fun c h1 h2 => by rw [hF20 81 (trL_n81 hld)]; exact hKi c h1 h2
    refine tz_iconst (n := 24) (g_at ck_X10_busiest 13 rfl) rfl ?_
    refine tz_istore3 (n := 25) (g_at ck_X10_busiest 14 rfl) rfl (by decide) g_hpI ?_
    refine g_for (fun j : Nat => ∀ m2 : Mm, (MR m2 ∧ TripC m2 (daysP Λ hl tl σ (i + 1)) ∧ Fr (81 :: trL ld) m m2 ∧ ∀ c, 0 ≤ c → c < 9 → m2 81 c = (ofP (daysP Λ hl tl σ (i + 1)) (ofN Λ hl tl σ i) j) c) → gT l γ μX10_busiest 6 0 0 _ _ KK ρ m2 25 [some (vR 1), some (vI n), some (vI (i : Int)), some (vI (j : Int)), none] []) (Λ 0 1).toNat ?_ (fun j hj ihj => ?_) 0 (Nat.zero_le _) _ ⟨hR2, hT9, hFi.tr hF20.cons, hK9⟩
    · intro m2 hinv
      obtain ⟨hRj, hTj, hFj, hKj⟩ := hinv
      have hGj := hG.q (qM_trc (by decide) hFj)
      refine tz_iload3 (n := 26) (g_at ck_X10_busiest 15 rfl) rfl ?_
      refine tz_aload0 (n := 27) (g_at ck_X10_busiest 16 rfl) rfl (g_ne kd_1) ?_
      refine tz_getOv (n := 30) (a := ld) fk_X10_20 kd_1 hLn (g_at ck_X10_busiest 17 rfl) rfl ?_
      refine tz_getIw (n := 33) (kz := 1) fk_X10_142 hS.k0 (g_at ck_X10_busiest 18 rfl) rfl rfl ?_
      rw [hGj.n1]
      refine tz_icmp_ge (n := 36) (tgt := 63) (g_at ck_X10_busiest 19 rfl) rfl rfl ⟨by omega, by omega, by omega, by omega⟩ (fun h33 => ?_) (fun h33 => absurd h33 (by omega))
      refine tz_iinc2 (n := 66) (g_at ck_X10_busiest 35 rfl) rfl (by decide) g_hpI ?_
      refine tz_goto (tgt := 10) (g_at ck_X10_busiest 36 rfl) rfl ?_
      refine tz_drop3 ?_
      exact ihi _ ⟨hRj, hTj, hFj, hKj⟩
    · intro m2 hinv
      obtain ⟨hRj, hTj, hFj, hKj⟩ := hinv
      have hGj := hG.q (qM_trc (by decide) hFj)
      have hp1 := hσ9.2.1 (j : Int) (by omega) (by omega)
      have hb9 := ofP_rg (σ := daysP Λ hl tl σ (i + 1)) (fun c => ofN_rg hW hl tl σ i c) j (daysP Λ hl tl σ (i + 1) 0 (1 + (j : Int)))
      refine tz_iload3 (n := 26) (g_at ck_X10_busiest 15 rfl) rfl ?_
      refine tz_aload0 (n := 27) (g_at ck_X10_busiest 16 rfl) rfl (g_ne kd_1) ?_
      refine tz_getOv (n := 30) (a := ld) fk_X10_20 kd_1 hLn (g_at ck_X10_busiest 17 rfl) rfl ?_
      refine tz_getIw (n := 33) (kz := 1) fk_X10_142 hS.k0 (g_at ck_X10_busiest 18 rfl) rfl rfl ?_
      rw [hGj.n1]
      refine tz_icmp_ge (n := 36) (tgt := 63) (g_at ck_X10_busiest 19 rfl) rfl rfl ⟨by omega, by omega, by omega, by omega⟩ (fun h33 => absurd h33 (by omega)) (fun h33 => ?_)
      refine tz_aload0 (n := 37) (g_at ck_X10_busiest 20 rfl) rfl (g_ne kd_1) ?_
      refine tz_getAv (n := 40) (a := 81) fk_X10_92 kd_1 (ly_1_17 hL) (g_at ck_X10_busiest 21 rfl) rfl ?_
      refine tz_aload0 (n := 41) (g_at ck_X10_busiest 22 rfl) rfl (g_ne kd_1) ?_
      refine tz_getOv (n := 44) (a := 62) fk_X10_74 kd_1 (ly_1_14 hL) (g_at ck_X10_busiest 23 rfl) rfl ?_
      refine tz_getOv (n := 47) (a := 63) fk_X10_258 kd_62 (ly_62_1 hL) (g_at ck_X10_busiest 24 rfl) rfl ?_
      refine tz_getAv (n := 50) (a := 64) fk_X10_224 (isM_63 hL).k0 (isM_63 hL).r0_1 (g_at ck_X10_busiest 25 rfl) rfl ?_
      refine tz_iload3 (n := 51) (g_at ck_X10_busiest 26 rfl) rfl ?_
      refine tz_iald (n := 52) (isM_63 hL).k1 (by omega) (g_at ck_X10_busiest 27 rfl) rfl ?_
      rw [hTj.whr (j : Int) (by omega)]
      refine tz_dup2 (n := 53) (g_at ck_X10_busiest 28 rfl) rfl ?_
      refine tz_iald (n := 54) kd_81 (by omega) (g_at ck_X10_busiest 29 rfl) rfl ?_
      rw [hKj _ (by omega) (by omega)]
      refine tz_iconst (n := 55) (g_at ck_X10_busiest 30 rfl) rfl ?_
      refine tz_iadd (n := 56) (g_at ck_X10_busiest 31 rfl) rfl ?_
      refine tz_iastr (n := 57) kd_81 (by omega) (g_at ck_X10_busiest 32 rfl) rfl hRj (by omega) (fun hR3 => ?_)
      refine tz_iinc3 (n := 60) (g_at ck_X10_busiest 33 rfl) rfl (by decide) g_hpI ?_
      refine tz_goto (tgt := 25) (g_at ck_X10_busiest 34 rfl) rfl ?_
      exact ihj _ ⟨hR3, hTj.n81 (fun a ha => wr_ne ha), hFj.wrc, up_row hKj rfl⟩
theorem trL_65 {ld : Int} : (65 : Int) ∈ trL ld := by
  unfold trL
  simp
theorem trL_68 {ld : Int} : (68 : Int) ∈ trL ld := by
  unfold trL
  simp
theorem sp_stuck {l : Launch} {γ : Gh} {ρ m : Mm} {n : Int} {ld b : Int} {Λ σ : Mm} {hl tl : List Int} (hL : LY ρ) (hLt : ρ 62 0 = ld) (hS : isS ρ ld) (hR : MR m) (hW : WL Λ) (hG : LandC m ld Λ hl tl) (hT : TripC m σ) (hσ : WS Λ b σ) (hb : 0 ≤ b ∧ b ≤ 70000) (hLn : ρ 1 3 = ld) (hn : 0 ≤ n ∧ n ≤ 100) : gE l γ μX10_stuck 6 0 0 (rI KK fun x ρ9 m9 => ρ = ρ9 ∧ MR m9 ∧ stkP Λ hl tl (daysP Λ hl tl σ n.toNat) = x ∧ Fr (trL ld) m m9) xN KK ρ m [vR 1, vI n] := by
  refine gE.ofw cl_X10.2 ?_ rfl rfl (Nat.le_of_ble_eq_true rfl)
  show gT l γ μX10_stuck 6 0 0 _ _ KK ρ m 0 [some (vR 1), some (vI n), none, none] []
  have hn := hW.1
  have hn8 := hW.2.1
  have hld := hG.ld9
  refine tz_aload0 (n := 1) (g_at ck_X10_stuck 0 rfl) rfl (g_ne kd_1) ?_
  refine tz_getOv (n := 4) (a := 62) fk_X10_74 kd_1 (ly_1_14 hL) (g_at ck_X10_stuck 1 rfl) rfl ?_
  refine tz_iload1 (n := 5) (g_at ck_X10_stuck 2 rfl) rfl ?_
  refine tz_cvV1 (n := 8) (μ' := μX8_go) (cb' := 0) (sb' := 0) ml_X10_255 mo_X8_go mv_X8_go np_X8_go kd_62 (g_at ck_X10_stuck 3 rfl) (sp_go hL hLt hS hR hW hG hT hσ (by omega) (by omega)) rfl rfl rfl ⟨by decide, by decide⟩ (Nat.le_of_ble_eq_true rfl) (by decide) (by decide) (fun ρ9 m5 hq => ?_)
  obtain ⟨rfl, hR1, hT5, hF5⟩ := hq
  have hG5 := hG.fr hF5
  have hσ5 := daysP_WS (hl := hl) (tl := tl) hW hσ hb.1 n.toNat
  refine tz_iconst (n := 9) (g_at ck_X10_stuck 4 rfl) rfl ?_
  refine tz_aload0 (n := 10) (g_at ck_X10_stuck 5 rfl) rfl (g_ne kd_1) ?_
  refine tz_getOv (n := 13) (a := ld) fk_X10_20 kd_1 hLn (g_at ck_X10_stuck 6 rfl) rfl ?_
  refine tz_getIw (n := 16) (kz := 1) fk_X10_142 hS.k0 (g_at ck_X10_stuck 7 rfl) rfl rfl ?_
  rw [hG5.n1]
  refine tz_ishl (n := 17) (g_at ck_X10_stuck 8 rfl) rfl ?_
  refine tz_iconst (n := 18) (g_at ck_X10_stuck 9 rfl) rfl ?_
  refine tz_isub (n := 19) (g_at ck_X10_stuck 10 rfl) rfl ?_
  refine tz_aload0 (n := 20) (g_at ck_X10_stuck 11 rfl) rfl (g_ne kd_1) ?_
  refine tz_getOv (n := 23) (a := ld) fk_X10_20 kd_1 hLn (g_at ck_X10_stuck 12 rfl) rfl ?_
  refine tz_aload0 (n := 24) (g_at ck_X10_stuck 13 rfl) rfl (g_ne kd_1) ?_
  refine tz_getOv (n := 27) (a := 62) fk_X10_74 kd_1 (ly_1_14 hL) (g_at ck_X10_stuck 14 rfl) rfl ?_
  refine tz_getOv (n := 30) (a := 63) fk_X10_258 kd_62 (ly_62_1 hL) (g_at ck_X10_stuck 15 rfl) rfl ?_
  refine tz_cvI1 (n := 33) (μ' := μX6_atHome) (cb' := 0) (sb' := 0) ml_X10_155 mo_X6_atHome mv_X6_atHome np_X6_atHome hS.k0 (g_at ck_X10_stuck 16 rfl) (sp_atHome hS (isM_63 hL) hR1 (by rw [hG5.n1]; omega)) rfl rfl rfl ⟨by decide, by decide⟩ (Nat.le_of_ble_eq_true rfl) (by decide) (by decide) (fun x30 ρ9 m30 hq => ?_)
  obtain ⟨rfl, hR2, rfl, rfl⟩ := hq
  rw [homB_C hW hG5 hT5]
  refine tz_iconst (n := 34) (g_at ck_X10_stuck 17 rfl) rfl ?_
  refine tz_ixor (n := 35) (g_at ck_X10_stuck 18 rfl) rfl ?_
  refine tz_iand (n := 36) (g_at ck_X10_stuck 19 rfl) rfl ?_
  refine tz_istore2 (n := 37) (g_at ck_X10_stuck 20 rfl) rfl (by decide) g_hpI ?_
  refine tz_aload0 (n := 38) (g_at ck_X10_stuck 21 rfl) rfl (g_ne kd_1) ?_
  refine tz_getOv (n := 41) (a := 62) fk_X10_74 kd_1 (ly_1_14 hL) (g_at ck_X10_stuck 22 rfl) rfl ?_
  refine tz_getAv (n := 44) (a := 68) fk_X10_274 kd_62 (ly_62_2 hL) (g_at ck_X10_stuck 23 rfl) rfl ?_
  refine tz_iconst (n := 45) (g_at ck_X10_stuck 24 rfl) rfl ?_
  refine tz_csV2 (n := 48) (μ' := μJ7_fill_53178) (cb' := 0) (sb' := 0) ml_X10_302 mo_J7_fill_53178 ms_J7_fill_53178 np_J7_fill_53178 (g_at ck_X10_stuck 25 rfl) (sp_fill kd_68 (by decide) hR2 ⟨(by decide), (by decide)⟩) rfl rfl ⟨by decide, by decide⟩ (Nat.le_of_ble_eq_true rfl) (by decide) (by decide) (fun ρ9 m45 hq => ?_)
  obtain ⟨rfl, hR3, rfl⟩ := hq
  refine tz_aload0 (n := 49) (g_at ck_X10_stuck 26 rfl) rfl (g_ne kd_1) ?_
  refine tz_getOv (n := 52) (a := 62) fk_X10_74 kd_1 (ly_1_14 hL) (g_at ck_X10_stuck 27 rfl) rfl ?_
  refine tz_bipush (n := 54) (g_at ck_X10_stuck 28 rfl) rfl rfl ?_
  refine tz_cvV1 (n := 57) (μ' := μX8_go) (cb' := 0) (sb' := 0) ml_X10_255 mo_X8_go mv_X8_go np_X8_go kd_62 (g_at ck_X10_stuck 29 rfl) (sp_go hL hLt hS hR3 hW (hG.fr (hF5.fil trL_68)) hT5.zst (WS_stp hσ5 (by omega)) (by omega) (by decide)) rfl rfl rfl ⟨by decide, by decide⟩ (Nat.le_of_ble_eq_true rfl) (by decide) (by decide) (fun ρ9 m54 hq => ?_)
  obtain ⟨rfl, hR4, hT54, hF54⟩ := hq
  have hF54t : Fr (trL ld) m m54 := (hF5.fil trL_68).tr hF54
  have hG54 := hG.fr hF54t
  have hσ54 := daysP_WS (hl := hl) (tl := tl) hW (WS_stp hσ5 (by omega)) (by omega) 20
  have hT54 : TripC m54 (stkT Λ hl tl (daysP Λ hl tl σ n.toNat)) := hT54
  refine tz_iconst (n := 58) (g_at ck_X10_stuck 30 rfl) rfl ?_
  refine tz_istore3 (n := 59) (g_at ck_X10_stuck 31 rfl) rfl (by decide) g_hpI ?_
  refine g_for (fun i : Nat => gT l γ μX10_stuck 6 0 0 _ _ KK ρ m54 59 [some (vR 1), some (vI n), some (vI (stkN Λ (stkT Λ hl tl (daysP Λ hl tl σ n.toNat)) (bAnd (bShl 1 (Λ 0 1) - 1) (bXor (homB Λ (daysP Λ hl tl σ n.toNat)) (-1))) i)), some (vI (i : Int))] []) (Λ 0 1).toNat ?_ (fun i hi ihi => ?_) 0 (Nat.zero_le _)
  · skip
    refine tz_iload3 (n := 60) (g_at ck_X10_stuck 32 rfl) rfl ?_
    refine tz_aload0 (n := 61) (g_at ck_X10_stuck 33 rfl) rfl (g_ne kd_1) ?_
    refine tz_getOv (n := 64) (a := ld) fk_X10_20 kd_1 hLn (g_at ck_X10_stuck 34 rfl) rfl ?_
    refine tz_getIw (n := 67) (kz := 1) fk_X10_142 hS.k0 (g_at ck_X10_stuck 35 rfl) rfl rfl ?_
    rw [hG54.n1]
    refine tz_icmp_ge (n := 70) (tgt := 96) (g_at ck_X10_stuck 36 rfl) rfl rfl ⟨by omega, by omega, by omega, by omega⟩ (fun h67 => ?_) (fun h67 => absurd h67 (by omega))
    refine tz_iload2 (n := 97) (g_at ck_X10_stuck 53 rfl) rfl ?_
    exact tz_iret (g_at ck_X10_stuck 54 rfl) rfl (rI_mk ⟨rfl, hR4, rfl, hF54t⟩)
  · skip
    have hs1 : 0 ≤ (stkT Λ hl tl (daysP Λ hl tl σ n.toNat)) 1 (i : Int) ∧ (stkT Λ hl tl (daysP Λ hl tl σ n.toNat)) 1 (i : Int) ≤ 100000 := by have := hσ54.2.1 (i : Int) (by omega) (by omega); unfold stkT; omega
    refine tz_iload3 (n := 60) (g_at ck_X10_stuck 32 rfl) rfl ?_
    refine tz_aload0 (n := 61) (g_at ck_X10_stuck 33 rfl) rfl (g_ne kd_1) ?_
    refine tz_getOv (n := 64) (a := ld) fk_X10_20 kd_1 hLn (g_at ck_X10_stuck 34 rfl) rfl ?_
    refine tz_getIw (n := 67) (kz := 1) fk_X10_142 hS.k0 (g_at ck_X10_stuck 35 rfl) rfl rfl ?_
    rw [hG54.n1]
    refine tz_icmp_ge (n := 70) (tgt := 96) (g_at ck_X10_stuck 36 rfl) rfl rfl ⟨by omega, by omega, by omega, by omega⟩ (fun h67 => absurd h67 (by omega)) (fun h67 => ?_)
    refine tz_aload0 (n := 71) (g_at ck_X10_stuck 37 rfl) rfl (g_ne kd_1) ?_
    refine tz_getOv (n := 74) (a := 62) fk_X10_74 kd_1 (ly_1_14 hL) (g_at ck_X10_stuck 38 rfl) rfl ?_
    refine tz_getAv (n := 77) (a := 68) fk_X10_274 kd_62 (ly_62_2 hL) (g_at ck_X10_stuck 39 rfl) rfl ?_
    refine tz_iload3 (n := 78) (g_at ck_X10_stuck 40 rfl) rfl ?_
    refine tz_iald (n := 79) kd_68 (by omega) (g_at ck_X10_stuck 41 rfl) rfl ?_
    rw [hT54.stp (i : Int) (by omega)]
    refine tz_if_le (n := 82) (tgt := 90) (g_at ck_X10_stuck 42 rfl) rfl rfl (by omega) (fun h79 => ?_) (fun h79 => ?_)
    · skip
      refine tz_iinc3 (n := 93) (g_at ck_X10_stuck 51 rfl) rfl (by decide) g_hpI ?_
      refine tz_goto (tgt := 59) (g_at ck_X10_stuck 52 rfl) rfl ?_
      have e9 : stkN Λ (stkT Λ hl tl (daysP Λ hl tl σ n.toNat)) (bAnd (bShl 1 (Λ 0 1) - 1) (bXor (homB Λ (daysP Λ hl tl σ n.toNat)) (-1))) (i + 1) = (stkN Λ (stkT Λ hl tl (daysP Λ hl tl σ n.toNat)) (bAnd (bShl 1 (Λ 0 1) - 1) (bXor (homB Λ (daysP Λ hl tl σ n.toNat)) (-1))) i) := if_pos h79
      exact gT_eq ihi rfl (by rw [e9]; rfl)
    · skip
      refine tz_iload2 (n := 83) (g_at ck_X10_stuck 43 rfl) rfl ?_
      refine tz_iconst (n := 84) (g_at ck_X10_stuck 44 rfl) rfl ?_
      refine tz_iload3 (n := 85) (g_at ck_X10_stuck 45 rfl) rfl ?_
      refine tz_ishl (n := 86) (g_at ck_X10_stuck 46 rfl) rfl ?_
      refine tz_iconst (n := 87) (g_at ck_X10_stuck 47 rfl) rfl ?_
      refine tz_ixor (n := 88) (g_at ck_X10_stuck 48 rfl) rfl ?_
      refine tz_iand (n := 89) (g_at ck_X10_stuck 49 rfl) rfl ?_
      refine tz_istore2 (n := 90) (g_at ck_X10_stuck 50 rfl) rfl (by decide) g_hpI ?_
      refine tz_iinc3 (n := 93) (g_at ck_X10_stuck 51 rfl) rfl (by decide) g_hpI ?_
      refine tz_goto (tgt := 59) (g_at ck_X10_stuck 52 rfl) rfl ?_
      have e9 : stkN Λ (stkT Λ hl tl (daysP Λ hl tl σ n.toNat)) (bAnd (bShl 1 (Λ 0 1) - 1) (bXor (homB Λ (daysP Λ hl tl σ n.toNat)) (-1))) (i + 1) = bAnd (stkN Λ (stkT Λ hl tl (daysP Λ hl tl σ n.toNat)) (bAnd (bShl 1 (Λ 0 1) - 1) (bXor (homB Λ (daysP Λ hl tl σ n.toNat)) (-1))) i) (bXor (bShl 1 (i : Int)) (-1)) := if_neg h79
      exact gT_eq ihi rfl (by rw [e9]; rfl)
theorem sp_later {l : Launch} {γ : Gh} {ρ m : Mm} {n w : Int} (hn : -2147483648 ≤ n ∧ n < 2147483648) (hw : -2147483648 ≤ w ∧ w < 2147483648) {ld : Int} {Λ : Mm} {hl tl : List Int} (hL : LY ρ) (hLn : ρ 1 3 = ld) (hS : isS ρ ld) (hR : MR m) (hW : WL Λ) (hG : LandC m ld Λ hl tl) {s : Int → Int} (hN : MomC m 39 s) (hσ : WS Λ 0 (sig0 s)) : gE l γ μX10_later 7 2 12 (rI KK fun x ρ9 m9 => qR ρ ρ9 ∧ MR m9 ∧ qM ld m m9 ∧ sq (cdW w 3) (cdD n (if w = 2 then 1 else 0) (if w = 3 then 60 else 100)) = 0 ∧ (if w = 0 then homB Λ (daysP Λ hl tl (sig0 s) n.toNat) else if w = 1 then (porN (daysP Λ hl tl (sig0 s) n.toNat) (Λ 0 1).toNat).1 else if w = 2 then (bzN (ofN Λ hl tl (sig0 s) n.toNat) (Λ 0 0).toNat).1 else stkP Λ hl tl (daysP Λ hl tl (sig0 s) n.toNat)) = x) (xC ρ m (sq (cdW w 3) (cdD n (if w = 2 then 1 else 0) (if w = 3 then 60 else 100)))) KK ρ m [vR 1, vI n, vI w] := by
  refine gE.ofw cl_X10.2 ?_ rfl rfl (Nat.le_of_ble_eq_true rfl)
  show gT l γ μX10_later 7 2 12 _ _ KK ρ m 0 [some (vR 1), some (vI n), some (vI w)] []
  have hn1 := hW.1
  have hn8 := hW.2.1
  have hld := hG.ld9
  refine tz_iload2 (n := 1) (g_at ck_X10_later 0 rfl) rfl ?_
  refine tz_iconst (n := 2) (g_at ck_X10_later 1 rfl) rfl ?_
  refine tz_csxV2 (n := 5) (μ' := μX10_needWhat) (cb' := 1) (sb' := 6) ml_X10_135 mo_X10_needWhat ms_X10_needWhat np_X10_needWhat (g_at ck_X10_later 2 rfl) (sp_needW ⟨hw.1, hw.2⟩ ⟨(by decide), (by decide)⟩ hR) rfl rfl ⟨by decide, by decide⟩ (Nat.le_of_ble_eq_true rfl) (by decide) (by decide) (g_in (g_m4 (List.mem_of_getElem? (i := 228) rfl)) rfl) (fun E9 ρ9 m9 h9 => g_gX_out rfl h9.1 h9.2.1 (sq_1 h9.2.2)) (fun ρ9 m2 hq => ?_)
  obtain ⟨rfl, hR1, rfl, hz2⟩ := hq
  have hw2 := cdW_0 hz2
  refine tz_iload1 (n := 6) (g_at ck_X10_later 3 rfl) rfl ?_
  refine tz_iload2 (n := 7) (g_at ck_X10_later 4 rfl) rfl ?_
  refine tz_iconst (n := 8) (g_at ck_X10_later 5 rfl) rfl ?_
  refine tz_icmp_ne (n := 11) (tgt := 15) (g_at ck_X10_later 6 rfl) rfl rfl ⟨hw.1, hw.2, (by decide), (by decide)⟩ (fun h8 => ?_) (fun h8 => ?_)
  · skip
    refine tz_iconst (n := 16) (g_at ck_X10_later 9 rfl) rfl ?_
    refine tz_iload2 (n := 17) (g_at ck_X10_later 10 rfl) rfl ?_
    refine tz_iconst (n := 18) (g_at ck_X10_later 11 rfl) rfl ?_
    refine tz_icmp_ne (n := 21) (tgt := 26) (g_at ck_X10_later 12 rfl) rfl rfl ⟨hw.1, hw.2, (by decide), (by decide)⟩ (fun h18 => ?_) (fun h18 => ?_)
    · skip
      refine tz_bipush (n := 28) (g_at ck_X10_later 15 rfl) rfl rfl ?_
      refine tz_csxV3 (n := 31) (μ' := μX10_needDays) (cb' := 0) (sb' := 0) ml_X10_270 mo_X10_needDays ms_X10_needDays np_X10_needDays (g_at ck_X10_later 16 rfl) (sp_needD ⟨hn.1, hn.2⟩ ⟨(by decide), (by decide)⟩ ⟨(by decide), (by decide)⟩ hR1) rfl rfl ⟨by decide, by decide⟩ (Nat.le_of_ble_eq_true rfl) (by decide) (by decide) (g_in (g_m5 (List.mem_of_getElem? (i := 145) rfl)) rfl) (fun E9 ρ9 m9 h9 => g_gX_out rfl h9.1 h9.2.1 (sq_2 hz2 ((show cdD n (if w = 2 then 1 else 0) (if w = 3 then 60 else 100) = cdD n 0 100 by rw [if_neg (by omega), if_neg (by omega)]) ▸ h9.2.2))) (fun ρ9 m28 hq => ?_)
      obtain ⟨rfl, hR2, rfl, hz28⟩ := hq
      have hn2 := cdD_0 hz28
      have hz28 : cdD n (if w = 2 then 1 else 0) (if w = 3 then 60 else 100) = 0 := (show cdD n (if w = 2 then 1 else 0) (if w = 3 then 60 else 100) = cdD n 0 100 by rw [if_neg (by omega), if_neg (by omega)]) ▸ hz28
      refine tz_aload0 (n := 32) (g_at ck_X10_later 17 rfl) rfl (g_ne kd_1) ?_
      refine tz_cvR0 (n := 35) (μ' := μX10_setOut) (cb' := 0) (sb' := 0) ml_X10_251 mo_X10_setOut mv_X10_setOut np_X10_setOut kd_1 (g_at ck_X10_later 18 rfl) (sp_setOut hL hLn hS hR2 hW hG hN) rfl rfl rfl ⟨by decide, by decide⟩ (Nat.le_of_ble_eq_true rfl) (by decide) (by decide) (fun x32 ρ9 m32 hq => ?_)
      obtain ⟨rfl, rfl, hR3, hT32, hF32⟩ := hq
      have hQ32 := qM_trL (hF32.sub (trL_be (ld := ld)))
      have hG32 := hG.fr (hF32.sub trL_be)
      have hL := LY_wr (r := 62) (k := 0) (x := ld) hL (by decide)
      have hLt : wr ρ 62 0 ld 62 0 = ld := wr_same
      have hLn : wr ρ 62 0 ld 1 3 = ld := (by rw [wr_ne (by decide)]; exact hLn)
      have hS : isS (wr ρ 62 0 ld) ld := isS_of hL hld
      refine tz_popR (n := 36) (g_at ck_X10_later 19 rfl) rfl ?_
      refine tz_iload2 (n := 37) (g_at ck_X10_later 20 rfl) rfl ?_
      by_cases hk37_0 : w = 0
      · skip
        refine tz_tableIn (tgt := 64) (g_at ck_X10_later 21 rfl) ⟨hw.1, hw.2⟩ (by omega) (by omega) (by rw [hk37_0]; rfl) rfl ?_
        refine tz_aload0 (n := 65) (g_at ck_X10_later 22 rfl) rfl (g_ne kd_1) ?_
        refine tz_iload1 (n := 66) (g_at ck_X10_later 23 rfl) rfl ?_
        refine tz_cvI1 (n := 69) (μ' := μX10_homeAfter) (cb' := 0) (sb' := 0) ml_X10_290 mo_X10_homeAfter mv_X10_homeAfter np_X10_homeAfter kd_1 (g_at ck_X10_later 24 rfl) (sp_homeAfter hL hLt hS hR3 hW hG32 hT32 hσ (by decide) hLn (by omega)) rfl rfl rfl ⟨by decide, by decide⟩ (Nat.le_of_ble_eq_true rfl) (by decide) (by decide) (fun x66 ρ9 m66 hq => ?_)
        obtain ⟨rfl, hR4, hx66, hF66⟩ := hq
        exact tz_iret (g_at ck_X10_later 25 rfl) rfl (rI_mk ⟨qR_62, hR4, hQ32.tr (qM_trL hF66), sq_0 hz2 hz28, by rw [← hx66]; simp (disch := omega) only [if_pos, if_neg]⟩)
      by_cases hk37_1 : w = 1
      · skip
        refine tz_tableIn (tgt := 70) (g_at ck_X10_later 21 rfl) ⟨hw.1, hw.2⟩ (by omega) (by omega) (by rw [hk37_1]; rfl) rfl ?_
        refine tz_aload0 (n := 71) (g_at ck_X10_later 26 rfl) rfl (g_ne kd_1) ?_
        refine tz_iload1 (n := 72) (g_at ck_X10_later 27 rfl) rfl ?_
        refine tz_cvI1 (n := 75) (μ' := μX10_poorest) (cb' := 0) (sb' := 0) ml_X10_293 mo_X10_poorest mv_X10_poorest np_X10_poorest kd_1 (g_at ck_X10_later 28 rfl) (sp_poorest hL hLt hS hR3 hW hG32 hT32 hσ (by decide) hLn (by omega)) rfl rfl rfl ⟨by decide, by decide⟩ (Nat.le_of_ble_eq_true rfl) (by decide) (by decide) (fun x72 ρ9 m72 hq => ?_)
        obtain ⟨rfl, hR5, hx72, hF72⟩ := hq
        exact tz_iret (g_at ck_X10_later 29 rfl) rfl (rI_mk ⟨qR_62, hR5, hQ32.tr (qM_trL hF72), sq_0 hz2 hz28, by rw [← hx72]; simp (disch := omega) only [if_pos, if_neg]⟩)
      by_cases hk37_2 : w = 2
      · skip
        exfalso; omega
      exfalso; omega
    · skip
      refine tz_bipush (n := 23) (g_at ck_X10_later 13 rfl) rfl rfl ?_
      refine tz_goto (tgt := 28) (g_at ck_X10_later 14 rfl) rfl ?_
      refine tz_csxV3 (n := 31) (μ' := μX10_needDays) (cb' := 0) (sb' := 0) ml_X10_270 mo_X10_needDays ms_X10_needDays np_X10_needDays (g_at ck_X10_later 16 rfl) (sp_needD ⟨hn.1, hn.2⟩ ⟨(by decide), (by decide)⟩ ⟨(by decide), (by decide)⟩ hR1) rfl rfl ⟨by decide, by decide⟩ (Nat.le_of_ble_eq_true rfl) (by decide) (by decide) (g_in (g_m5 (List.mem_of_getElem? (i := 145) rfl)) rfl) (fun E9 ρ9 m9 h9 => g_gX_out rfl h9.1 h9.2.1 (sq_2 hz2 ((show cdD n (if w = 2 then 1 else 0) (if w = 3 then 60 else 100) = cdD n 0 60 by rw [if_neg (by omega), if_pos (by omega)]) ▸ h9.2.2))) (fun ρ9 m28 hq => ?_)
      obtain ⟨rfl, hR6, rfl, hz28⟩ := hq
      have hn2 := cdD_0 hz28
      have hz28 : cdD n (if w = 2 then 1 else 0) (if w = 3 then 60 else 100) = 0 := (show cdD n (if w = 2 then 1 else 0) (if w = 3 then 60 else 100) = cdD n 0 60 by rw [if_neg (by omega), if_pos (by omega)]) ▸ hz28
      refine tz_aload0 (n := 32) (g_at ck_X10_later 17 rfl) rfl (g_ne kd_1) ?_
      refine tz_cvR0 (n := 35) (μ' := μX10_setOut) (cb' := 0) (sb' := 0) ml_X10_251 mo_X10_setOut mv_X10_setOut np_X10_setOut kd_1 (g_at ck_X10_later 18 rfl) (sp_setOut hL hLn hS hR6 hW hG hN) rfl rfl rfl ⟨by decide, by decide⟩ (Nat.le_of_ble_eq_true rfl) (by decide) (by decide) (fun x32 ρ9 m32 hq => ?_)
      obtain ⟨rfl, rfl, hR7, hT32, hF32⟩ := hq
      have hQ32 := qM_trL (hF32.sub (trL_be (ld := ld)))
      have hG32 := hG.fr (hF32.sub trL_be)
      have hL := LY_wr (r := 62) (k := 0) (x := ld) hL (by decide)
      have hLt : wr ρ 62 0 ld 62 0 = ld := wr_same
      have hLn : wr ρ 62 0 ld 1 3 = ld := (by rw [wr_ne (by decide)]; exact hLn)
      have hS : isS (wr ρ 62 0 ld) ld := isS_of hL hld
      refine tz_popR (n := 36) (g_at ck_X10_later 19 rfl) rfl ?_
      refine tz_iload2 (n := 37) (g_at ck_X10_later 20 rfl) rfl ?_
      by_cases hk37_0 : w = 0
      · skip
        exfalso; omega
      by_cases hk37_1 : w = 1
      · skip
        exfalso; omega
      by_cases hk37_2 : w = 2
      · skip
        exfalso; omega
      refine tz_tableOut (tgt := 82) (g_at ck_X10_later 21 rfl) ⟨hw.1, hw.2⟩ (by omega) rfl ?_
      refine tz_aload0 (n := 83) (g_at ck_X10_later 34 rfl) rfl (g_ne kd_1) ?_
      refine tz_iload1 (n := 84) (g_at ck_X10_later 35 rfl) rfl ?_
      refine tz_cvI1 (n := 87) (μ' := μX10_stuck) (cb' := 0) (sb' := 0) ml_X10_299 mo_X10_stuck mv_X10_stuck np_X10_stuck kd_1 (g_at ck_X10_later 36 rfl) (sp_stuck hL hLt hS hR7 hW hG32 hT32 hσ (by decide) hLn (by omega)) rfl rfl rfl ⟨by decide, by decide⟩ (Nat.le_of_ble_eq_true rfl) (by decide) (by decide) (fun x84 ρ9 m84 hq => ?_)
      obtain ⟨rfl, hR8, hx84, hF84⟩ := hq
      exact tz_iret (g_at ck_X10_later 37 rfl) rfl (rI_mk ⟨qR_62, hR8, hQ32.tr (qM_trL hF84), sq_0 hz2 hz28, by rw [← hx84]; simp (disch := omega) only [if_pos, if_neg]⟩)
  · skip
    refine tz_iconst (n := 12) (g_at ck_X10_later 7 rfl) rfl ?_
    refine tz_goto (tgt := 16) (g_at ck_X10_later 8 rfl) rfl ?_
    refine tz_iload2 (n := 17) (g_at ck_X10_later 10 rfl) rfl ?_
    refine tz_iconst (n := 18) (g_at ck_X10_later 11 rfl) rfl ?_
    refine tz_icmp_ne (n := 21) (tgt := 26) (g_at ck_X10_later 12 rfl) rfl rfl ⟨hw.1, hw.2, (by decide), (by decide)⟩ (fun h18 => ?_) (fun h18 => absurd h18 (by omega))
    refine tz_bipush (n := 28) (g_at ck_X10_later 15 rfl) rfl rfl ?_
    refine tz_csxV3 (n := 31) (μ' := μX10_needDays) (cb' := 0) (sb' := 0) ml_X10_270 mo_X10_needDays ms_X10_needDays np_X10_needDays (g_at ck_X10_later 16 rfl) (sp_needD ⟨hn.1, hn.2⟩ ⟨(by decide), (by decide)⟩ ⟨(by decide), (by decide)⟩ hR1) rfl rfl ⟨by decide, by decide⟩ (Nat.le_of_ble_eq_true rfl) (by decide) (by decide) (g_in (g_m5 (List.mem_of_getElem? (i := 145) rfl)) rfl) (fun E9 ρ9 m9 h9 => g_gX_out rfl h9.1 h9.2.1 (sq_2 hz2 ((show cdD n (if w = 2 then 1 else 0) (if w = 3 then 60 else 100) = cdD n 1 100 by rw [if_pos (by omega), if_neg (by omega)]) ▸ h9.2.2))) (fun ρ9 m28 hq => ?_)
    obtain ⟨rfl, hR9, rfl, hz28⟩ := hq
    have hn2 := cdD_0 hz28
    have hz28 : cdD n (if w = 2 then 1 else 0) (if w = 3 then 60 else 100) = 0 := (show cdD n (if w = 2 then 1 else 0) (if w = 3 then 60 else 100) = cdD n 1 100 by rw [if_pos (by omega), if_neg (by omega)]) ▸ hz28
    refine tz_aload0 (n := 32) (g_at ck_X10_later 17 rfl) rfl (g_ne kd_1) ?_
    refine tz_cvR0 (n := 35) (μ' := μX10_setOut) (cb' := 0) (sb' := 0) ml_X10_251 mo_X10_setOut mv_X10_setOut np_X10_setOut kd_1 (g_at ck_X10_later 18 rfl) (sp_setOut hL hLn hS hR9 hW hG hN) rfl rfl rfl ⟨by decide, by decide⟩ (Nat.le_of_ble_eq_true rfl) (by decide) (by decide) (fun x32 ρ9 m32 hq => ?_)
    obtain ⟨rfl, rfl, hR10, hT32, hF32⟩ := hq
    have hQ32 := qM_trL (hF32.sub (trL_be (ld := ld)))
    have hG32 := hG.fr (hF32.sub trL_be)
    have hL := LY_wr (r := 62) (k := 0) (x := ld) hL (by decide)
    have hLt : wr ρ 62 0 ld 62 0 = ld := wr_same
    have hLn : wr ρ 62 0 ld 1 3 = ld := (by rw [wr_ne (by decide)]; exact hLn)
    have hS : isS (wr ρ 62 0 ld) ld := isS_of hL hld
    refine tz_popR (n := 36) (g_at ck_X10_later 19 rfl) rfl ?_
    refine tz_iload2 (n := 37) (g_at ck_X10_later 20 rfl) rfl ?_
    by_cases hk37_0 : w = 0
    · skip
      exfalso; omega
    by_cases hk37_1 : w = 1
    · skip
      exfalso; omega
    by_cases hk37_2 : w = 2
    · skip
      refine tz_tableIn (tgt := 76) (g_at ck_X10_later 21 rfl) ⟨hw.1, hw.2⟩ (by omega) (by omega) (by rw [hk37_2]; rfl) rfl ?_
      refine tz_aload0 (n := 77) (g_at ck_X10_later 30 rfl) rfl (g_ne kd_1) ?_
      refine tz_iload1 (n := 78) (g_at ck_X10_later 31 rfl) rfl ?_
      refine tz_cvI1 (n := 81) (μ' := μX10_busiest) (cb' := 0) (sb' := 0) ml_X10_296 mo_X10_busiest mv_X10_busiest np_X10_busiest kd_1 (g_at ck_X10_later 32 rfl) (sp_busiest hL hLt hS hR10 hW hG32 hT32 hσ (by decide) hLn (by omega)) rfl rfl rfl ⟨by decide, by decide⟩ (Nat.le_of_ble_eq_true rfl) (by decide) (by decide) (fun x78 ρ9 m78 hq => ?_)
      obtain ⟨rfl, hR11, hx78, hF78⟩ := hq
      exact tz_iret (g_at ck_X10_later 33 rfl) rfl (rI_mk ⟨qR_62, hR11, hQ32.tr ((qM_trc (by decide) hF78)), sq_0 hz2 hz28, by rw [← hx78]; simp (disch := omega) only [if_pos, if_neg]⟩)
    exfalso; omega
theorem homB_now {m Λ : Mm} {ld : Int} {hl tl : List Int} {s : Int → Int} (hW : WL Λ) (hG : LandC m ld Λ hl tl) (hN : MomC m 39 s) : bitsH (m (39 + 1)) (m (ld + 5)) (m ld 1).toNat = homB Λ (sig0 s) := by
  have hn8 := hW.2.1
  rw [hG.n1]
  exact bitsH_congr fun p hp => ⟨nowW hN p (by omega), hG.home p (by omega)⟩
theorem sp_first {l : Launch} {γ : Gh} {ρ m : Mm} {ld : Int} {Λ : Mm} {hl tl : List Int} (hL : LY ρ) (hLn : ρ 1 3 = ld) (hS : isS ρ ld) (hR : MR m) (hW : WL Λ) (hG : LandC m ld Λ hl tl) {s : Int → Int} (hN : MomC m 39 s) (hσ : WS Λ 0 (sig0 s)) : gE l γ μX10_first 6 0 0 (rI KK fun x ρ9 m9 => qR ρ ρ9 ∧ MR m9 ∧ qM ld m m9 ∧ isFF (fun (j q : Nat) => (daysP Λ hl tl (sig0 s) (j + 1)) 0 (1 + (q : Int)) = Λ 5 (q : Int) ∧ ¬ s (1 + (q : Int)) = Λ 5 (q : Int)) 100 (Λ 0 1).toNat x) xN KK ρ m [vR 1] := by
  refine gE.ofw cl_X10.2 ?_ rfl rfl (Nat.le_of_ble_eq_true rfl)
  show gT l γ μX10_first 6 0 0 _ _ KK ρ m 0 [some (vR 1), none, none, none] []
  have hn1 := hW.1
  have hn8 := hW.2.1
  have hld := hG.ld9
  refine tz_aload0 (n := 1) (g_at ck_X10_first 0 rfl) rfl (g_ne kd_1) ?_
  refine tz_getOv (n := 4) (a := ld) fk_X10_20 kd_1 hLn (g_at ck_X10_first 1 rfl) rfl ?_
  refine tz_aload0 (n := 5) (g_at ck_X10_first 2 rfl) rfl (g_ne kd_1) ?_
  refine tz_getOv (n := 8) (a := 39) fk_X10_39 kd_1 (ly_1_6 hL) (g_at ck_X10_first 3 rfl) rfl ?_
  refine tz_cvI1 (n := 11) (μ' := μX6_atHome) (cb' := 0) (sb' := 0) ml_X10_155 mo_X6_atHome mv_X6_atHome np_X6_atHome hS.k0 (g_at ck_X10_first 4 rfl) (sp_atHome hS (isM_39 hL) hR (by rw [hG.n1]; omega)) rfl rfl rfl ⟨by decide, by decide⟩ (Nat.le_of_ble_eq_true rfl) (by decide) (by decide) (fun x8 ρ9 m8 hq => ?_)
  obtain ⟨rfl, hR1, rfl, rfl⟩ := hq
  rw [homB_now hW hG hN]
  refine tz_istore1 (n := 12) (g_at ck_X10_first 5 rfl) rfl (by decide) g_hpR ?_
  refine tz_aload0 (n := 13) (g_at ck_X10_first 6 rfl) rfl (g_ne kd_1) ?_
  refine tz_cvR0 (n := 16) (μ' := μX10_setOut) (cb' := 0) (sb' := 0) ml_X10_251 mo_X10_setOut mv_X10_setOut np_X10_setOut kd_1 (g_at ck_X10_first 7 rfl) (sp_setOut hL hLn hS hR1 hW hG hN) rfl rfl rfl ⟨by decide, by decide⟩ (Nat.le_of_ble_eq_true rfl) (by decide) (by decide) (fun x13 ρ9 m13 hq => ?_)
  obtain ⟨rfl, rfl, hR2, hT13, hF13⟩ := hq
  have hQ13 := qM_trL (hF13.sub (trL_be (ld := ld)))
  have hG13 := hG.fr (hF13.sub trL_be)
  have hL := LY_wr (r := 62) (k := 0) (x := ld) hL (by decide)
  have hLt : wr ρ 62 0 ld 62 0 = ld := wr_same
  have hLn : wr ρ 62 0 ld 1 3 = ld := (by rw [wr_ne (by decide)]; exact hLn)
  have hS : isS (wr ρ 62 0 ld) ld := isS_of hL hld
  refine tz_popR (n := 17) (g_at ck_X10_first 8 rfl) rfl ?_
  refine tz_iconst (n := 18) (g_at ck_X10_first 9 rfl) rfl ?_
  refine tz_istore2 (n := 19) (g_at ck_X10_first 10 rfl) rfl (by decide) g_hpI ?_
  refine g_for (fun i : Nat => ∀ m1 : Mm, (MR m1 ∧ TripC m1 (daysP Λ hl tl (sig0 s) i) ∧ Fr (trL ld) m m1 ∧ ∀ j : Nat, j < i → ∀ q : Nat, q < (Λ 0 1).toNat → ¬ (fun (j q : Nat) => (daysP Λ hl tl (sig0 s) (j + 1)) 0 (1 + (q : Int)) = Λ 5 (q : Int) ∧ ¬ s (1 + (q : Int)) = Λ 5 (q : Int)) j q) → gT l γ μX10_first 6 0 0 _ _ KK (wr ρ 62 0 ld) m1 19 [some (vR 1), some (vI (homB Λ (sig0 s))), some (vI ((i : Int) + 1)), none] []) 100 ?_ (fun i hi ihi => ?_) 0 (Nat.zero_le _) _ ⟨hR2, hT13, hF13.sub trL_be, fun j hj => absurd hj (Nat.not_lt_zero j)⟩
  · intro m1 hinv
    obtain ⟨hRi, hTi, hFi, hno⟩ := hinv
    refine tz_iload2 (n := 20) (g_at ck_X10_first 11 rfl) rfl ?_
    refine tz_bipush (n := 22) (g_at ck_X10_first 12 rfl) rfl rfl ?_
    refine tz_icmp_gt (n := 25) (tgt := 79) (g_at ck_X10_first 13 rfl) rfl rfl ⟨(by omega), (by omega), (by decide), (by decide)⟩ (fun h22 => ?_) (fun h22 => absurd h22 (by omega))
    refine tz_iconst (n := 80) (g_at ck_X10_first 42 rfl) rfl ?_
    exact tz_iret (g_at ck_X10_first 43 rfl) rfl (rI_mk ⟨qR_62, hRi, qM_trL hFi, Or.inl ⟨rfl, hno⟩⟩)
  · intro m1 hinv
    obtain ⟨hRi, hTi, hFi, hno⟩ := hinv
    have hGi := hG.fr hFi
    have hσi := daysP_WS (hl := hl) (tl := tl) hW hσ (Int.le_refl 0) i
    refine tz_iload2 (n := 20) (g_at ck_X10_first 11 rfl) rfl ?_
    refine tz_bipush (n := 22) (g_at ck_X10_first 12 rfl) rfl rfl ?_
    refine tz_icmp_gt (n := 25) (tgt := 79) (g_at ck_X10_first 13 rfl) rfl rfl ⟨(by omega), (by omega), (by decide), (by decide)⟩ (fun h22 => absurd h22 (by omega)) (fun h22 => ?_)
    refine tz_aload0 (n := 26) (g_at ck_X10_first 14 rfl) rfl (g_ne kd_1) ?_
    refine tz_getOv (n := 29) (a := 62) fk_X10_74 kd_1 (ly_1_14 hL) (g_at ck_X10_first 15 rfl) rfl ?_
    refine tz_iconst (n := 30) (g_at ck_X10_first 16 rfl) rfl ?_
    refine tz_cvV1 (n := 33) (μ' := μX8_goDay) (cb' := 0) (sb' := 0) ml_X10_277 mo_X8_goDay mv_X8_goDay np_X8_goDay kd_62 (g_at ck_X10_first 17 rfl) (sp_goDay hL hLt hS hRi hW hGi hTi hσi (by omega) (by omega)) rfl rfl rfl ⟨by decide, by decide⟩ (Nat.le_of_ble_eq_true rfl) (by decide) (by decide) (fun ρ9 m30 hq => ?_)
    obtain ⟨rfl, hR3, hT30, hF30⟩ := hq
    have hσ9 := daysP_WS (hl := hl) (tl := tl) hW hσ (Int.le_refl 0) (i + 1)
    have hT9 : TripC m30 (daysP Λ hl tl (sig0 s) (i + 1)) := hT30
    refine tz_iconst (n := 34) (g_at ck_X10_first 18 rfl) rfl ?_
    refine tz_istore3 (n := 35) (g_at ck_X10_first 19 rfl) rfl (by decide) g_hpI ?_
    have hG9 := hGi.fr hF30
    refine g_for (fun j : Nat => (∀ q : Nat, q < j → ¬ (fun (j q : Nat) => (daysP Λ hl tl (sig0 s) (j + 1)) 0 (1 + (q : Int)) = Λ 5 (q : Int) ∧ ¬ s (1 + (q : Int)) = Λ 5 (q : Int)) i q) → gT l γ μX10_first 6 0 0 _ _ KK (wr ρ 62 0 ld) m30 35 [some (vR 1), some (vI (homB Λ (sig0 s))), some (vI ((i : Int) + 1)), some (vI (j : Int))] []) (Λ 0 1).toNat ?_ (fun j hj ihj => ?_) 0 (Nat.zero_le _) (fun q hq => absurd hq (Nat.not_lt_zero q))
    · intro hinv
      refine tz_iload3 (n := 36) (g_at ck_X10_first 20 rfl) rfl ?_
      refine tz_aload0 (n := 37) (g_at ck_X10_first 21 rfl) rfl (g_ne kd_1) ?_
      refine tz_getOv (n := 40) (a := ld) fk_X10_20 kd_1 hLn (g_at ck_X10_first 22 rfl) rfl ?_
      refine tz_getIw (n := 43) (kz := 1) fk_X10_142 hS.k0 (g_at ck_X10_first 23 rfl) rfl rfl ?_
      rw [hG9.n1]
      refine tz_icmp_ge (n := 46) (tgt := 73) (g_at ck_X10_first 24 rfl) rfl rfl ⟨by omega, by omega, by omega, by omega⟩ (fun h43 => ?_) (fun h43 => absurd h43 (by omega))
      refine tz_iinc2 (n := 76) (g_at ck_X10_first 40 rfl) rfl (by decide) g_hpI ?_
      refine tz_goto (tgt := 19) (g_at ck_X10_first 41 rfl) rfl ?_
      refine tz_drop3 ?_
      exact ihi _ ⟨hR3, hT9, hFi.tr hF30, no_step2 hno hinv⟩
    · intro hinv
      have hnj := hinv
      have hb1 : bAnd (bShr (homB Λ (sig0 s)) (j : Int)) 1 = if s (1 + (j : Int)) = Λ 5 (j : Int) then 1 else 0 := homB_bit (σ := sig0 s) hW (p := (j : Int)) (by omega)
      have hb9 : bAnd (bShr (homB Λ (sig0 s)) (j : Int)) 1 ≠ 0 → s (1 + (j : Int)) = Λ 5 (j : Int) := fun h9 => by rw [hb1] at h9; exact ite10 h9
      refine tz_iload3 (n := 36) (g_at ck_X10_first 20 rfl) rfl ?_
      refine tz_aload0 (n := 37) (g_at ck_X10_first 21 rfl) rfl (g_ne kd_1) ?_
      refine tz_getOv (n := 40) (a := ld) fk_X10_20 kd_1 hLn (g_at ck_X10_first 22 rfl) rfl ?_
      refine tz_getIw (n := 43) (kz := 1) fk_X10_142 hS.k0 (g_at ck_X10_first 23 rfl) rfl rfl ?_
      rw [hG9.n1]
      refine tz_icmp_ge (n := 46) (tgt := 73) (g_at ck_X10_first 24 rfl) rfl rfl ⟨by omega, by omega, by omega, by omega⟩ (fun h43 => absurd h43 (by omega)) (fun h43 => ?_)
      refine tz_aload0 (n := 47) (g_at ck_X10_first 25 rfl) rfl (g_ne kd_1) ?_
      refine tz_getOv (n := 50) (a := 62) fk_X10_74 kd_1 (ly_1_14 hL) (g_at ck_X10_first 26 rfl) rfl ?_
      refine tz_iload3 (n := 51) (g_at ck_X10_first 27 rfl) rfl ?_
      refine tz_cvI1 (n := 54) (μ' := μX8_isHome) (cb' := 0) (sb' := 0) ml_X10_312 mo_X8_isHome mv_X8_isHome np_X8_isHome kd_62 (g_at ck_X10_first 28 rfl) (sp_tHome hL hLt hS hR3 hW hG9 hT9 hσ9 (by omega) (by omega)) rfl rfl rfl ⟨by decide, by decide⟩ (Nat.le_of_ble_eq_true rfl) (by decide) (by decide) (fun x51 ρ9 m51 hq => ?_)
      obtain ⟨rfl, hR4, rfl, rfl⟩ := hq
      refine tz_if_eq (n := 57) (tgt := 67) (g_at ck_X10_first 29 rfl) rfl rfl (by split <;> decide) (fun h54 => ?_) (fun h54 => ?_)
      · skip
        refine tz_iinc3 (n := 70) (g_at ck_X10_first 38 rfl) rfl (by decide) g_hpI ?_
        refine tz_goto (tgt := 35) (g_at ck_X10_first 39 rfl) rfl ?_
        have hn9 := ite10n h54
        exact ihj (no_step hnj (fun h9 => hn9 h9.1))
      · skip
        refine tz_iload1 (n := 58) (g_at ck_X10_first 30 rfl) rfl ?_
        refine tz_iload3 (n := 59) (g_at ck_X10_first 31 rfl) rfl ?_
        refine tz_ishr (n := 60) (g_at ck_X10_first 32 rfl) rfl ?_
        refine tz_iconst (n := 61) (g_at ck_X10_first 33 rfl) rfl ?_
        refine tz_iand (n := 62) (g_at ck_X10_first 34 rfl) rfl ?_
        refine tz_if_ne (n := 65) (tgt := 67) (g_at ck_X10_first 35 rfl) rfl rfl ⟨(bAnd_rg _ _).1, (bAnd_rg _ _).2⟩ (fun h62 => ?_) (fun h62 => ?_)
        · skip
          refine tz_iinc3 (n := 70) (g_at ck_X10_first 38 rfl) rfl (by decide) g_hpI ?_
          refine tz_goto (tgt := 35) (g_at ck_X10_first 39 rfl) rfl ?_
          have hn9 := hb9 h62
          exact ihj (no_step hnj (fun h9 => h9.2 hn9))
        · skip
          refine tz_iload3 (n := 66) (g_at ck_X10_first 36 rfl) rfl ?_
          exact tz_iret (g_at ck_X10_first 37 rfl) rfl (rI_mk ⟨qR_62, hR4, qM_trL (hFi.tr hF30), Or.inr ⟨i, j, by omega, by omega, ⟨ite10 h54, fun h9 => by rw [hb1, if_pos h9] at h62; exact absurd h62 (by decide)⟩, rfl, hno, hnj⟩⟩)
theorem sp_purse {l : Launch} {γ : Gh} {ρ m : Mm} {p : Int} (hp : -2147483648 ≤ p ∧ p < 2147483648) {ld : Int} {Λ : Mm} {hl tl : List Int} (hL : LY ρ) (hLn : ρ 1 3 = ld) (hS : isS ρ ld) (hR : MR m) (hW : WL Λ) (hG : LandC m ld Λ hl tl) {s : Int → Int} (hN : MomC m 39 s) (hσ : WS Λ 0 (sig0 s)) : gE l γ μX10_purse 7 1 6 (rI KK fun x ρ9 m9 => qR ρ ρ9 ∧ MR m9 ∧ qM ld m m9 ∧ cdP Λ p = 0 ∧ isFN (fun k : Nat => homF Λ hl tl (wr (sig0 s) 0 (9 + p) (k : Int)) p ≤ 60) 100 x) (xC ρ m (cdP Λ p)) KK ρ m [vR 1, vI p] := by
  refine gE.ofw cl_X10.2 ?_ rfl rfl (Nat.le_of_ble_eq_true rfl)
  show gT l γ μX10_purse 7 1 6 _ _ KK ρ m 0 [some (vR 1), some (vI p), none] []
  have hn1 := hW.1
  have hn8 := hW.2.1
  have hld := hG.ld9
  refine tz_aload0 (n := 1) (g_at ck_X10_purse 0 rfl) rfl (g_ne kd_1) ?_
  refine tz_iload1 (n := 2) (g_at ck_X10_purse 1 rfl) rfl ?_
  refine tz_cvxV1 (n := 5) (μ' := μX10_needPerson) (cb' := 0) (sb' := 0) ml_X10_221 mo_X10_needPerson mv_X10_needPerson np_X10_needPerson kd_1 (g_at ck_X10_purse 2 rfl) (sp_needP ⟨hp.1, hp.2⟩ hL hLn hS hR hW hG) rfl rfl rfl ⟨by decide, by decide⟩ (Nat.le_of_ble_eq_true rfl) (by decide) (by decide) (g_in (g_m5 (List.mem_of_getElem? (i := 68) rfl)) rfl) (fun E9 ρ9 m9 h9 => g_gX_out rfl h9.1 h9.2.1 h9.2.2) (fun ρ9 m2 hq => ?_)
  obtain ⟨rfl, hR1, rfl, hz2⟩ := hq
  have hp2 := cdP_0 hz2
  refine tz_iconst (n := 6) (g_at ck_X10_purse 3 rfl) rfl ?_
  refine tz_istore2 (n := 7) (g_at ck_X10_purse 4 rfl) rfl (by decide) g_hpI ?_
  refine g_for (fun i : Nat => ∀ ρ1 m1 : Mm, (MR m1 ∧ (qR ρ ρ1 ∧ qM ld m m1) ∧ ∀ j : Nat, j < i → ¬ (fun k : Nat => homF Λ hl tl (wr (sig0 s) 0 (9 + p) (k : Int)) p ≤ 60) j) → gT l γ μX10_purse 7 0 0 _ _ KK ρ1 m1 7 [some (vR 1), some (vI p), some (vI (i : Int))] []) 100 ?_ (fun i hi ihi => ?_) 0 (Nat.zero_le _) _ _ ⟨hR1, ⟨qR.rf, qM.rf⟩, fun j hj => absurd hj (Nat.not_lt_zero j)⟩
  · intro ρ1 m1 hinv
    obtain ⟨hRi, hq1, hno⟩ := hinv
    refine tz_iload2 (n := 8) (g_at ck_X10_purse 5 rfl) rfl ?_
    refine tz_bipush (n := 10) (g_at ck_X10_purse 6 rfl) rfl rfl ?_
    refine tz_icmp_gt (n := 13) (tgt := 49) (g_at ck_X10_purse 7 rfl) rfl rfl ⟨(by omega), (by omega), (by decide), (by decide)⟩ (fun h10 => ?_) (fun h10 => absurd h10 (by omega))
    refine tz_iconst (n := 50) (g_at ck_X10_purse 26 rfl) rfl ?_
    exact tz_iret (g_at ck_X10_purse 27 rfl) rfl (rI_mk ⟨hq1.1, hRi, hq1.2, hz2, Or.inl ⟨rfl, hno⟩⟩)
  · intro ρ1 m1 hinv
    obtain ⟨hRi, hq1, hno⟩ := hinv
    have hL1 := hL.q hq1.1
    have hLn1 := hq1.1.ln hLn
    have hS1 := isS_q hL hq1.1 hld
    have hG1 := hG.q hq1.2
    have hN1 := hN.q hld hq1.2
    refine tz_iload2 (n := 8) (g_at ck_X10_purse 5 rfl) rfl ?_
    refine tz_bipush (n := 10) (g_at ck_X10_purse 6 rfl) rfl rfl ?_
    refine tz_icmp_gt (n := 13) (tgt := 49) (g_at ck_X10_purse 7 rfl) rfl rfl ⟨(by omega), (by omega), (by decide), (by decide)⟩ (fun h10 => absurd h10 (by omega)) (fun h10 => ?_)
    refine tz_aload0 (n := 14) (g_at ck_X10_purse 8 rfl) rfl (g_ne kd_1) ?_
    refine tz_cvR0 (n := 17) (μ' := μX10_setOut) (cb' := 0) (sb' := 0) ml_X10_251 mo_X10_setOut mv_X10_setOut np_X10_setOut kd_1 (g_at ck_X10_purse 9 rfl) (sp_setOut hL1 hLn1 hS1 hRi hW hG1 hN1) rfl rfl rfl ⟨by decide, by decide⟩ (Nat.le_of_ble_eq_true rfl) (by decide) (by decide) (fun x14 ρ9 m14 hq => ?_)
    obtain ⟨rfl, rfl, hR2, hT14, hF14⟩ := hq
    have hQ14 := hq1.2.tr (qM_trL (hF14.sub (trL_be (ld := ld))))
    have hG14 := hG1.fr (hF14.sub trL_be)
    have hqr := hq1.1.tr (qR_62 (x := ld))
    have hL := hL.q hqr
    have hLt : wr ρ1 62 0 ld 62 0 = ld := wr_same
    have hLn := hqr.ln hLn
    have hS := isS_q hL qR.rf hld
    refine tz_getOv (n := 20) (a := 63) fk_X10_258 kd_62 (ly_62_1 hL) (g_at ck_X10_purse 10 rfl) rfl ?_
    refine tz_getAv (n := 23) (a := 65) fk_X10_230 (isM_63 hL).k0 (isM_63 hL).r0_2 (g_at ck_X10_purse 11 rfl) rfl ?_
    refine tz_iload1 (n := 24) (g_at ck_X10_purse 12 rfl) rfl ?_
    refine tz_iload2 (n := 25) (g_at ck_X10_purse 13 rfl) rfl ?_
    refine tz_iastr (n := 26) (isM_63 hL).k2 (by omega) (g_at ck_X10_purse 14 rfl) rfl hR2 (by omega) (fun hR3 => ?_)
    refine tz_aload0 (n := 27) (g_at ck_X10_purse 15 rfl) rfl (g_ne kd_1) ?_
    refine tz_getOv (n := 30) (a := 62) fk_X10_74 kd_1 (ly_1_14 hL) (g_at ck_X10_purse 16 rfl) rfl ?_
    refine tz_iload1 (n := 31) (g_at ck_X10_purse 17 rfl) rfl ?_
    refine tz_bipush (n := 33) (g_at ck_X10_purse 18 rfl) rfl rfl ?_
    refine tz_cvI2 (n := 36) (μ' := μX8_daysToHome) (cb' := 0) (sb' := 0) ml_X10_324 mo_X8_daysToHome mv_X8_daysToHome np_X8_daysToHome kd_62 (g_at ck_X10_purse 19 rfl) (sp_toHome hL hLt hS hR3 hW (hG14.fr (Fr.rf.wr (trL_65))) (hT14.setP (by omega)) (WS_pur hW hσ hp2 (by omega)) (by decide) (by omega) (by decide)) rfl rfl rfl ⟨by decide, by decide⟩ (Nat.le_of_ble_eq_true rfl) (by decide) (by decide) (fun x33 ρ9 m33 hq => ?_)
    obtain ⟨rfl, hR4, hX33, hF33⟩ := hq
    have e0 : x33 = homF Λ hl tl (wr (sig0 s) 0 (9 + p) (i : Int)) p := isFst_eq hX33 (homF_is Λ hl tl _ p)
    have hx33 := (homF_is Λ hl tl (wr (sig0 s) 0 (9 + p) (i : Int)) p).1
    have hx34 := (homF_is Λ hl tl (wr (sig0 s) 0 (9 + p) (i : Int)) p).2.1
    subst e0
    refine tz_bipush (n := 38) (g_at ck_X10_purse 20 rfl) rfl rfl ?_
    refine tz_icmp_gt (n := 41) (tgt := 43) (g_at ck_X10_purse 21 rfl) rfl rfl ⟨by omega, by omega, by omega, by omega⟩ (fun h38 => ?_) (fun h38 => ?_)
    · skip
      refine tz_iinc2 (n := 46) (g_at ck_X10_purse 24 rfl) rfl (by decide) g_hpI ?_
      refine tz_goto (tgt := 7) (g_at ck_X10_purse 25 rfl) rfl ?_
      exact ihi _ _ ⟨hR4, ⟨hqr, (hQ14.tr (qM_trL (Fr.rf.wr trL_65))).tr (qM_trL hF33)⟩, no_step hno (by show ¬ (_ ≤ (60 : Int)); omega)⟩
    · skip
      refine tz_iload2 (n := 42) (g_at ck_X10_purse 22 rfl) rfl ?_
      exact tz_iret (g_at ck_X10_purse 23 rfl) rfl (rI_mk ⟨hqr, hR4, (hQ14.tr (qM_trL (Fr.rf.wr trL_65))).tr (qM_trL hF33), hz2, Or.inr ⟨i, rfl, by omega, by show _ ≤ (60 : Int); omega, hno⟩⟩)
theorem bOr_sh {x r : Int} (hx : 0 ≤ x ∧ x < 32) (hr : 0 ≤ r ∧ r < 5) : 0 ≤ bOr x (bShl 1 r) ∧ bOr x (bShl 1 r) < 32 := by
  have h : ∀ a : Nat, a < 32 → ∀ b : Nat, b < 5 → 0 ≤ bOr (a : Int) (bShl 1 (b : Int)) ∧ bOr (a : Int) (bShl 1 (b : Int)) < 32 := by decide +kernel
  have := h x.toNat (by omega) r.toNat (by omega)
  rw [show ((x.toNat : Nat) : Int) = x by omega, show ((r.toNat : Nat) : Int) = r by omega] at this
  exact this
noncomputable def ctB (Λ : Mm) (hl tl : List Int) (s : Int → Int) (p c r : Int) : Int := if shutB (s (26 + c)) r = 1 then 0 else if homF Λ hl tl (wr (sig0 s) 0 (26 + c) (bOr (s (26 + c)) (bShl 1 r))) p ≤ 60 then 0 else 1
theorem ctB_01 {Λ : Mm} {hl tl : List Int} {s : Int → Int} {p c r : Int} : ctB Λ hl tl s p c r = 0 ∨ ctB Λ hl tl s p c r = 1 := by
  unfold ctB
  repeat' split
  all_goals simp
/-- how many, and the first one, of all roads of which B says 1 -/
def cfS (B : Int → Int → Int) (c r : Int) (q : Int × Int) : Int × Int := if B c r = 0 then q else (q.1 + 1, if q.1 = 0 then 10 * c + r else q.2)
def cfR (B : Int → Int → Int) (c : Int) (q : Int × Int) (n : Nat) : Int × Int := fd (fun r u => cfS B c (r : Int) u) q n
def cfN (Λ : Mm) (B : Int → Int → Int) (n : Nat) : Int × Int := fd (fun c u => cfR B (c : Int) u (Λ 3 (c : Int)).toNat) (0, -1) n
theorem cfS_1 {B : Int → Int → Int} {c r : Int} {q : Int × Int} (h : ¬ B c r = 0) (h0 : q.1 = 0) : cfS B c r q = (q.1 + 1, 10 * c + r) := by
  unfold cfS
  rw [if_neg h, if_pos h0]
theorem cfS_2 {B : Int → Int → Int} {c r : Int} {q : Int × Int} (h : ¬ B c r = 0) (h0 : ¬ q.1 = 0) : cfS B c r q = (q.1 + 1, q.2) := by
  unfold cfS
  rw [if_neg h, if_neg h0]
theorem cfR_rg {B : Int → Int → Int} {c b : Int} {q : Int × Int} (h : 0 ≤ q.1 ∧ q.1 ≤ b) : ∀ n, 0 ≤ (cfR B c q n).1 ∧ (cfR B c q n).1 ≤ b + n
  | 0 => by show 0 ≤ q.1 ∧ q.1 ≤ b + ((0 : Nat) : Int); omega
  | n + 1 => by
    have ih := cfR_rg (B := B) (c := c) h n
    show 0 ≤ (cfS B c (n : Int) (cfR B c q n)).1 ∧ (cfS B c (n : Int) (cfR B c q n)).1 ≤ b + ((n + 1 : Nat) : Int)
    unfold cfS
    split
    · omega
    · simp only []; omega
theorem cfN_rg {Λ : Mm} (hW : WL Λ) {B : Int → Int → Int} : ∀ n : Nat, (n : Int) ≤ Λ 0 0 → 0 ≤ (cfN Λ B n).1 ∧ (cfN Λ B n).1 ≤ 5 * n
  | 0, _ => by show (0 : Int) ≤ 0 ∧ (0 : Int) ≤ 5 * ((0 : Nat) : Int); decide
  | n + 1, hn => by
    have ih := cfN_rg hW (B := B) n (by omega)
    have h3 := hW.2.2.1 (n : Int) (by omega) (by omega)
    have k := cfR_rg (B := B) (c := (n : Int)) ih (Λ 3 (n : Int)).toNat
    show 0 ≤ (cfR B (n : Int) (cfN Λ B n) (Λ 3 (n : Int)).toNat).1 ∧ (cfR B (n : Int) (cfN Λ B n) (Λ 3 (n : Int)).toNat).1 ≤ _
    omega
theorem trL_67 {ld : Int} : (67 : Int) ∈ trL ld := by
  unfold trL
  simp
theorem sp_isCut {l : Launch} {γ : Gh} {ρ m : Mm} {p c r : Int} {ld : Int} {Λ : Mm} {hl tl : List Int} (hL : LY ρ) (hLn : ρ 1 3 = ld) (hS : isS ρ ld) (hR : MR m) (hW : WL Λ) (hG : LandC m ld Λ hl tl) {s : Int → Int} (hN : MomC m 39 s) (hσ : WS Λ 0 (sig0 s)) (hLt : ρ 62 0 = ld) (hp : 0 ≤ p ∧ p < Λ 0 1) (hc : 0 ≤ c ∧ c < Λ 0 0) (hr : 0 ≤ r ∧ r < Λ 3 c) : gE l γ μX10_isCut 6 0 0 (rI KK fun x ρ9 m9 => ρ = ρ9 ∧ MR m9 ∧ Fr (trL ld) m m9 ∧ ctB Λ hl tl s p c r = x) xN KK ρ m [vR 1, vI p, vI c, vI r] := by
  refine gE.ofw cl_X10.2 ?_ rfl rfl (Nat.le_of_ble_eq_true rfl)
  show gT l γ μX10_isCut 6 0 0 _ _ KK ρ m 0 [some (vR 1), some (vI p), some (vI c), some (vI r)] []
  have hn1 := hW.1
  have hn8 := hW.2.1
  have hld := hG.ld9
  have hc3 := hW.2.2.1 c hc.1 hc.2
  have ha1 := sig0_WS_c hσ hc
  have h01 := shutB_01 (s (26 + c)) r
  have ho := bOr_sh ⟨ha1.2.2.1, ha1.2.2.2⟩ (show 0 ≤ r ∧ r < 5 by omega)
  have hh := homF_is Λ hl tl (wr (sig0 s) 0 (26 + c) (bOr (s (26 + c)) (bShl 1 r))) p
  refine tz_aload0 (n := 1) (g_at ck_X10_isCut 0 rfl) rfl (g_ne kd_1) ?_
  refine tz_getOv (n := 4) (a := 39) fk_X10_39 kd_1 (ly_1_6 hL) (g_at ck_X10_isCut 1 rfl) rfl ?_
  refine tz_iload2 (n := 5) (g_at ck_X10_isCut 2 rfl) rfl ?_
  refine tz_iload3 (n := 6) (g_at ck_X10_isCut 3 rfl) rfl ?_
  refine tz_cvI2 (n := 9) (μ' := μX2_isShut) (cb' := 0) (sb' := 0) ml_X10_217 mo_X2_isShut mv_X2_isShut np_X2_isShut (isM_39 hL).k0 (g_at ck_X10_isCut 4 rfl) (sp_isShut (isM_39 hL) hR (by omega)) rfl rfl rfl ⟨by decide, by decide⟩ (Nat.le_of_ble_eq_true rfl) (by decide) (by decide) (fun x6 ρ9 m6 hq => ?_)
  obtain ⟨rfl, hR1, rfl, rfl⟩ := hq
  rw [show m (39 + 4) c = s (26 + c) from nowS hN c (by omega)]
  refine tz_if_eq (n := 12) (tgt := 14) (g_at ck_X10_isCut 5 rfl) rfl rfl (by omega) (fun h9 => ?_) (fun h9 => ?_)
  · skip
    refine tz_aload0 (n := 15) (g_at ck_X10_isCut 8 rfl) rfl (g_ne kd_1) ?_
    refine tz_cvR0 (n := 18) (μ' := μX10_setOut) (cb' := 0) (sb' := 0) ml_X10_251 mo_X10_setOut mv_X10_setOut np_X10_setOut kd_1 (g_at ck_X10_isCut 9 rfl) (sp_setOut hL hLn hS hR1 hW hG hN) rfl rfl rfl ⟨by decide, by decide⟩ (Nat.le_of_ble_eq_true rfl) (by decide) (by decide) (fun x15 ρ9 m15 hq => ?_)
    obtain ⟨rfl, rfl, hR2, hT15, hF15⟩ := hq
    have hQ15 := qM_trL (hF15.sub (trL_be (ld := ld)))
    have hG15 := hG.fr (hF15.sub trL_be)
    have hL := LY_wr (r := 62) (k := 0) (x := ld) hL (by decide)
    have hLt : wr ρ 62 0 ld 62 0 = ld := wr_same
    have hLn : wr ρ 62 0 ld 1 3 = ld := (by rw [wr_ne (by decide)]; exact hLn)
    have hS : isS (wr ρ 62 0 ld) ld := isS_of hL hld
    refine tz_getOv (n := 21) (a := 63) fk_X10_258 kd_62 (ly_62_1 hL) (g_at ck_X10_isCut 10 rfl) rfl ?_
    refine tz_getAv (n := 24) (a := 67) fk_X10_176 (isM_63 hL).k0 (isM_63 hL).r0_4 (g_at ck_X10_isCut 11 rfl) rfl ?_
    refine tz_iload2 (n := 25) (g_at ck_X10_isCut 12 rfl) rfl ?_
    refine tz_dup2 (n := 26) (g_at ck_X10_isCut 13 rfl) rfl ?_
    refine tz_iald (n := 27) (isM_63 hL).k4 (by omega) (g_at ck_X10_isCut 14 rfl) rfl ?_
    rw [show m15 67 c = s (26 + c) from hT15.sht c (by omega)]
    refine tz_iconst (n := 28) (g_at ck_X10_isCut 15 rfl) rfl ?_
    refine tz_iload3 (n := 29) (g_at ck_X10_isCut 16 rfl) rfl ?_
    refine tz_ishl (n := 30) (g_at ck_X10_isCut 17 rfl) rfl ?_
    refine tz_ior (n := 31) (g_at ck_X10_isCut 18 rfl) rfl ?_
    refine tz_iastr (n := 32) (isM_63 hL).k4 (by omega) (g_at ck_X10_isCut 19 rfl) rfl hR2 (by omega) (fun hR3 => ?_)
    refine tz_aload0 (n := 33) (g_at ck_X10_isCut 20 rfl) rfl (g_ne kd_1) ?_
    refine tz_getOv (n := 36) (a := 62) fk_X10_74 kd_1 (ly_1_14 hL) (g_at ck_X10_isCut 21 rfl) rfl ?_
    refine tz_iload1 (n := 37) (g_at ck_X10_isCut 22 rfl) rfl ?_
    refine tz_bipush (n := 39) (g_at ck_X10_isCut 23 rfl) rfl rfl ?_
    refine tz_cvI2 (n := 42) (μ' := μX8_daysToHome) (cb' := 0) (sb' := 0) ml_X10_324 mo_X8_daysToHome mv_X8_daysToHome np_X8_daysToHome kd_62 (g_at ck_X10_isCut 24 rfl) (sp_toHome hL hLt hS hR3 hW (hG15.fr (Fr.rf.wr trL_67)) (hT15.setH (by omega)) (WS_sht hW hσ hc ho) (by decide) (by omega) (by decide)) rfl rfl rfl ⟨by decide, by decide⟩ (Nat.le_of_ble_eq_true rfl) (by decide) (by decide) (fun x39 ρ9 m39 hq => ?_)
    obtain ⟨rfl, hR4, hX39, hF39⟩ := hq
    have e0 : x39 = homF Λ hl tl (wr (sig0 s) 0 (26 + c) (bOr (s (26 + c)) (bShl 1 r))) p := isFst_eq hX39 hh
    have hx1 := hh.1
    have hx2 := hh.2.1
    subst e0
    refine tz_bipush (n := 44) (g_at ck_X10_isCut 25 rfl) rfl rfl ?_
    refine tz_icmp_le (n := 47) (tgt := 51) (g_at ck_X10_isCut 26 rfl) rfl rfl ⟨by omega, by omega, by decide, by decide⟩ (fun h44 => ?_) (fun h44 => ?_)
    · skip
      refine tz_iconst (n := 52) (g_at ck_X10_isCut 29 rfl) rfl ?_
      exact tz_bret (g_at ck_X10_isCut 30 rfl) rfl (by decide) (rI_mk ⟨(wr_self (by assumption)).symm, hR4, ((hF15.sub trL_be).wr trL_67).tr hF39, by unfold ctB; rw [if_neg (by omega), if_pos h44]⟩)
    · skip
      refine tz_iconst (n := 48) (g_at ck_X10_isCut 27 rfl) rfl ?_
      refine tz_goto (tgt := 52) (g_at ck_X10_isCut 28 rfl) rfl ?_
      exact tz_bret (g_at ck_X10_isCut 30 rfl) rfl (by decide) (rI_mk ⟨(wr_self (by assumption)).symm, hR4, ((hF15.sub trL_be).wr trL_67).tr hF39, by unfold ctB; rw [if_neg (by omega), if_neg h44]⟩)
  · skip
    refine tz_iconst (n := 13) (g_at ck_X10_isCut 6 rfl) rfl ?_
    exact tz_bret (g_at ck_X10_isCut 7 rfl) rfl (by decide) (rI_mk ⟨rfl, hR1, Fr.rf, if_pos (by omega)⟩)
theorem sp_cuts {l : Launch} {γ : Gh} {ρ m : Mm} {p w : Int} (hp : -2147483648 ≤ p ∧ p < 2147483648) (hw : -2147483648 ≤ w ∧ w < 2147483648) {ld : Int} {Λ : Mm} {hl tl : List Int} (hL : LY ρ) (hLn : ρ 1 3 = ld) (hS : isS ρ ld) (hR : MR m) (hW : WL Λ) (hG : LandC m ld Λ hl tl) {s : Int → Int} (hN : MomC m 39 s) (hσ : WS Λ 0 (sig0 s)) : gE l γ μX10_cuts 7 2 12 (rI KK fun x ρ9 m9 => qR ρ ρ9 ∧ MR m9 ∧ qM ld m m9 ∧ sq (cdP Λ p) (cdW w 1) = 0 ∧ (if w = 0 then (if homF Λ hl tl (sig0 s) p ≤ 60 then cfN Λ (ctB Λ hl tl s p) (Λ 0 0).toNat else (0, -1)).1 else (if homF Λ hl tl (sig0 s) p ≤ 60 then cfN Λ (ctB Λ hl tl s p) (Λ 0 0).toNat else (0, -1)).2) = x) (xC ρ m (sq (cdP Λ p) (cdW w 1))) KK ρ m [vR 1, vI p, vI w] := by
  refine gE.ofw cl_X10.2 ?_ rfl rfl (Nat.le_of_ble_eq_true rfl)
  show gT l γ μX10_cuts 7 2 12 _ _ KK ρ m 0 [some (vR 1), some (vI p), some (vI w), none, none, none, none, none] []
  have hn1 := hW.1
  have hn8 := hW.2.1
  have hld := hG.ld9
  refine tz_aload0 (n := 1) (g_at ck_X10_cuts 0 rfl) rfl (g_ne kd_1) ?_
  refine tz_iload1 (n := 2) (g_at ck_X10_cuts 1 rfl) rfl ?_
  refine tz_cvxV1 (n := 5) (μ' := μX10_needPerson) (cb' := 1) (sb' := 6) ml_X10_221 mo_X10_needPerson mv_X10_needPerson np_X10_needPerson kd_1 (g_at ck_X10_cuts 2 rfl) (sp_needP ⟨hp.1, hp.2⟩ hL hLn hS hR hW hG) rfl rfl rfl ⟨by decide, by decide⟩ (Nat.le_of_ble_eq_true rfl) (by decide) (by decide) (g_in (g_m5 (List.mem_of_getElem? (i := 68) rfl)) rfl) (fun E9 ρ9 m9 h9 => g_gX_out rfl h9.1 h9.2.1 (sq_1 h9.2.2)) (fun ρ9 m2 hq => ?_)
  obtain ⟨rfl, hR1, rfl, hz2⟩ := hq
  have hp2 := cdP_0 hz2
  refine tz_iload2 (n := 6) (g_at ck_X10_cuts 3 rfl) rfl ?_
  refine tz_iconst (n := 7) (g_at ck_X10_cuts 4 rfl) rfl ?_
  refine tz_csxV2 (n := 10) (μ' := μX10_needWhat) (cb' := 0) (sb' := 0) ml_X10_135 mo_X10_needWhat ms_X10_needWhat np_X10_needWhat (g_at ck_X10_cuts 5 rfl) (sp_needW ⟨hw.1, hw.2⟩ ⟨(by decide), (by decide)⟩ hR1) rfl rfl ⟨by decide, by decide⟩ (Nat.le_of_ble_eq_true rfl) (by decide) (by decide) (g_in (g_m4 (List.mem_of_getElem? (i := 228) rfl)) rfl) (fun E9 ρ9 m9 h9 => g_gX_out rfl h9.1 h9.2.1 (sq_2 hz2 h9.2.2)) (fun ρ9 m7 hq => ?_)
  obtain ⟨rfl, hR2, rfl, hz7⟩ := hq
  refine tz_iconst (n := 11) (g_at ck_X10_cuts 6 rfl) rfl ?_
  refine tz_istore3 (n := 12) (g_at ck_X10_cuts 7 rfl) rfl (by decide) g_hpI ?_
  refine tz_iconst (n := 13) (g_at ck_X10_cuts 8 rfl) rfl ?_
  refine tz_istore4 (n := 15) (g_at ck_X10_cuts 9 rfl) rfl (by decide) g_hpI ?_
  refine tz_aload0 (n := 16) (g_at ck_X10_cuts 10 rfl) rfl (g_ne kd_1) ?_
  refine tz_cvR0 (n := 19) (μ' := μX10_setOut) (cb' := 0) (sb' := 0) ml_X10_251 mo_X10_setOut mv_X10_setOut np_X10_setOut kd_1 (g_at ck_X10_cuts 11 rfl) (sp_setOut hL hLn hS hR2 hW hG hN) rfl rfl rfl ⟨by decide, by decide⟩ (Nat.le_of_ble_eq_true rfl) (by decide) (by decide) (fun x16 ρ9 m16 hq => ?_)
  obtain ⟨rfl, rfl, hR3, hT16, hF16⟩ := hq
  have hQ16 := qM_trL (hF16.sub (trL_be (ld := ld)))
  have hG16 := hG.fr (hF16.sub trL_be)
  have hL := LY_wr (r := 62) (k := 0) (x := ld) hL (by decide)
  have hLt : wr ρ 62 0 ld 62 0 = ld := wr_same
  have hLn : wr ρ 62 0 ld 1 3 = ld := (by rw [wr_ne (by decide)]; exact hLn)
  have hS : isS (wr ρ 62 0 ld) ld := isS_of hL hld
  refine tz_iload1 (n := 20) (g_at ck_X10_cuts 12 rfl) rfl ?_
  refine tz_bipush (n := 22) (g_at ck_X10_cuts 13 rfl) rfl rfl ?_
  refine tz_cvI2 (n := 25) (μ' := μX8_daysToHome) (cb' := 0) (sb' := 0) ml_X10_324 mo_X8_daysToHome mv_X8_daysToHome np_X8_daysToHome kd_62 (g_at ck_X10_cuts 14 rfl) (sp_toHome hL hLt hS hR3 hW hG16 hT16 hσ (by decide) (by omega) (by decide)) rfl rfl rfl ⟨by decide, by decide⟩ (Nat.le_of_ble_eq_true rfl) (by decide) (by decide) (fun x22 ρ9 m22 hq => ?_)
  obtain ⟨rfl, hR4, hX22, hF22⟩ := hq
  have hh := homF_is Λ hl tl (sig0 s) p
  have e0 : x22 = homF Λ hl tl (sig0 s) p := isFst_eq hX22 hh
  have hx1 := hh.1
  have hx2 := hh.2.1
  subst e0
  have hF22t : Fr (trL ld) m m22 := (hF16.sub trL_be).tr hF22
  have hG22 := hG.fr hF22t
  refine tz_bipush (n := 27) (g_at ck_X10_cuts 15 rfl) rfl rfl ?_
  refine tz_icmp_gt (n := 30) (tgt := 34) (g_at ck_X10_cuts 16 rfl) rfl rfl ⟨by omega, by omega, by decide, by decide⟩ (fun h27 => ?_) (fun h27 => ?_)
  · skip
    refine tz_iconst (n := 35) (g_at ck_X10_cuts 19 rfl) rfl ?_
    refine tz_istore5 (n := 37) (g_at ck_X10_cuts 20 rfl) rfl (by decide) g_hpI ?_
    refine tz_iconst (n := 38) (g_at ck_X10_cuts 21 rfl) rfl ?_
    refine tz_istore6 (n := 40) (g_at ck_X10_cuts 22 rfl) rfl (by decide) g_hpI ?_
    refine tz_iload6 (n := 42) (g_at ck_X10_cuts 23 rfl) rfl ?_
    refine tz_aload0 (n := 43) (g_at ck_X10_cuts 24 rfl) rfl (g_ne kd_1) ?_
    refine tz_getOv (n := 46) (a := ld) fk_X10_20 kd_1 hLn (g_at ck_X10_cuts 25 rfl) rfl ?_
    refine tz_getIw (n := 49) (kz := 0) fk_X10_139 hS.k0 (g_at ck_X10_cuts 26 rfl) rfl rfl ?_
    rw [hG22.n0]
    refine tz_icmp_ge (n := 52) (tgt := 121) (g_at ck_X10_cuts 27 rfl) rfl rfl ⟨by omega, by omega, by omega, by omega⟩ (fun h49 => ?_) (fun h49 => ?_)
    · skip
      refine tz_iload2 (n := 122) (g_at ck_X10_cuts 60 rfl) rfl ?_
      refine tz_if_ne (n := 125) (tgt := 129) (g_at ck_X10_cuts 61 rfl) rfl rfl ⟨hw.1, hw.2⟩ (fun h122 => ?_) (fun h122 => ?_)
      · skip
        refine tz_iload4 (n := 131) (g_at ck_X10_cuts 64 rfl) rfl ?_
        exact tz_iret (g_at ck_X10_cuts 65 rfl) rfl (rI_mk ⟨qR_62, hR4, qM_trL hF22t, sq_0 hz2 hz7, by rw [if_neg h122, if_neg (by omega)]⟩)
      · skip
        refine tz_iload3 (n := 126) (g_at ck_X10_cuts 62 rfl) rfl ?_
        refine tz_goto (tgt := 131) (g_at ck_X10_cuts 63 rfl) rfl ?_
        exact tz_iret (g_at ck_X10_cuts 65 rfl) rfl (rI_mk ⟨qR_62, hR4, qM_trL hF22t, sq_0 hz2 hz7, by rw [if_pos h122, if_neg (by omega)]⟩)
    · skip
      refine tz_iload5 (n := 54) (g_at ck_X10_cuts 28 rfl) rfl ?_
      refine tz_if_eq (n := 57) (tgt := 121) (g_at ck_X10_cuts 29 rfl) rfl rfl ⟨(by decide), (by decide)⟩ (fun h54 => ?_) (fun h54 => absurd h54 (by omega))
      refine tz_iload2 (n := 122) (g_at ck_X10_cuts 60 rfl) rfl ?_
      refine tz_if_ne (n := 125) (tgt := 129) (g_at ck_X10_cuts 61 rfl) rfl rfl ⟨hw.1, hw.2⟩ (fun h122 => ?_) (fun h122 => ?_)
      · skip
        refine tz_iload4 (n := 131) (g_at ck_X10_cuts 64 rfl) rfl ?_
        exact tz_iret (g_at ck_X10_cuts 65 rfl) rfl (rI_mk ⟨qR_62, hR4, qM_trL hF22t, sq_0 hz2 hz7, by rw [if_neg h122, if_neg (by omega)]⟩)
      · skip
        refine tz_iload3 (n := 126) (g_at ck_X10_cuts 62 rfl) rfl ?_
        refine tz_goto (tgt := 131) (g_at ck_X10_cuts 63 rfl) rfl ?_
        exact tz_iret (g_at ck_X10_cuts 65 rfl) rfl (rI_mk ⟨qR_62, hR4, qM_trL hF22t, sq_0 hz2 hz7, by rw [if_pos h122, if_neg (by omega)]⟩)
  · skip
    refine tz_iconst (n := 31) (g_at ck_X10_cuts 17 rfl) rfl ?_
    refine tz_goto (tgt := 35) (g_at ck_X10_cuts 18 rfl) rfl ?_
    refine tz_istore5 (n := 37) (g_at ck_X10_cuts 20 rfl) rfl (by decide) g_hpI ?_
    refine tz_iconst (n := 38) (g_at ck_X10_cuts 21 rfl) rfl ?_
    refine tz_istore6 (n := 40) (g_at ck_X10_cuts 22 rfl) rfl (by decide) g_hpI ?_
    refine g_for (fun i : Nat => ∀ m1 : Mm, (MR m1 ∧ Fr (trL ld) m m1) → gT l γ μX10_cuts 7 0 0 _ _ KK (wr ρ 62 0 ld) m1 40 [some (vR 1), some (vI p), some (vI w), some (vI (cfN Λ (ctB Λ hl tl s p) i).1), some (vI (cfN Λ (ctB Λ hl tl s p) i).2), some (vI 1), some (vI (i : Int)), none] []) (Λ 0 0).toNat ?_ (fun i hi ihi => ?_) 0 (Nat.zero_le _) _ ⟨hR4, hF22t⟩
    · intro m1 hinv
      obtain ⟨hR1, hF1⟩ := hinv
      have hG1 := hG.fr hF1
      refine tz_iload6 (n := 42) (g_at ck_X10_cuts 23 rfl) rfl ?_
      refine tz_aload0 (n := 43) (g_at ck_X10_cuts 24 rfl) rfl (g_ne kd_1) ?_
      refine tz_getOv (n := 46) (a := ld) fk_X10_20 kd_1 hLn (g_at ck_X10_cuts 25 rfl) rfl ?_
      refine tz_getIw (n := 49) (kz := 0) fk_X10_139 hS.k0 (g_at ck_X10_cuts 26 rfl) rfl rfl ?_
      rw [hG1.n0]
      refine tz_icmp_ge (n := 52) (tgt := 121) (g_at ck_X10_cuts 27 rfl) rfl rfl ⟨by omega, by omega, by omega, by omega⟩ (fun h49 => ?_) (fun h49 => absurd h49 (by omega))
      refine tz_iload2 (n := 122) (g_at ck_X10_cuts 60 rfl) rfl ?_
      refine tz_if_ne (n := 125) (tgt := 129) (g_at ck_X10_cuts 61 rfl) rfl rfl ⟨hw.1, hw.2⟩ (fun h122 => ?_) (fun h122 => ?_)
      · skip
        refine tz_iload4 (n := 131) (g_at ck_X10_cuts 64 rfl) rfl ?_
        exact tz_iret (g_at ck_X10_cuts 65 rfl) rfl (rI_mk ⟨qR_62, hR1, qM_trL hF1, sq_0 hz2 hz7, by rw [if_neg h122, if_pos (by omega)]⟩)
      · skip
        refine tz_iload3 (n := 126) (g_at ck_X10_cuts 62 rfl) rfl ?_
        refine tz_goto (tgt := 131) (g_at ck_X10_cuts 63 rfl) rfl ?_
        exact tz_iret (g_at ck_X10_cuts 65 rfl) rfl (rI_mk ⟨qR_62, hR1, qM_trL hF1, sq_0 hz2 hz7, by rw [if_pos h122, if_pos (by omega)]⟩)
    · intro m1 hinv
      obtain ⟨hR1, hF1⟩ := hinv
      have hG1 := hG.fr hF1
      have hc3 := hW.2.2.1 (i : Int) (by omega) (by omega)
      have hqi := cfN_rg hW (B := (ctB Λ hl tl s p)) i (by omega)
      refine tz_iload6 (n := 42) (g_at ck_X10_cuts 23 rfl) rfl ?_
      refine tz_aload0 (n := 43) (g_at ck_X10_cuts 24 rfl) rfl (g_ne kd_1) ?_
      refine tz_getOv (n := 46) (a := ld) fk_X10_20 kd_1 hLn (g_at ck_X10_cuts 25 rfl) rfl ?_
      refine tz_getIw (n := 49) (kz := 0) fk_X10_139 hS.k0 (g_at ck_X10_cuts 26 rfl) rfl rfl ?_
      rw [hG1.n0]
      refine tz_icmp_ge (n := 52) (tgt := 121) (g_at ck_X10_cuts 27 rfl) rfl rfl ⟨by omega, by omega, by omega, by omega⟩ (fun h49 => absurd h49 (by omega)) (fun h49 => ?_)
      refine tz_iload5 (n := 54) (g_at ck_X10_cuts 28 rfl) rfl ?_
      refine tz_if_eq (n := 57) (tgt := 121) (g_at ck_X10_cuts 29 rfl) rfl rfl ⟨(by decide), (by decide)⟩ (fun h54 => absurd h54 (by omega)) (fun h54 => ?_)
      refine tz_iconst (n := 58) (g_at ck_X10_cuts 30 rfl) rfl ?_
      refine tz_istore7 (n := 60) (g_at ck_X10_cuts 31 rfl) rfl (by decide) g_hpI ?_
      refine g_for (fun j : Nat => ∀ m2 : Mm, (MR m2 ∧ Fr (trL ld) m m2) → gT l γ μX10_cuts 7 0 0 _ _ KK (wr ρ 62 0 ld) m2 60 [some (vR 1), some (vI p), some (vI w), some (vI (cfR (ctB Λ hl tl s p) (i : Int) (cfN Λ (ctB Λ hl tl s p) i) j).1), some (vI (cfR (ctB Λ hl tl s p) (i : Int) (cfN Λ (ctB Λ hl tl s p) i) j).2), some (vI 1), some (vI (i : Int)), some (vI (j : Int))] []) (Λ 3 (i : Int)).toNat ?_ (fun j hj ihj => ?_) 0 (Nat.zero_le _) _ ⟨hR1, hF1⟩
      · intro m2 hinv
        obtain ⟨hR2, hF2⟩ := hinv
        have hG2 := hG.fr hF2
        refine tz_iload7 (n := 62) (g_at ck_X10_cuts 32 rfl) rfl ?_
        refine tz_aload0 (n := 63) (g_at ck_X10_cuts 33 rfl) rfl (g_ne kd_1) ?_
        refine tz_getOv (n := 66) (a := ld) fk_X10_20 kd_1 hLn (g_at ck_X10_cuts 34 rfl) rfl ?_
        refine tz_getAv (n := 69) (a := (ld + 3)) fk_X10_194 hS.k0 hS.r0_4 (g_at ck_X10_cuts 35 rfl) rfl ?_
        refine tz_iload6 (n := 71) (g_at ck_X10_cuts 36 rfl) rfl ?_
        refine tz_iald (n := 72) hS.k3 (by omega) (g_at ck_X10_cuts 37 rfl) rfl ?_
        rw [hG2.roads (i : Int) (by omega)]
        refine tz_icmp_ge (n := 75) (tgt := 115) (g_at ck_X10_cuts 38 rfl) rfl rfl ⟨by omega, by omega, by omega, by omega⟩ (fun h72 => ?_) (fun h72 => absurd h72 (by omega))
        refine tz_iinc6 (n := 118) (g_at ck_X10_cuts 58 rfl) rfl (by decide) g_hpI ?_
        refine tz_goto (tgt := 40) (g_at ck_X10_cuts 59 rfl) rfl ?_
        refine tz_drop7 ?_
        exact ihi _ ⟨hR2, hF2⟩
      · intro m2 hinv
        obtain ⟨hR2, hF2⟩ := hinv
        have hG2 := hG.fr hF2
        have hqj := cfR_rg (B := (ctB Λ hl tl s p)) (c := (i : Int)) hqi j
        refine tz_iload7 (n := 62) (g_at ck_X10_cuts 32 rfl) rfl ?_
        refine tz_aload0 (n := 63) (g_at ck_X10_cuts 33 rfl) rfl (g_ne kd_1) ?_
        refine tz_getOv (n := 66) (a := ld) fk_X10_20 kd_1 hLn (g_at ck_X10_cuts 34 rfl) rfl ?_
        refine tz_getAv (n := 69) (a := (ld + 3)) fk_X10_194 hS.k0 hS.r0_4 (g_at ck_X10_cuts 35 rfl) rfl ?_
        refine tz_iload6 (n := 71) (g_at ck_X10_cuts 36 rfl) rfl ?_
        refine tz_iald (n := 72) hS.k3 (by omega) (g_at ck_X10_cuts 37 rfl) rfl ?_
        rw [hG2.roads (i : Int) (by omega)]
        refine tz_icmp_ge (n := 75) (tgt := 115) (g_at ck_X10_cuts 38 rfl) rfl rfl ⟨by omega, by omega, by omega, by omega⟩ (fun h72 => absurd h72 (by omega)) (fun h72 => ?_)
        refine tz_aload0 (n := 76) (g_at ck_X10_cuts 39 rfl) rfl (g_ne kd_1) ?_
        refine tz_iload1 (n := 77) (g_at ck_X10_cuts 40 rfl) rfl ?_
        refine tz_iload6 (n := 79) (g_at ck_X10_cuts 41 rfl) rfl ?_
        refine tz_iload7 (n := 81) (g_at ck_X10_cuts 42 rfl) rfl ?_
        refine tz_cvI3 (n := 84) (μ' := μX10_isCut) (cb' := 0) (sb' := 0) ml_X10_331 mo_X10_isCut mv_X10_isCut np_X10_isCut kd_1 (g_at ck_X10_cuts 43 rfl) (sp_isCut hL hLn hS hR2 hW (hG.fr hF2) (hN.fr hld hF2) hσ hLt (by omega) (by omega) (by omega)) rfl rfl rfl ⟨by decide, by decide⟩ (Nat.le_of_ble_eq_true rfl) (by decide) (by decide) (fun x81 ρ9 m81 hq => ?_)
        obtain ⟨rfl, hR5, hF81, rfl⟩ := hq
        have hc01 := ctB_01 (Λ := Λ) (hl := hl) (tl := tl) (s := s) (p := p) (c := (i : Int)) (r := (j : Int))
        refine tz_if_eq (n := 87) (tgt := 109) (g_at ck_X10_cuts 44 rfl) rfl rfl (by omega) (fun h84 => ?_) (fun h84 => ?_)
        · skip
          refine tz_iinc7 (n := 112) (g_at ck_X10_cuts 56 rfl) rfl (by decide) g_hpI ?_
          refine tz_goto (tgt := 60) (g_at ck_X10_cuts 57 rfl) rfl ?_
          have e9 : cfR (ctB Λ hl tl s p) (i : Int) (cfN Λ (ctB Λ hl tl s p) i) (j + 1) = cfR (ctB Λ hl tl s p) (i : Int) (cfN Λ (ctB Λ hl tl s p) i) j := if_pos h84
          exact gT_eq (ihj _ ⟨hR5, hF2.tr hF81⟩) rfl (by rw [e9]; rfl)
        · skip
          refine tz_iload3 (n := 88) (g_at ck_X10_cuts 45 rfl) rfl ?_
          refine tz_if_ne (n := 91) (tgt := 102) (g_at ck_X10_cuts 46 rfl) rfl rfl (by omega) (fun h88 => ?_) (fun h88 => ?_)
          · skip
            refine tz_iload4 (n := 104) (g_at ck_X10_cuts 53 rfl) rfl ?_
            refine tz_istore4 (n := 106) (g_at ck_X10_cuts 54 rfl) rfl (by decide) g_hpI ?_
            refine tz_iinc3 (n := 109) (g_at ck_X10_cuts 55 rfl) rfl (by decide) g_hpI ?_
            refine tz_iinc7 (n := 112) (g_at ck_X10_cuts 56 rfl) rfl (by decide) g_hpI ?_
            refine tz_goto (tgt := 60) (g_at ck_X10_cuts 57 rfl) rfl ?_
            have e9 : cfR (ctB Λ hl tl s p) (i : Int) (cfN Λ (ctB Λ hl tl s p) i) (j + 1) = ((cfR (ctB Λ hl tl s p) (i : Int) (cfN Λ (ctB Λ hl tl s p) i) j).1 + 1, (cfR (ctB Λ hl tl s p) (i : Int) (cfN Λ (ctB Λ hl tl s p) i) j).2) := cfS_2 h84 h88
            exact gT_eq (ihj _ ⟨hR5, hF2.tr hF81⟩) rfl (by rw [e9]; rfl)
          · skip
            refine tz_bipush (n := 93) (g_at ck_X10_cuts 47 rfl) rfl rfl ?_
            refine tz_iload6 (n := 95) (g_at ck_X10_cuts 48 rfl) rfl ?_
            refine tz_imul (n := 96) (g_at ck_X10_cuts 49 rfl) rfl ?_
            refine tz_iload7 (n := 98) (g_at ck_X10_cuts 50 rfl) rfl ?_
            refine tz_iadd (n := 99) (g_at ck_X10_cuts 51 rfl) rfl ?_
            refine tz_goto (tgt := 104) (g_at ck_X10_cuts 52 rfl) rfl ?_
            refine tz_istore4 (n := 106) (g_at ck_X10_cuts 54 rfl) rfl (by decide) g_hpI ?_
            refine tz_iinc3 (n := 109) (g_at ck_X10_cuts 55 rfl) rfl (by decide) g_hpI ?_
            refine tz_iinc7 (n := 112) (g_at ck_X10_cuts 56 rfl) rfl (by decide) g_hpI ?_
            refine tz_goto (tgt := 60) (g_at ck_X10_cuts 57 rfl) rfl ?_
            have e9 : cfR (ctB Λ hl tl s p) (i : Int) (cfN Λ (ctB Λ hl tl s p) i) (j + 1) = ((cfR (ctB Λ hl tl s p) (i : Int) (cfN Λ (ctB Λ hl tl s p) i) j).1 + 1, 10 * (i : Int) + (j : Int)) := cfS_1 h84 h88
            exact gT_eq (ihj _ ⟨hR5, hF2.tr hF81⟩) rfl (by rw [e9]; rfl)
