/-! look, wind. -/
def adP (τ : Mm) (f : Int → Int) (n : Nat) : Int → Int := fd (fun p g => up g (p : Int) (bOr (g (p : Int)) (bShl 1 (τ 0 (1 + (p : Int)))))) f n
def lkT (Λ : Mm) (hl tl : List Int) (s : Int → Int) (c r : Int) : Mm := daysP Λ hl tl (wr (sig0 s) 0 (17 + c) r) 6
def lkR (Λ : Mm) (hl tl : List Int) (κ : Mm) (s : Int → Int) (c : Int) (f : Int → Int) (n : Nat) : Int → Int := fd (fun r g => if tnB Λ hl tl κ s c (r : Int) = 0 then g else adP (lkT Λ hl tl s c (r : Int)) g (Λ 0 1).toNat) f n
def lkN (Λ : Mm) (hl tl : List Int) (κ : Mm) (s : Int → Int) (n : Nat) : Int → Int := fd (fun c g => lkR Λ hl tl κ s (c : Int) g (Λ 3 (c : Int)).toNat) (fun _ => 0) n
theorem bcJ_rg (x : Int) : -2147483648 ≤ bcJ x ∧ bcJ x < 2147483648 := bAnd_rg _ _
theorem bzN_r32 {f : Int → Int} (h : ∀ c, -2147483648 ≤ f c ∧ f c < 2147483648) : ∀ n, -2147483648 ≤ (bzN f n).2 ∧ (bzN f n).2 < 2147483648
  | 0 => by show (-2147483648 : Int) ≤ 0 ∧ (0 : Int) < 2147483648; decide
  | n + 1 => by
    have h1 := bzN_r32 h n
    show -2147483648 ≤ (if f (n : Int) ≤ (bzN f n).2 then bzN f n else ((n : Int), f (n : Int))).2 ∧ (if f (n : Int) ≤ (bzN f n).2 then bzN f n else ((n : Int), f (n : Int))).2 < 2147483648
    split
    · exact h1
    · exact h n
theorem Fr.n82 {m m9 : Mm} {ld : Int} (h : Fr (82 :: trL ld) m m9) (hld : ld = 3 ∨ ld = 20) {a : Int} (ha : a < 63 ∨ 70 < a) (h1 : a ≠ 82) (h2 : a ≠ ld + 8) (h3 : a ≠ ld + 11) : m9 a = m a := h a fun h9 => by
  unfold trL at h9
  simp only [List.mem_cons, List.not_mem_nil, or_false] at h9
  omega
theorem trL_n82 {ld : Int} (h : ld = 3 ∨ ld = 20) : (82 : Int) ∉ trL ld := fun h9 => by
  have := trL_no h h9
  omega
theorem TripC.n82 {m m9 σ : Mm} (h : TripC m σ) (k : ∀ a, a ≠ 82 → m9 a = m a) : TripC m9 σ := h.sam fun a h1 h2 => k a (by omega)
theorem sp_addPl {l : Launch} {γ : Gh} {ρ m : Mm} {c r : Int} {ld : Int} {Λ : Mm} {hl tl : List Int} (hL : LY ρ) (hLn : ρ 1 3 = ld) (hS : isS ρ ld) (hR : MR m) (hW : WL Λ) (hG : LandC m ld Λ hl tl) {s : Int → Int} (hN : MomC m 39 s) (hσ : WS Λ 0 (sig0 s)) (hc : 0 ≤ c ∧ c < Λ 0 0) (hr : 0 ≤ r ∧ r < Λ 3 c) {f : Int → Int} (hf : ∀ p, 0 ≤ p → p < 8 → m 82 p = f p) : gE l γ μX10_addPlaces 6 0 0 (rV KK fun ρ9 m9 => qR ρ ρ9 ∧ MR m9 ∧ Fr (82 :: trL ld) m m9 ∧ ∀ p, 0 ≤ p → p < 8 → m9 82 p = (adP (lkT Λ hl tl s c r) f (Λ 0 1).toNat) p) xN KK ρ m [vR 1, vI c, vI r] := by
  refine gE.ofw cl_X10.2 ?_ rfl rfl (Nat.le_of_ble_eq_true rfl)
  show gT l γ μX10_addPlaces 6 0 0 _ _ KK ρ m 0 [some (vR 1), some (vI c), some (vI r), none] []
  have hn1 := hW.1
  have hn8 := hW.2.1
  have hld := hG.ld9
  have hc3 := hW.2.2.1 c hc.1 hc.2
  refine tz_aload0 (n := 1) (g_at ck_X10_addPlaces 0 rfl) rfl (g_ne kd_1) ?_
  refine tz_cvR0 (n := 4) (μ' := μX10_setOut) (cb' := 0) (sb' := 0) ml_X10_251 mo_X10_setOut mv_X10_setOut np_X10_setOut kd_1 (g_at ck_X10_addPlaces 1 rfl) (sp_setOut hL hLn hS hR hW hG hN) rfl rfl rfl ⟨by decide, by decide⟩ (Nat.le_of_ble_eq_true rfl) (by decide) (by decide) (fun x1 ρ9 m1 hq => ?_)
  obtain ⟨rfl, rfl, hR1, hT1, hF1⟩ := hq
  have hQ1 := qM_trL (hF1.sub (trL_be (ld := ld)))
  have hG1 := hG.fr (hF1.sub trL_be)
  have hL := LY_wr (r := 62) (k := 0) (x := ld) hL (by decide)
  have hLt : wr ρ 62 0 ld 62 0 = ld := wr_same
  have hLn : wr ρ 62 0 ld 1 3 = ld := (by rw [wr_ne (by decide)]; exact hLn)
  have hS : isS (wr ρ 62 0 ld) ld := isS_of hL hld
  have hqr1 := qR_62 (ρ := ρ) (x := ld)
  refine tz_getOv (n := 7) (a := 63) fk_X10_258 kd_62 (ly_62_1 hL) (g_at ck_X10_addPlaces 2 rfl) rfl ?_
  refine tz_getAv (n := 10) (a := 66) fk_X10_197 (isM_63 hL).k0 (isM_63 hL).r0_3 (g_at ck_X10_addPlaces 3 rfl) rfl ?_
  refine tz_iload1 (n := 11) (g_at ck_X10_addPlaces 4 rfl) rfl ?_
  refine tz_iload2 (n := 12) (g_at ck_X10_addPlaces 5 rfl) rfl ?_
  refine tz_iastr (n := 13) (isM_63 hL).k3 (by omega) (g_at ck_X10_addPlaces 6 rfl) rfl hR1 (by omega) (fun hR2 => ?_)
  refine tz_aload0 (n := 14) (g_at ck_X10_addPlaces 7 rfl) rfl (g_ne kd_1) ?_
  refine tz_getOv (n := 17) (a := 62) fk_X10_74 kd_1 (ly_1_14 hL) (g_at ck_X10_addPlaces 8 rfl) rfl ?_
  refine tz_bipush (n := 19) (g_at ck_X10_addPlaces 9 rfl) rfl rfl ?_
  refine tz_cvV1 (n := 22) (μ' := μX8_go) (cb' := 0) (sb' := 0) ml_X10_255 mo_X8_go mv_X8_go np_X8_go kd_62 (g_at ck_X10_addPlaces 10 rfl) (sp_go hL hLt hS hR2 hW (hG1.fr (Fr.rf.wr (trL_66 66 List.mem_cons_self))) (hT1.setA (by omega)) (WS_arm hW hσ hc hr) (by decide) (by decide)) rfl rfl rfl ⟨by decide, by decide⟩ (Nat.le_of_ble_eq_true rfl) (by decide) (by decide) (fun ρ9 m19 hq => ?_)
  obtain ⟨rfl, hR3, hT19, hF19⟩ := hq
  have hF19t : Fr (trL ld) m m19 := ((hF1.sub trL_be).wr (trL_66 66 List.mem_cons_self)).tr hF19
  have hσ19 := daysP_WS (hl := hl) (tl := tl) hW (WS_arm hW hσ hc hr) (Int.le_refl 0) 6
  have hT19 : TripC m19 (lkT Λ hl tl s c r) := hT19
  have hf19 : ∀ p, 0 ≤ p → p < 8 → m19 82 p = f p := fun p h1 h2 => by rw [hF19t 82 (trL_n82 hld)]; exact hf p h1 h2
  refine tz_iconst (n := 23) (g_at ck_X10_addPlaces 11 rfl) rfl ?_
  refine tz_istore3 (n := 24) (g_at ck_X10_addPlaces 12 rfl) rfl (by decide) g_hpI ?_
  refine g_for (fun i : Nat => ∀ m2 : Mm, (MR m2 ∧ TripC m2 (lkT Λ hl tl s c r) ∧ Fr (82 :: trL ld) m m2 ∧ ∀ p, 0 ≤ p → p < 8 → m2 82 p = (adP (lkT Λ hl tl s c r) f i) p) → gT l γ μX10_addPlaces 6 0 0 _ _ KK (wr ρ 62 0 ld) m2 24 [some (vR 1), some (vI c), some (vI r), some (vI (i : Int))] []) (Λ 0 1).toNat ?_ (fun i hi ihi => ?_) 0 (Nat.zero_le _) _ ⟨hR3, hT19, hF19t.cons, hf19⟩
  · intro m2 hinv
    obtain ⟨hRi, hTi, hFi, hKi⟩ := hinv
    have hGi := hG.q (qM_trc (by decide) hFi)
    refine tz_iload3 (n := 25) (g_at ck_X10_addPlaces 13 rfl) rfl ?_
    refine tz_aload0 (n := 26) (g_at ck_X10_addPlaces 14 rfl) rfl (g_ne kd_1) ?_
    refine tz_getOv (n := 29) (a := ld) fk_X10_20 kd_1 hLn (g_at ck_X10_addPlaces 15 rfl) rfl ?_
    refine tz_getIw (n := 32) (kz := 1) fk_X10_142 hS.k0 (g_at ck_X10_addPlaces 16 rfl) rfl rfl ?_
    rw [hGi.n1]
    refine tz_icmp_ge (n := 35) (tgt := 64) (g_at ck_X10_addPlaces 17 rfl) rfl rfl ⟨by omega, by omega, by omega, by omega⟩ (fun h32 => ?_) (fun h32 => absurd h32 (by omega))
    exact tz_vret (g_at ck_X10_addPlaces 35 rfl) rfl (rV_mk ⟨hqr1, hRi, hFi, hKi⟩)
  · intro m2 hinv
    obtain ⟨hRi, hTi, hFi, hKi⟩ := hinv
    have hGi := hG.q (qM_trc (by decide) hFi)
    refine tz_iload3 (n := 25) (g_at ck_X10_addPlaces 13 rfl) rfl ?_
    refine tz_aload0 (n := 26) (g_at ck_X10_addPlaces 14 rfl) rfl (g_ne kd_1) ?_
    refine tz_getOv (n := 29) (a := ld) fk_X10_20 kd_1 hLn (g_at ck_X10_addPlaces 15 rfl) rfl ?_
    refine tz_getIw (n := 32) (kz := 1) fk_X10_142 hS.k0 (g_at ck_X10_addPlaces 16 rfl) rfl rfl ?_
    rw [hGi.n1]
    refine tz_icmp_ge (n := 35) (tgt := 64) (g_at ck_X10_addPlaces 17 rfl) rfl rfl ⟨by omega, by omega, by omega, by omega⟩ (fun h32 => absurd h32 (by omega)) (fun h32 => ?_)
    refine tz_aload0 (n := 36) (g_at ck_X10_addPlaces 18 rfl) rfl (g_ne kd_1) ?_
    refine tz_getAv (n := 39) (a := 82) fk_X10_95 kd_1 (ly_1_18 hL) (g_at ck_X10_addPlaces 19 rfl) rfl ?_
    refine tz_iload3 (n := 40) (g_at ck_X10_addPlaces 20 rfl) rfl ?_
    refine tz_dup2 (n := 41) (g_at ck_X10_addPlaces 21 rfl) rfl ?_
    refine tz_iald (n := 42) kd_82 (by omega) (g_at ck_X10_addPlaces 22 rfl) rfl ?_
    rw [hKi _ (by omega) (by omega)]
    refine tz_iconst (n := 43) (g_at ck_X10_addPlaces 23 rfl) rfl ?_
    refine tz_aload0 (n := 44) (g_at ck_X10_addPlaces 24 rfl) rfl (g_ne kd_1) ?_
    refine tz_getOv (n := 47) (a := 62) fk_X10_74 kd_1 (ly_1_14 hL) (g_at ck_X10_addPlaces 25 rfl) rfl ?_
    refine tz_getOv (n := 50) (a := 63) fk_X10_258 kd_62 (ly_62_1 hL) (g_at ck_X10_addPlaces 26 rfl) rfl ?_
    refine tz_getAv (n := 53) (a := 64) fk_X10_224 (isM_63 hL).k0 (isM_63 hL).r0_1 (g_at ck_X10_addPlaces 27 rfl) rfl ?_
    refine tz_iload3 (n := 54) (g_at ck_X10_addPlaces 28 rfl) rfl ?_
    refine tz_iald (n := 55) (isM_63 hL).k1 (by omega) (g_at ck_X10_addPlaces 29 rfl) rfl ?_
    rw [hTi.whr (i : Int) (by omega)]
    refine tz_ishl (n := 56) (g_at ck_X10_addPlaces 30 rfl) rfl ?_
    refine tz_ior (n := 57) (g_at ck_X10_addPlaces 31 rfl) rfl ?_
    refine tz_iastr (n := 58) kd_82 (by omega) (g_at ck_X10_addPlaces 32 rfl) rfl hRi ⟨(bOr_rg _ _).1, (bOr_rg _ _).2⟩ (fun hR4 => ?_)
    refine tz_iinc3 (n := 61) (g_at ck_X10_addPlaces 33 rfl) rfl (by decide) g_hpI ?_
    refine tz_goto (tgt := 24) (g_at ck_X10_addPlaces 34 rfl) rfl ?_
    exact ihi _ ⟨hR4, hTi.n82 (fun a ha => wr_ne ha), hFi.wrc, up_row hKi rfl⟩
theorem sp_look {l : Launch} {γ : Gh} {ρ m : Mm} {w : Int} (hw : -2147483648 ≤ w ∧ w < 2147483648) {ld : Int} {Λ : Mm} {hl tl : List Int} (hL : LY ρ) (hLn : ρ 1 3 = ld) (hS : isS ρ ld) (hR : MR m) (hW : WL Λ) (hG : LandC m ld Λ hl tl) {s : Int → Int} (hN : MomC m 39 s) (hσ : WS Λ 0 (sig0 s)) {κ : Mm} (hK : SeenC m 46 κ) (hκ : WK Λ κ) : gE l γ μX10_look 7 1 6 (rI KK fun x ρ9 m9 => qR ρ ρ9 ∧ MR m9 ∧ qM ld m m9 ∧ cdW w 1 = 0 ∧ (if w = 0 then (bzN (fun p => bcJ ((lkN Λ hl tl κ s (Λ 0 0).toNat) p)) (Λ 0 1).toNat).1 else (bzN (fun p => bcJ ((lkN Λ hl tl κ s (Λ 0 0).toNat) p)) (Λ 0 1).toNat).2) = x) (xC ρ m (cdW w 1)) KK ρ m [vR 1, vI w] := by
  refine gE.ofw cl_X10.2 ?_ rfl rfl (Nat.le_of_ble_eq_true rfl)
  show gT l γ μX10_look 7 1 6 _ _ KK ρ m 0 [some (vR 1), some (vI w), none, none, none, none] []
  have hn1 := hW.1
  have hn8 := hW.2.1
  have hld := hG.ld9
  refine tz_iload1 (n := 1) (g_at ck_X10_look 0 rfl) rfl ?_
  refine tz_iconst (n := 2) (g_at ck_X10_look 1 rfl) rfl ?_
  refine tz_csxV2 (n := 5) (μ' := μX10_needWhat) (cb' := 0) (sb' := 0) ml_X10_135 mo_X10_needWhat ms_X10_needWhat np_X10_needWhat (g_at ck_X10_look 2 rfl) (sp_needW ⟨hw.1, hw.2⟩ ⟨(by decide), (by decide)⟩ hR) rfl rfl ⟨by decide, by decide⟩ (Nat.le_of_ble_eq_true rfl) (by decide) (by decide) (g_in (g_m4 (List.mem_of_getElem? (i := 228) rfl)) rfl) (fun E9 ρ9 m9 h9 => g_gX_out rfl h9.1 h9.2.1 h9.2.2) (fun ρ9 m2 hq => ?_)
  obtain ⟨rfl, hR1, rfl, hz2⟩ := hq
  have hw2 := cdW_0 hz2
  refine tz_aload0 (n := 6) (g_at ck_X10_look 3 rfl) rfl (g_ne kd_1) ?_
  refine tz_getAv (n := 9) (a := 82) fk_X10_95 kd_1 (ly_1_18 (by first | exact hL1 | exact hL)) (g_at ck_X10_look 4 rfl) rfl ?_
  refine tz_iconst (n := 10) (g_at ck_X10_look 5 rfl) rfl ?_
  refine tz_csV2 (n := 13) (μ' := μJ7_fill_53178) (cb' := 0) (sb' := 0) ml_X10_302 mo_J7_fill_53178 ms_J7_fill_53178 np_J7_fill_53178 (g_at ck_X10_look 6 rfl) (sp_fill kd_82 (by decide) hR1 ⟨(by decide), (by decide)⟩) rfl rfl ⟨by decide, by decide⟩ (Nat.le_of_ble_eq_true rfl) (by decide) (by decide) (fun ρ9 m10 hq => ?_)
  obtain ⟨rfl, hR2, rfl⟩ := hq
  refine tz_iconst (n := 14) (g_at ck_X10_look 7 rfl) rfl ?_
  refine tz_istore2 (n := 15) (g_at ck_X10_look 8 rfl) rfl (by decide) g_hpI ?_
  refine g_for (fun i : Nat => ∀ ρ1 m1 : Mm, (MR m1 ∧ qR ρ ρ1 ∧ Fr (82 :: trL ld) m m1 ∧ ∀ p, 0 ≤ p → p < 8 → m1 82 p = (lkN Λ hl tl κ s i) p) → gT l γ μX10_look 7 0 0 _ _ KK ρ1 m1 15 [some (vR 1), some (vI w), some (vI (i : Int)), none, none, none] []) (Λ 0 0).toNat ?_ (fun i hi ihi => ?_) 0 (Nat.zero_le _) _ _ ⟨hR2, qR.rf, Fr.rf.fil List.mem_cons_self, fun p h1 h2 => fil_at (by omega)⟩
  · intro ρ1 m1 hinv
    obtain ⟨hR1, hq1, hF1, hKi⟩ := hinv
    have hL1 := hL.q hq1
    have hLn1 := hq1.ln hLn
    have hS1 := isS_q hL hq1 hld
    have hG1 := hG.q (qM_trc (by decide) hF1)
    refine tz_iload2 (n := 16) (g_at ck_X10_look 9 rfl) rfl ?_
    refine tz_aload0 (n := 17) (g_at ck_X10_look 10 rfl) rfl (g_ne kd_1) ?_
    refine tz_getOv (n := 20) (a := ld) fk_X10_20 kd_1 (by first | exact hLn2 | exact hLn1 | exact hLn) (g_at ck_X10_look 11 rfl) rfl ?_
    refine tz_getIw (n := 23) (kz := 0) fk_X10_139 (isS_of (by first | exact hL2 | exact hL1 | exact hL) hld).k0 (g_at ck_X10_look 12 rfl) rfl rfl ?_
    rw [hG1.n0]
    refine tz_icmp_ge (n := 26) (tgt := 68) (g_at ck_X10_look 13 rfl) rfl rfl ⟨by omega, by omega, by omega, by omega⟩ (fun h23 => ?_) (fun h23 => absurd h23 (by omega))
    refine tz_iconst (n := 69) (g_at ck_X10_look 36 rfl) rfl ?_
    refine tz_istore2 (n := 70) (g_at ck_X10_look 37 rfl) rfl (by decide) g_hpI ?_
    refine tz_iconst (n := 71) (g_at ck_X10_look 38 rfl) rfl ?_
    refine tz_istore3 (n := 72) (g_at ck_X10_look 39 rfl) rfl (by decide) g_hpI ?_
    refine tz_iconst (n := 73) (g_at ck_X10_look 40 rfl) rfl ?_
    refine tz_istore4 (n := 75) (g_at ck_X10_look 41 rfl) rfl (by decide) g_hpI ?_
    refine g_for (fun i : Nat => gT l γ μX10_look 7 0 0 _ _ KK ρ1 m1 75 [some (vR 1), some (vI w), some (vI (bzN (fun p => bcJ ((lkN Λ hl tl κ s (Λ 0 0).toNat) p)) i).1), some (vI (bzN (fun p => bcJ ((lkN Λ hl tl κ s (Λ 0 0).toNat) p)) i).2), some (vI (i : Int)), none] []) (Λ 0 1).toNat ?_ (fun i hi ihi => ?_) 0 (Nat.zero_le _)
    · skip
      refine tz_iload4 (n := 77) (g_at ck_X10_look 42 rfl) rfl ?_
      refine tz_aload0 (n := 78) (g_at ck_X10_look 43 rfl) rfl (g_ne kd_1) ?_
      refine tz_getOv (n := 81) (a := ld) fk_X10_20 kd_1 (by first | exact hLn2 | exact hLn1 | exact hLn) (g_at ck_X10_look 44 rfl) rfl ?_
      refine tz_getIw (n := 84) (kz := 1) fk_X10_142 (isS_of (by first | exact hL2 | exact hL1 | exact hL) hld).k0 (g_at ck_X10_look 45 rfl) rfl rfl ?_
      rw [hG1.n1]
      refine tz_icmp_ge (n := 87) (tgt := 117) (g_at ck_X10_look 46 rfl) rfl rfl ⟨by omega, by omega, by omega, by omega⟩ (fun h84 => ?_) (fun h84 => absurd h84 (by omega))
      refine tz_iload1 (n := 118) (g_at ck_X10_look 62 rfl) rfl ?_
      refine tz_if_ne (n := 121) (tgt := 125) (g_at ck_X10_look 63 rfl) rfl rfl ⟨hw.1, hw.2⟩ (fun h118 => ?_) (fun h118 => ?_)
      · skip
        refine tz_iload3 (n := 126) (g_at ck_X10_look 66 rfl) rfl ?_
        exact tz_iret (g_at ck_X10_look 67 rfl) rfl (rI_mk ⟨hq1, hR1, qM_trc (by decide) hF1, hz2, by simp (disch := omega) only [if_pos, if_neg]⟩)
      · skip
        refine tz_iload2 (n := 122) (g_at ck_X10_look 64 rfl) rfl ?_
        refine tz_goto (tgt := 126) (g_at ck_X10_look 65 rfl) rfl ?_
        exact tz_iret (g_at ck_X10_look 67 rfl) rfl (rI_mk ⟨hq1, hR1, qM_trc (by decide) hF1, hz2, by simp (disch := omega) only [if_pos, if_neg]⟩)
    · skip
      have hbz := bzN_r32 (f := fun p => bcJ ((lkN Λ hl tl κ s (Λ 0 0).toNat) p)) (fun c => bcJ_rg _) i
      refine tz_iload4 (n := 77) (g_at ck_X10_look 42 rfl) rfl ?_
      refine tz_aload0 (n := 78) (g_at ck_X10_look 43 rfl) rfl (g_ne kd_1) ?_
      refine tz_getOv (n := 81) (a := ld) fk_X10_20 kd_1 (by first | exact hLn2 | exact hLn1 | exact hLn) (g_at ck_X10_look 44 rfl) rfl ?_
      refine tz_getIw (n := 84) (kz := 1) fk_X10_142 (isS_of (by first | exact hL2 | exact hL1 | exact hL) hld).k0 (g_at ck_X10_look 45 rfl) rfl rfl ?_
      rw [hG1.n1]
      refine tz_icmp_ge (n := 87) (tgt := 117) (g_at ck_X10_look 46 rfl) rfl rfl ⟨by omega, by omega, by omega, by omega⟩ (fun h84 => absurd h84 (by omega)) (fun h84 => ?_)
      refine tz_aload0 (n := 88) (g_at ck_X10_look 47 rfl) rfl (g_ne kd_1) ?_
      refine tz_getAv (n := 91) (a := 82) fk_X10_95 kd_1 (ly_1_18 (by first | exact hL1 | exact hL)) (g_at ck_X10_look 48 rfl) rfl ?_
      refine tz_iload4 (n := 93) (g_at ck_X10_look 49 rfl) rfl ?_
      refine tz_iald (n := 94) kd_82 (by omega) (g_at ck_X10_look 50 rfl) rfl ?_
      rw [hKi _ (by omega) (by omega)]
      refine tz_csI1 (n := 97) (μ' := μJ6_bitCount_0f7a4) (cb' := 0) (sb' := 0) ml_X10_179 mo_J6_bitCount_0f7a4 ms_J6_bitCount_0f7a4 np_J6_bitCount_0f7a4 (g_at ck_X10_look 51 rfl) (sp_bitCount hR1) rfl rfl ⟨by decide, by decide⟩ (Nat.le_of_ble_eq_true rfl) (by decide) (by decide) (fun x94 ρ9 m94 hq => ?_)
      obtain ⟨rfl, hR3, rfl, rfl⟩ := hq
      refine tz_istore5 (n := 99) (g_at ck_X10_look 52 rfl) rfl (by decide) g_hpI ?_
      refine tz_iload5 (n := 101) (g_at ck_X10_look 53 rfl) rfl ?_
      refine tz_iload3 (n := 102) (g_at ck_X10_look 54 rfl) rfl ?_
      refine tz_icmp_le (n := 105) (tgt := 111) (g_at ck_X10_look 55 rfl) rfl rfl ⟨(bcJ_rg _).1, (bcJ_rg _).2, hbz.1, hbz.2⟩ (fun h102 => ?_) (fun h102 => ?_)
      · skip
        refine tz_iinc4 (n := 114) (g_at ck_X10_look 60 rfl) rfl (by decide) g_hpI ?_
        refine tz_goto (tgt := 75) (g_at ck_X10_look 61 rfl) rfl ?_
        refine tz_drop5 ?_
        have e9 : bzN (fun p => bcJ ((lkN Λ hl tl κ s (Λ 0 0).toNat) p)) (i + 1) = (bzN (fun p => bcJ ((lkN Λ hl tl κ s (Λ 0 0).toNat) p)) i) := if_pos h102
        exact gT_eq ihi rfl (by rw [e9]; rfl)
      · skip
        refine tz_iload5 (n := 107) (g_at ck_X10_look 56 rfl) rfl ?_
        refine tz_istore3 (n := 108) (g_at ck_X10_look 57 rfl) rfl (by decide) g_hpI ?_
        refine tz_iload4 (n := 110) (g_at ck_X10_look 58 rfl) rfl ?_
        refine tz_istore2 (n := 111) (g_at ck_X10_look 59 rfl) rfl (by decide) g_hpI ?_
        refine tz_iinc4 (n := 114) (g_at ck_X10_look 60 rfl) rfl (by decide) g_hpI ?_
        refine tz_goto (tgt := 75) (g_at ck_X10_look 61 rfl) rfl ?_
        refine tz_drop5 ?_
        have e9 : bzN (fun p => bcJ ((lkN Λ hl tl κ s (Λ 0 0).toNat) p)) (i + 1) = ((i : Int), bcJ ((lkN Λ hl tl κ s (Λ 0 0).toNat) (i : Int))) := if_neg h102
        exact gT_eq ihi rfl (by rw [e9]; rfl)
  · intro ρ1 m1 hinv
    obtain ⟨hR1, hq1, hF1, hKi⟩ := hinv
    have hL1 := hL.q hq1
    have hLn1 := hq1.ln hLn
    have hS1 := isS_q hL hq1 hld
    have hG1 := hG.q (qM_trc (by decide) hF1)
    have hc3 := hW.2.2.1 (i : Int) (by omega) (by omega)
    refine tz_iload2 (n := 16) (g_at ck_X10_look 9 rfl) rfl ?_
    refine tz_aload0 (n := 17) (g_at ck_X10_look 10 rfl) rfl (g_ne kd_1) ?_
    refine tz_getOv (n := 20) (a := ld) fk_X10_20 kd_1 (by first | exact hLn2 | exact hLn1 | exact hLn) (g_at ck_X10_look 11 rfl) rfl ?_
    refine tz_getIw (n := 23) (kz := 0) fk_X10_139 (isS_of (by first | exact hL2 | exact hL1 | exact hL) hld).k0 (g_at ck_X10_look 12 rfl) rfl rfl ?_
    rw [hG1.n0]
    refine tz_icmp_ge (n := 26) (tgt := 68) (g_at ck_X10_look 13 rfl) rfl rfl ⟨by omega, by omega, by omega, by omega⟩ (fun h23 => absurd h23 (by omega)) (fun h23 => ?_)
    refine tz_iconst (n := 27) (g_at ck_X10_look 14 rfl) rfl ?_
    refine tz_istore3 (n := 28) (g_at ck_X10_look 15 rfl) rfl (by decide) g_hpI ?_
    refine g_for (fun j : Nat => ∀ ρ2 m2 : Mm, (MR m2 ∧ qR ρ ρ2 ∧ Fr (82 :: trL ld) m m2 ∧ ∀ p, 0 ≤ p → p < 8 → m2 82 p = (lkR Λ hl tl κ s (i : Int) (lkN Λ hl tl κ s i) j) p) → gT l γ μX10_look 7 0 0 _ _ KK ρ2 m2 28 [some (vR 1), some (vI w), some (vI (i : Int)), some (vI (j : Int)), none, none] []) (Λ 3 (i : Int)).toNat ?_ (fun j hj ihj => ?_) 0 (Nat.zero_le _) _ _ ⟨hR1, hq1, hF1, hKi⟩
    · intro ρ2 m2 hinv
      obtain ⟨hR2, hq2, hF2, hKj⟩ := hinv
      have hL2 := hL.q hq2
      have hLn2 := hq2.ln hLn
      have hS2 := isS_q hL hq2 hld
      have hG2 := hG.q (qM_trc (by decide) hF2)
      have hN2 := hN.q hld (qM_trc (by decide) hF2)
      have hK2 := hK.q hld (qM_trc (by decide) hF2)
      refine tz_iload3 (n := 29) (g_at ck_X10_look 16 rfl) rfl ?_
      refine tz_aload0 (n := 30) (g_at ck_X10_look 17 rfl) rfl (g_ne kd_1) ?_
      refine tz_getOv (n := 33) (a := ld) fk_X10_20 kd_1 (by first | exact hLn2 | exact hLn1 | exact hLn) (g_at ck_X10_look 18 rfl) rfl ?_
      refine tz_getAv (n := 36) (a := (ld + 3)) fk_X10_194 (isS_of (by first | exact hL2 | exact hL1 | exact hL) hld).k0 (isS_of (by first | exact hL2 | exact hL1 | exact hL) hld).r0_4 (g_at ck_X10_look 19 rfl) rfl ?_
      refine tz_iload2 (n := 37) (g_at ck_X10_look 20 rfl) rfl ?_
      refine tz_iald (n := 38) (isS_of (by first | exact hL2 | exact hL1 | exact hL) hld).k3 (by omega) (g_at ck_X10_look 21 rfl) rfl ?_
      rw [hG2.roads (i : Int) (by omega)]
      refine tz_icmp_ge (n := 41) (tgt := 62) (g_at ck_X10_look 22 rfl) rfl rfl ⟨by omega, by omega, by omega, by omega⟩ (fun h38 => ?_) (fun h38 => absurd h38 (by omega))
      refine tz_iinc2 (n := 65) (g_at ck_X10_look 34 rfl) rfl (by decide) g_hpI ?_
      refine tz_goto (tgt := 15) (g_at ck_X10_look 35 rfl) rfl ?_
      refine tz_drop3 ?_
      exact ihi _ _ ⟨hR2, hq2, hF2, hKj⟩
    · intro ρ2 m2 hinv
      obtain ⟨hR2, hq2, hF2, hKj⟩ := hinv
      have hL2 := hL.q hq2
      have hLn2 := hq2.ln hLn
      have hS2 := isS_q hL hq2 hld
      have hG2 := hG.q (qM_trc (by decide) hF2)
      have hN2 := hN.q hld (qM_trc (by decide) hF2)
      have hK2 := hK.q hld (qM_trc (by decide) hF2)
      refine tz_iload3 (n := 29) (g_at ck_X10_look 16 rfl) rfl ?_
      refine tz_aload0 (n := 30) (g_at ck_X10_look 17 rfl) rfl (g_ne kd_1) ?_
      refine tz_getOv (n := 33) (a := ld) fk_X10_20 kd_1 (by first | exact hLn2 | exact hLn1 | exact hLn) (g_at ck_X10_look 18 rfl) rfl ?_
      refine tz_getAv (n := 36) (a := (ld + 3)) fk_X10_194 (isS_of (by first | exact hL2 | exact hL1 | exact hL) hld).k0 (isS_of (by first | exact hL2 | exact hL1 | exact hL) hld).r0_4 (g_at ck_X10_look 19 rfl) rfl ?_
      refine tz_iload2 (n := 37) (g_at ck_X10_look 20 rfl) rfl ?_
      refine tz_iald (n := 38) (isS_of (by first | exact hL2 | exact hL1 | exact hL) hld).k3 (by omega) (g_at ck_X10_look 21 rfl) rfl ?_
      rw [hG2.roads (i : Int) (by omega)]
      refine tz_icmp_ge (n := 41) (tgt := 62) (g_at ck_X10_look 22 rfl) rfl rfl ⟨by omega, by omega, by omega, by omega⟩ (fun h38 => absurd h38 (by omega)) (fun h38 => ?_)
      refine tz_aload0 (n := 42) (g_at ck_X10_look 23 rfl) rfl (g_ne kd_1) ?_
      refine tz_iload2 (n := 43) (g_at ck_X10_look 24 rfl) rfl ?_
      refine tz_iload3 (n := 44) (g_at ck_X10_look 25 rfl) rfl ?_
      refine tz_cvI2 (n := 47) (μ' := μX10_couldBeTurned) (cb' := 0) (sb' := 0) ml_X10_342 mo_X10_couldBeTurned mv_X10_couldBeTurned np_X10_couldBeTurned kd_1 (g_at ck_X10_look 26 rfl) (sp_couldBe hL2 hLn2 hS2 hR2 hW hG2 hN2 hσ hK2 hκ (by omega) (by omega)) rfl rfl rfl ⟨by decide, by decide⟩ (Nat.le_of_ble_eq_true rfl) (by decide) (by decide) (fun x44 ρ9 m44 hq => ?_)
      obtain ⟨hq44, hR4, hF44, rfl⟩ := hq
      have ht01 := tnB_01 (Λ := Λ) (hl := hl) (tl := tl) (κ := κ) (s := s) (c := (i : Int)) (r := (j : Int))
      have hqq := hq2.tr hq44
      have hk44 : ∀ p, 0 ≤ p → p < 8 → m44 82 p = (lkR Λ hl tl κ s (i : Int) (lkN Λ hl tl κ s i) j) p := fun p h1 h2 => by rw [hF44 82 (trL_n82 hld)]; exact hKj p h1 h2
      refine tz_if_eq (n := 50) (tgt := 56) (g_at ck_X10_look 27 rfl) rfl rfl (by omega) (fun h47 => ?_) (fun h47 => ?_)
      · skip
        refine tz_iinc3 (n := 59) (g_at ck_X10_look 32 rfl) rfl (by decide) g_hpI ?_
        refine tz_goto (tgt := 28) (g_at ck_X10_look 33 rfl) rfl ?_
        have e9 : lkR Λ hl tl κ s (i : Int) (lkN Λ hl tl κ s i) (j + 1) = (lkR Λ hl tl κ s (i : Int) (lkN Λ hl tl κ s i) j) := if_pos h47
        exact ihj _ _ ⟨hR4, hqq, hF2.tr hF44.cons, by rw [e9]; exact hk44⟩
      · skip
        refine tz_aload0 (n := 51) (g_at ck_X10_look 28 rfl) rfl (g_ne kd_1) ?_
        refine tz_iload2 (n := 52) (g_at ck_X10_look 29 rfl) rfl ?_
        refine tz_iload3 (n := 53) (g_at ck_X10_look 30 rfl) rfl ?_
        refine tz_cvV2 (n := 56) (μ' := μX10_addPlaces) (cb' := 0) (sb' := 0) ml_X10_345 mo_X10_addPlaces mv_X10_addPlaces np_X10_addPlaces kd_1 (g_at ck_X10_look 31 rfl) (sp_addPl (hL.q hqq) (hqq.ln hLn) (isS_q hL hqq hld) hR4 hW (hG2.fr hF44) (hN2.fr hld hF44) hσ (by omega) (by omega) hk44) rfl rfl rfl ⟨by decide, by decide⟩ (Nat.le_of_ble_eq_true rfl) (by decide) (by decide) (fun ρ9 m53 hq => ?_)
        obtain ⟨hq53, hR5, hF53, hK53⟩ := hq
        refine tz_iinc3 (n := 59) (g_at ck_X10_look 32 rfl) rfl (by decide) g_hpI ?_
        refine tz_goto (tgt := 28) (g_at ck_X10_look 33 rfl) rfl ?_
        have e9 : lkR Λ hl tl κ s (i : Int) (lkN Λ hl tl κ s i) (j + 1) = adP (lkT Λ hl tl s (i : Int) (j : Int)) (lkR Λ hl tl κ s (i : Int) (lkN Λ hl tl κ s i) j) (Λ 0 1).toNat := if_neg h47
        exact ihj _ _ ⟨hR5, hqq.tr hq53, (hF2.tr hF44.cons).tr hF53, by rw [e9]; exact hK53⟩
def wdC (y t : Int) (n : Nat) : Int := fd (fun k v => v * (if bAnd (bShr y (k : Int)) 1 = 1 then t else 10 - t)) 1 n
def wdD (Λ : Mm) (hl tl : List Int) (y : Int) (σ : Mm) (n : Nat) : Mm := fd (fun k τ => dayP Λ hl tl (if bAnd (bShr y (k : Int)) 1 = 0 then 1 else 0) τ) σ n
def wdS (Λ : Mm) (hl tl : List Int) (s : Int → Int) (p t : Int) (n : Nat) (N : Nat) : Int := fd (fun y v => v + if wdD Λ hl tl (y : Int) (sig0 s) n 0 (1 + p) = Λ 5 p then wdC (y : Int) t n else 0) 0 N
theorem wdC_rg {y t : Int} (ht : 0 ≤ t ∧ t ≤ 10) : ∀ n : Nat, 0 ≤ wdC y t n ∧ wdC y t n ≤ ((10 ^ n : Nat) : Int)
  | 0 => by show (0 : Int) ≤ 1 ∧ (1 : Int) ≤ ((10 ^ 0 : Nat) : Int); decide
  | n + 1 => by
    have ih := wdC_rg (y := y) ht n
    show 0 ≤ wdC y t n * (if bAnd (bShr y (n : Int)) 1 = 1 then t else 10 - t) ∧ wdC y t n * (if bAnd (bShr y (n : Int)) 1 = 1 then t else 10 - t) ≤ ((10 ^ (n + 1) : Nat) : Int)
    have hz : ∃ z : Int, (if bAnd (bShr y (n : Int)) 1 = 1 then t else 10 - t) = z ∧ 0 ≤ z ∧ z ≤ 10 := by
      split
      · exact ⟨t, rfl, ht⟩
      · exact ⟨10 - t, rfl, by omega, by omega⟩
    obtain ⟨z, ez, h1, h2⟩ := hz
    rw [ez, Nat.pow_succ, Int.natCast_mul]
    exact ⟨Int.mul_nonneg ih.1 h1, Int.mul_le_mul ih.2 h2 h1 (by omega)⟩
theorem wdC_5 {y t : Int} (ht : 0 ≤ t ∧ t ≤ 10) {n : Nat} (hn : n ≤ 5) : 0 ≤ wdC y t n ∧ wdC y t n ≤ 100000 := by
  have h := wdC_rg (y := y) ht n
  have h2 : 10 ^ n ≤ 10 ^ 5 := Nat.pow_le_pow_right (by decide) hn
  omega
theorem wdD_WS {Λ σ : Mm} {b : Int} {hl tl : List Int} {y : Int} (hW : WL Λ) (h : WS Λ b σ) (hb : 0 ≤ b) : ∀ n : Nat, WS Λ (b + 9 * n) (wdD Λ hl tl y σ n)
  | 0 => by
    show WS Λ (b + 9 * 0) σ
    rw [Int.mul_zero, Int.add_zero]
    exact h
  | n + 1 => (dayP_WS hW (wdD_WS hW h hb n) (by omega)).up (by omega)
theorem wdS_rg {Λ : Mm} {hl tl : List Int} {s : Int → Int} {p t : Int} {n : Nat} (ht : 0 ≤ t ∧ t ≤ 10) (hn : n ≤ 5) : ∀ N : Nat, 0 ≤ wdS Λ hl tl s p t n N ∧ wdS Λ hl tl s p t n N ≤ 100000 * N
  | 0 => by show (0 : Int) ≤ 0 ∧ (0 : Int) ≤ 100000 * ((0 : Nat) : Int); decide
  | N + 1 => by
    have ih := wdS_rg (Λ := Λ) (hl := hl) (tl := tl) (s := s) (p := p) ht hn N
    have k := wdC_5 (y := (N : Int)) ht hn
    show 0 ≤ wdS Λ hl tl s p t n N + (if _ then wdC (N : Int) t n else 0) ∧ wdS Λ hl tl s p t n N + (if _ then wdC (N : Int) t n else 0) ≤ _
    split <;> omega
def cdT (t : Int) : Int := if 0 ≤ t ∧ t ≤ 10 then 0 else 2
theorem sh1n {n : Int} (h : 1 ≤ n ∧ n ≤ 5) : bShl 1 n = ((2 ^ n.toNat : Nat) : Int) ∧ 2 ≤ bShl 1 n ∧ bShl 1 n ≤ 32 := by
  have e := bShl_1 n.toNat (by omega)
  rw [show ((n.toNat : Nat) : Int) = n by omega] at e
  have h2 : 2 ^ n.toNat ≤ 2 ^ 5 := Nat.pow_le_pow_right (by decide) (by omega)
  have h3 : 2 ^ 1 ≤ 2 ^ n.toNat := Nat.pow_le_pow_right (by decide) (by omega)
  exact ⟨e, by omega, by omega⟩
theorem sp_byWind {l : Launch} {γ : Gh} {ρ m : Mm} {p n y : Int} {ld : Int} {Λ : Mm} {hl tl : List Int} (hL : LY ρ) (hLn : ρ 1 3 = ld) (hS : isS ρ ld) (hR : MR m) (hW : WL Λ) (hG : LandC m ld Λ hl tl) {s : Int → Int} (hN : MomC m 39 s) (hσ : WS Λ 0 (sig0 s)) (hp : 0 ≤ p ∧ p < Λ 0 1) (hn : 0 ≤ n ∧ n ≤ 5) : gE l γ μX10_isHomeByWind 6 0 0 (rI KK fun x ρ9 m9 => qR ρ ρ9 ∧ MR m9 ∧ Fr (trL ld) m m9 ∧ (if wdD Λ hl tl y (sig0 s) n.toNat 0 (1 + p) = Λ 5 p then 1 else 0) = x) xN KK ρ m [vR 1, vI p, vI n, vI y] := by
  refine gE.ofw cl_X10.2 ?_ rfl rfl (Nat.le_of_ble_eq_true rfl)
  show gT l γ μX10_isHomeByWind 6 0 0 _ _ KK ρ m 0 [some (vR 1), some (vI p), some (vI n), some (vI y), none] []
  have hn0 := hW.1
  have hn8 := hW.2.1
  have hld := hG.ld9
  refine tz_aload0 (n := 1) (g_at ck_X10_isHomeByWind 0 rfl) rfl (g_ne kd_1) ?_
  refine tz_cvR0 (n := 4) (μ' := μX10_setOut) (cb' := 0) (sb' := 0) ml_X10_251 mo_X10_setOut mv_X10_setOut np_X10_setOut kd_1 (g_at ck_X10_isHomeByWind 1 rfl) (sp_setOut hL hLn hS hR hW hG hN) rfl rfl rfl ⟨by decide, by decide⟩ (Nat.le_of_ble_eq_true rfl) (by decide) (by decide) (fun x1 ρ9 m1 hq => ?_)
  obtain ⟨rfl, rfl, hR1, hT1, hF1⟩ := hq
  have hQ1 := qM_trL (hF1.sub (trL_be (ld := ld)))
  have hG1 := hG.fr (hF1.sub trL_be)
  have hL := LY_wr (r := 62) (k := 0) (x := ld) hL (by decide)
  have hLt : wr ρ 62 0 ld 62 0 = ld := wr_same
  have hLn : wr ρ 62 0 ld 1 3 = ld := (by rw [wr_ne (by decide)]; exact hLn)
  have hS : isS (wr ρ 62 0 ld) ld := isS_of hL hld
  have hqr1 := qR_62 (ρ := ρ) (x := ld)
  refine tz_popR (n := 5) (g_at ck_X10_isHomeByWind 2 rfl) rfl ?_
  refine tz_iconst (n := 6) (g_at ck_X10_isHomeByWind 3 rfl) rfl ?_
  refine tz_istore4 (n := 8) (g_at ck_X10_isHomeByWind 4 rfl) rfl (by decide) g_hpI ?_
  refine g_for (fun i : Nat => ∀ m1 : Mm, (MR m1 ∧ TripC m1 (wdD Λ hl tl y (sig0 s) i) ∧ Fr (trL ld) m m1) → gT l γ μX10_isHomeByWind 6 0 0 _ _ KK (wr ρ 62 0 ld) m1 8 [some (vR 1), some (vI p), some (vI n), some (vI y), some (vI (i : Int))] []) n.toNat ?_ (fun i hi ihi => ?_) 0 (Nat.zero_le _) _ ⟨hR1, hT1, hF1.sub trL_be⟩
  · intro m1 hinv
    obtain ⟨hRi, hTi, hFi⟩ := hinv
    have hGi := hG.fr hFi
    have hσi := wdD_WS (hl := hl) (tl := tl) (y := y) hW hσ (Int.le_refl 0) n.toNat
    refine tz_iload4 (n := 10) (g_at ck_X10_isHomeByWind 5 rfl) rfl ?_
    refine tz_iload2 (n := 11) (g_at ck_X10_isHomeByWind 6 rfl) rfl ?_
    refine tz_icmp_ge (n := 14) (tgt := 41) (g_at ck_X10_isHomeByWind 7 rfl) rfl rfl ⟨(by omega), (by omega), (by omega), (by omega)⟩ (fun h11 => ?_) (fun h11 => absurd h11 (by omega))
    refine tz_aload0 (n := 42) (g_at ck_X10_isHomeByWind 22 rfl) rfl (g_ne kd_1) ?_
    refine tz_getOv (n := 45) (a := 62) fk_X10_74 kd_1 (ly_1_14 hL) (g_at ck_X10_isHomeByWind 23 rfl) rfl ?_
    refine tz_iload1 (n := 46) (g_at ck_X10_isHomeByWind 24 rfl) rfl ?_
    refine tz_cvI1 (n := 49) (μ' := μX8_isHome) (cb' := 0) (sb' := 0) ml_X10_312 mo_X8_isHome mv_X8_isHome np_X8_isHome kd_62 (g_at ck_X10_isHomeByWind 25 rfl) (sp_tHome hL hLt hS hRi hW hGi hTi hσi (by omega) (by omega)) rfl rfl rfl ⟨by decide, by decide⟩ (Nat.le_of_ble_eq_true rfl) (by decide) (by decide) (fun x46 ρ9 m46 hq => ?_)
    obtain ⟨rfl, hR2, rfl, rfl⟩ := hq
    exact tz_bret (g_at ck_X10_isHomeByWind 26 rfl) rfl (by split <;> simp) (rI_mk ⟨hqr1, hR2, hFi, rfl⟩)
  · intro m1 hinv
    obtain ⟨hRi, hTi, hFi⟩ := hinv
    have hGi := hG.fr hFi
    have hσi := wdD_WS (hl := hl) (tl := tl) (y := y) hW hσ (Int.le_refl 0) i
    refine tz_iload4 (n := 10) (g_at ck_X10_isHomeByWind 5 rfl) rfl ?_
    refine tz_iload2 (n := 11) (g_at ck_X10_isHomeByWind 6 rfl) rfl ?_
    refine tz_icmp_ge (n := 14) (tgt := 41) (g_at ck_X10_isHomeByWind 7 rfl) rfl rfl ⟨(by omega), (by omega), (by omega), (by omega)⟩ (fun h11 => absurd h11 (by omega)) (fun h11 => ?_)
    refine tz_aload0 (n := 15) (g_at ck_X10_isHomeByWind 8 rfl) rfl (g_ne kd_1) ?_
    refine tz_getOv (n := 18) (a := 62) fk_X10_74 kd_1 (ly_1_14 hL) (g_at ck_X10_isHomeByWind 9 rfl) rfl ?_
    refine tz_iload3 (n := 19) (g_at ck_X10_isHomeByWind 10 rfl) rfl ?_
    refine tz_iload4 (n := 21) (g_at ck_X10_isHomeByWind 11 rfl) rfl ?_
    refine tz_ishr (n := 22) (g_at ck_X10_isHomeByWind 12 rfl) rfl ?_
    refine tz_iconst (n := 23) (g_at ck_X10_isHomeByWind 13 rfl) rfl ?_
    refine tz_iand (n := 24) (g_at ck_X10_isHomeByWind 14 rfl) rfl ?_
    refine tz_if_ne (n := 27) (tgt := 31) (g_at ck_X10_isHomeByWind 15 rfl) rfl rfl (bAnd_rg _ _) (fun h24 => ?_) (fun h24 => ?_)
    · skip
      refine tz_iconst (n := 32) (g_at ck_X10_isHomeByWind 18 rfl) rfl ?_
      refine tz_cvV1 (n := 35) (μ' := μX8_goDay) (cb' := 0) (sb' := 0) ml_X10_277 mo_X8_goDay mv_X8_goDay np_X8_goDay kd_62 (g_at ck_X10_isHomeByWind 19 rfl) (sp_goDay hL hLt hS hRi hW hGi hTi hσi (by omega) (by decide)) rfl rfl rfl ⟨by decide, by decide⟩ (Nat.le_of_ble_eq_true rfl) (by decide) (by decide) (fun ρ9 m32 hq => ?_)
      obtain ⟨rfl, hR3, hT32, hF32⟩ := hq
      refine tz_iinc4 (n := 38) (g_at ck_X10_isHomeByWind 20 rfl) rfl (by decide) g_hpI ?_
      refine tz_goto (tgt := 8) (g_at ck_X10_isHomeByWind 21 rfl) rfl ?_
      have e9 : wdD Λ hl tl y (sig0 s) (i + 1) = dayP Λ hl tl 0 (wdD Λ hl tl y (sig0 s) i) := congrArg (fun w9 => dayP Λ hl tl w9 (wdD Λ hl tl y (sig0 s) i)) (if_neg h24)
      exact ihi _ ⟨hR3, (by rw [e9]; exact hT32), hFi.tr hF32⟩
    · skip
      refine tz_iconst (n := 28) (g_at ck_X10_isHomeByWind 16 rfl) rfl ?_
      refine tz_goto (tgt := 32) (g_at ck_X10_isHomeByWind 17 rfl) rfl ?_
      refine tz_cvV1 (n := 35) (μ' := μX8_goDay) (cb' := 0) (sb' := 0) ml_X10_277 mo_X8_goDay mv_X8_goDay np_X8_goDay kd_62 (g_at ck_X10_isHomeByWind 19 rfl) (sp_goDay hL hLt hS hRi hW hGi hTi hσi (by omega) (by decide)) rfl rfl rfl ⟨by decide, by decide⟩ (Nat.le_of_ble_eq_true rfl) (by decide) (by decide) (fun ρ9 m32 hq => ?_)
      obtain ⟨rfl, hR4, hT32, hF32⟩ := hq
      refine tz_iinc4 (n := 38) (g_at ck_X10_isHomeByWind 20 rfl) rfl (by decide) g_hpI ?_
      refine tz_goto (tgt := 8) (g_at ck_X10_isHomeByWind 21 rfl) rfl ?_
      have e9 : wdD Λ hl tl y (sig0 s) (i + 1) = dayP Λ hl tl 1 (wdD Λ hl tl y (sig0 s) i) := congrArg (fun w9 => dayP Λ hl tl w9 (wdD Λ hl tl y (sig0 s) i)) (if_pos h24)
      exact ihi _ ⟨hR4, (by rw [e9]; exact hT32), hFi.tr hF32⟩
theorem sp_wind {l : Launch} {γ : Gh} {ρ m : Mm} {p n t : Int} (hp : -2147483648 ≤ p ∧ p < 2147483648) (hn : -2147483648 ≤ n ∧ n < 2147483648) (ht : -2147483648 ≤ t ∧ t < 2147483648) {ld : Int} {Λ : Mm} {hl tl : List Int} (hL : LY ρ) (hLn : ρ 1 3 = ld) (hS : isS ρ ld) (hR : MR m) (hW : WL Λ) (hG : LandC m ld Λ hl tl) {s : Int → Int} (hN : MomC m 39 s) (hσ : WS Λ 0 (sig0 s)) : gE l γ μX10_wind 7 3 18 (rI KK fun x ρ9 m9 => qR ρ ρ9 ∧ MR m9 ∧ qM ld m m9 ∧ sq (cdP Λ p) (sq (cdD n 1 5) (cdT t)) = 0 ∧ wdS Λ hl tl s p t n.toNat (2 ^ n.toNat) = x) (xC ρ m (sq (cdP Λ p) (sq (cdD n 1 5) (cdT t)))) KK ρ m [vR 1, vI p, vI n, vI t] := by
  refine gE.ofw cl_X10.2 ?_ rfl rfl (Nat.le_of_ble_eq_true rfl)
  show gT l γ μX10_wind 7 3 18 _ _ KK ρ m 0 [some (vR 1), some (vI p), some (vI n), some (vI t), none, none, none, none] []
  have hn1 := hW.1
  have hn8 := hW.2.1
  have hld := hG.ld9
  refine tz_aload0 (n := 1) (g_at ck_X10_wind 0 rfl) rfl (g_ne kd_1) ?_
  refine tz_iload1 (n := 2) (g_at ck_X10_wind 1 rfl) rfl ?_
  refine tz_cvxV1 (n := 5) (μ' := μX10_needPerson) (cb' := 2) (sb' := 12) ml_X10_221 mo_X10_needPerson mv_X10_needPerson np_X10_needPerson kd_1 (g_at ck_X10_wind 2 rfl) (sp_needP ⟨hp.1, hp.2⟩ hL hLn hS hR hW hG) rfl rfl rfl ⟨by decide, by decide⟩ (Nat.le_of_ble_eq_true rfl) (by decide) (by decide) (g_in (g_m5 (List.mem_of_getElem? (i := 68) rfl)) rfl) (fun E9 ρ9 m9 h9 => g_gX_out rfl h9.1 h9.2.1 (sq_1 h9.2.2)) (fun ρ9 m2 hq => ?_)
  obtain ⟨rfl, hR1, rfl, hz2⟩ := hq
  have hp2 := cdP_0 hz2
  refine tz_iload2 (n := 6) (g_at ck_X10_wind 3 rfl) rfl ?_
  refine tz_iconst (n := 7) (g_at ck_X10_wind 4 rfl) rfl ?_
  refine tz_iconst (n := 8) (g_at ck_X10_wind 5 rfl) rfl ?_
  refine tz_csxV3 (n := 11) (μ' := μX10_needDays) (cb' := 1) (sb' := 6) ml_X10_270 mo_X10_needDays ms_X10_needDays np_X10_needDays (g_at ck_X10_wind 6 rfl) (sp_needD ⟨hn.1, hn.2⟩ ⟨(by decide), (by decide)⟩ ⟨(by decide), (by decide)⟩ hR1) rfl rfl ⟨by decide, by decide⟩ (Nat.le_of_ble_eq_true rfl) (by decide) (by decide) (g_in (g_m5 (List.mem_of_getElem? (i := 145) rfl)) rfl) (fun E9 ρ9 m9 h9 => g_gX_out rfl h9.1 h9.2.1 (sq_2 hz2 (sq_1 h9.2.2))) (fun ρ9 m8 hq => ?_)
  obtain ⟨rfl, hR2, rfl, hz8⟩ := hq
  have hn2 := cdD_0 hz8
  have hsh := sh1n hn2
  refine tz_iload3 (n := 12) (g_at ck_X10_wind 7 rfl) rfl ?_
  refine tz_if_lt (n := 15) (tgt := 21) (g_at ck_X10_wind 8 rfl) rfl rfl ⟨ht.1, ht.2⟩ (fun h12 => ?_) (fun h12 => ?_)
  · skip
    exact tz_throw tw_I (i9 := 20) st_20 (g_at ck_X10_wind 12 rfl) (g_at ck_X10_wind 13 rfl) (Or.inr ⟨(g_at ck_X10_wind 14 rfl), rfl⟩) (g_at ck_X10_wind 15 rfl) (g_at ck_X10_wind 16 rfl) rfl ⟨by decide, by decide, by decide⟩ (Nat.le_of_ble_eq_true rfl) ⟨rfl, rfl, rfl, sq_2 hz2 (sq_2 hz8 (exN_2 (by unfold cdT; rw [if_neg (by omega)])))⟩
  · skip
    refine tz_iload3 (n := 16) (g_at ck_X10_wind 9 rfl) rfl ?_
    refine tz_bipush (n := 18) (g_at ck_X10_wind 10 rfl) rfl rfl ?_
    refine tz_icmp_le (n := 21) (tgt := 32) (g_at ck_X10_wind 11 rfl) rfl rfl ⟨ht.1, ht.2, (by decide), (by decide)⟩ (fun h18 => ?_) (fun h18 => ?_)
    · skip
      refine tz_iconst (n := 33) (g_at ck_X10_wind 17 rfl) rfl ?_
      refine tz_istore4 (n := 35) (g_at ck_X10_wind 18 rfl) rfl (by decide) g_hpI ?_
      refine tz_iconst (n := 36) (g_at ck_X10_wind 19 rfl) rfl ?_
      refine tz_istore5 (n := 38) (g_at ck_X10_wind 20 rfl) rfl (by decide) g_hpI ?_
      have hcdt : cdT t = 0 := if_pos (by omega)
      refine g_for (fun i : Nat => ∀ ρ1 m1 : Mm, (MR m1 ∧ qR ρ ρ1 ∧ Fr (trL ld) m m1) → gT l γ μX10_wind 7 1 6 _ _ KK ρ1 m1 38 [some (vR 1), some (vI p), some (vI n), some (vI t), some (vI (wdS Λ hl tl s p t n.toNat i)), some (vI (i : Int)), none, none] []) (2 ^ n.toNat) ?_ (fun i hi ihi => ?_) 0 (Nat.zero_le _) _ _ ⟨hR2, qR.rf, Fr.rf⟩
      · intro ρ1 m1 hinv
        obtain ⟨hR1, hq1, hF1⟩ := hinv
        refine tz_iload5 (n := 40) (g_at ck_X10_wind 21 rfl) rfl ?_
        refine tz_iconst (n := 41) (g_at ck_X10_wind 22 rfl) rfl ?_
        refine tz_iload2 (n := 42) (g_at ck_X10_wind 23 rfl) rfl ?_
        refine tz_ishl (n := 43) (g_at ck_X10_wind 24 rfl) rfl ?_
        refine tz_icmp_ge (n := 46) (tgt := 117) (g_at ck_X10_wind 25 rfl) rfl rfl ⟨by omega, by omega, by omega, by omega⟩ (fun h43 => ?_) (fun h43 => absurd h43 (by omega))
        refine tz_iload4 (n := 119) (g_at ck_X10_wind 64 rfl) rfl ?_
        exact tz_iret (g_at ck_X10_wind 65 rfl) rfl (rI_mk ⟨hq1, hR1, qM_trL hF1, sq_0 hz2 (sq_0 hz8 hcdt), rfl⟩)
      · intro ρ1 m1 hinv
        obtain ⟨hR1, hq1, hF1⟩ := hinv
        have hL1 := hL.q hq1
        have hLn1 := hq1.ln hLn
        have hS1 := isS_q hL hq1 hld
        have hG1 := hG.fr hF1
        have hN1 := hN.fr hld hF1
        have hsum := wdS_rg (Λ := Λ) (hl := hl) (tl := tl) (s := s) (p := p) (t := t) (n := n.toNat) (by omega) (by omega) i
        refine tz_iload5 (n := 40) (g_at ck_X10_wind 21 rfl) rfl ?_
        refine tz_iconst (n := 41) (g_at ck_X10_wind 22 rfl) rfl ?_
        refine tz_iload2 (n := 42) (g_at ck_X10_wind 23 rfl) rfl ?_
        refine tz_ishl (n := 43) (g_at ck_X10_wind 24 rfl) rfl ?_
        refine tz_icmp_ge (n := 46) (tgt := 117) (g_at ck_X10_wind 25 rfl) rfl rfl ⟨by omega, by omega, by omega, by omega⟩ (fun h43 => absurd h43 (by omega)) (fun h43 => ?_)
        refine tz_iconst (n := 47) (g_at ck_X10_wind 26 rfl) rfl ?_
        refine tz_istore6 (n := 49) (g_at ck_X10_wind 27 rfl) rfl (by decide) g_hpI ?_
        refine tz_iconst (n := 50) (g_at ck_X10_wind 28 rfl) rfl ?_
        refine tz_istore7 (n := 52) (g_at ck_X10_wind 29 rfl) rfl (by decide) g_hpI ?_
        refine g_for (fun j : Nat => gT l γ μX10_wind 7 1 6 _ _ KK ρ1 m1 52 [some (vR 1), some (vI p), some (vI n), some (vI t), some (vI (wdS Λ hl tl s p t n.toNat i)), some (vI (i : Int)), some (vI (wdC (i : Int) t j)), some (vI (j : Int))] []) n.toNat ?_ (fun j hj ihj => ?_) 0 (Nat.zero_le _)
        · skip
          have hwc := wdC_5 (y := (i : Int)) (t := t) (by omega) (n := n.toNat) (by omega)
          refine tz_iload7 (n := 54) (g_at ck_X10_wind 30 rfl) rfl ?_
          refine tz_iload2 (n := 55) (g_at ck_X10_wind 31 rfl) rfl ?_
          refine tz_icmp_ge (n := 58) (tgt := 88) (g_at ck_X10_wind 32 rfl) rfl rfl ⟨(by omega), (by omega), (by omega), (by omega)⟩ (fun h55 => ?_) (fun h55 => absurd h55 (by omega))
          refine tz_iload6 (n := 90) (g_at ck_X10_wind 50 rfl) rfl ?_
          refine tz_if_le (n := 93) (tgt := 111) (g_at ck_X10_wind 51 rfl) rfl rfl (by omega) (fun h90 => ?_) (fun h90 => ?_)
          · skip
            refine tz_iinc5 (n := 114) (g_at ck_X10_wind 62 rfl) rfl (by decide) g_hpI ?_
            refine tz_goto (tgt := 38) (g_at ck_X10_wind 63 rfl) rfl ?_
            refine tz_drop6 ?_
            refine tz_drop7 ?_
            have e9 : wdS Λ hl tl s p t n.toNat (i + 1) = wdS Λ hl tl s p t n.toNat i + 0 := (by show _ + (if _ then wdC (i : Int) t n.toNat else 0) = _; rw [show wdC (i : Int) t n.toNat = 0 by omega]; split <;> rfl)
            exact gT_eq (ihi _ _ ⟨hR1, hq1, hF1⟩) rfl (by rw [e9, Int.add_zero]; rfl)
          · skip
            refine tz_aload0 (n := 94) (g_at ck_X10_wind 52 rfl) rfl (g_ne kd_1) ?_
            refine tz_iload1 (n := 95) (g_at ck_X10_wind 53 rfl) rfl ?_
            refine tz_iload2 (n := 96) (g_at ck_X10_wind 54 rfl) rfl ?_
            refine tz_iload5 (n := 98) (g_at ck_X10_wind 55 rfl) rfl ?_
            refine tz_cvI3 (n := 101) (μ' := μX10_isHomeByWind) (cb' := 1) (sb' := 6) ml_X10_350 mo_X10_isHomeByWind mv_X10_isHomeByWind np_X10_isHomeByWind kd_1 (g_at ck_X10_wind 56 rfl) (sp_byWind hL1 hLn1 hS1 hR1 hW hG1 hN1 hσ (by omega) (by omega)) rfl rfl rfl ⟨by decide, by decide⟩ (Nat.le_of_ble_eq_true rfl) (by decide) (by decide) (fun x98 ρ9 m98 hq => ?_)
            obtain ⟨hq98, hR3, hF98, hx98⟩ := hq
            have h01 : x98 = 0 ∨ x98 = 1 := by rw [← hx98]; split <;> simp
            refine tz_if_eq (n := 104) (tgt := 111) (g_at ck_X10_wind 57 rfl) rfl rfl (by omega) (fun h101 => ?_) (fun h101 => ?_)
            · skip
              refine tz_iinc5 (n := 114) (g_at ck_X10_wind 62 rfl) rfl (by decide) g_hpI ?_
              refine tz_goto (tgt := 38) (g_at ck_X10_wind 63 rfl) rfl ?_
              refine tz_drop6 ?_
              refine tz_drop7 ?_
              have e9 : wdS Λ hl tl s p t n.toNat (i + 1) = wdS Λ hl tl s p t n.toNat i + 0 := (by show _ + (if _ then wdC (i : Int) t n.toNat else 0) = _; rw [if_neg (ite10n (hx98.trans h101))]; rfl)
              exact gT_eq (ihi _ _ ⟨hR3, hq1.tr hq98, hF1.tr hF98⟩) rfl (by rw [e9, Int.add_zero]; rfl)
            · skip
              refine tz_iload4 (n := 106) (g_at ck_X10_wind 58 rfl) rfl ?_
              refine tz_iload6 (n := 108) (g_at ck_X10_wind 59 rfl) rfl ?_
              refine tz_iadd (n := 109) (g_at ck_X10_wind 60 rfl) rfl ?_
              refine tz_istore4 (n := 111) (g_at ck_X10_wind 61 rfl) rfl (by decide) g_hpI ?_
              refine tz_iinc5 (n := 114) (g_at ck_X10_wind 62 rfl) rfl (by decide) g_hpI ?_
              refine tz_goto (tgt := 38) (g_at ck_X10_wind 63 rfl) rfl ?_
              refine tz_drop6 ?_
              refine tz_drop7 ?_
              have e9 : wdS Λ hl tl s p t n.toNat (i + 1) = wdS Λ hl tl s p t n.toNat i + wdC (i : Int) t n.toNat := (by show _ + (if _ then wdC (i : Int) t n.toNat else 0) = _; rw [if_pos (ite10 (fun h9 => h101 (hx98.symm.trans h9)))]; rfl)
              exact gT_eq (ihi _ _ ⟨hR3, hq1.tr hq98, hF1.tr hF98⟩) rfl (by rw [e9]; rfl)
        · skip
          refine tz_iload7 (n := 54) (g_at ck_X10_wind 30 rfl) rfl ?_
          refine tz_iload2 (n := 55) (g_at ck_X10_wind 31 rfl) rfl ?_
          refine tz_icmp_ge (n := 58) (tgt := 88) (g_at ck_X10_wind 32 rfl) rfl rfl ⟨(by omega), (by omega), (by omega), (by omega)⟩ (fun h55 => absurd h55 (by omega)) (fun h55 => ?_)
          refine tz_iload6 (n := 60) (g_at ck_X10_wind 33 rfl) rfl ?_
          refine tz_iload5 (n := 62) (g_at ck_X10_wind 34 rfl) rfl ?_
          refine tz_iload7 (n := 64) (g_at ck_X10_wind 35 rfl) rfl ?_
          refine tz_ishr (n := 65) (g_at ck_X10_wind 36 rfl) rfl ?_
          refine tz_iconst (n := 66) (g_at ck_X10_wind 37 rfl) rfl ?_
          refine tz_iand (n := 67) (g_at ck_X10_wind 38 rfl) rfl ?_
          refine tz_iconst (n := 68) (g_at ck_X10_wind 39 rfl) rfl ?_
          refine tz_icmp_ne (n := 71) (tgt := 75) (g_at ck_X10_wind 40 rfl) rfl rfl ⟨(bAnd_rg _ _).1, (bAnd_rg _ _).2, by decide, by decide⟩ (fun h68 => ?_) (fun h68 => ?_)
          · skip
            refine tz_bipush (n := 77) (g_at ck_X10_wind 43 rfl) rfl rfl ?_
            refine tz_iload3 (n := 78) (g_at ck_X10_wind 44 rfl) rfl ?_
            refine tz_isub (n := 79) (g_at ck_X10_wind 45 rfl) rfl ?_
            refine tz_imul (n := 80) (g_at ck_X10_wind 46 rfl) rfl ?_
            refine tz_istore6 (n := 82) (g_at ck_X10_wind 47 rfl) rfl (by decide) g_hpI ?_
            refine tz_iinc7 (n := 85) (g_at ck_X10_wind 48 rfl) rfl (by decide) g_hpI ?_
            refine tz_goto (tgt := 52) (g_at ck_X10_wind 49 rfl) rfl ?_
            have e9 : wdC (i : Int) t (j + 1) = (wdC (i : Int) t j) * (10 - t) := by show (wdC (i : Int) t j) * (if _ then t else 10 - t) = _; rw [if_neg h68]
            exact gT_eq ihj rfl (by rw [e9]; rfl)
          · skip
            refine tz_iload3 (n := 72) (g_at ck_X10_wind 41 rfl) rfl ?_
            refine tz_goto (tgt := 79) (g_at ck_X10_wind 42 rfl) rfl ?_
            refine tz_imul (n := 80) (g_at ck_X10_wind 46 rfl) rfl ?_
            refine tz_istore6 (n := 82) (g_at ck_X10_wind 47 rfl) rfl (by decide) g_hpI ?_
            refine tz_iinc7 (n := 85) (g_at ck_X10_wind 48 rfl) rfl (by decide) g_hpI ?_
            refine tz_goto (tgt := 52) (g_at ck_X10_wind 49 rfl) rfl ?_
            have e9 : wdC (i : Int) t (j + 1) = (wdC (i : Int) t j) * t := by show (wdC (i : Int) t j) * (if _ then t else 10 - t) = _; rw [if_pos h68]
            exact gT_eq ihj rfl (by rw [e9]; rfl)
    · skip
      exact tz_throw tw_I (i9 := 20) st_20 (g_at ck_X10_wind 12 rfl) (g_at ck_X10_wind 13 rfl) (Or.inr ⟨(g_at ck_X10_wind 14 rfl), rfl⟩) (g_at ck_X10_wind 15 rfl) (g_at ck_X10_wind 16 rfl) rfl ⟨by decide, by decide, by decide⟩ (Nat.le_of_ble_eq_true rfl) ⟨rfl, rfl, rfl, sq_2 hz2 (sq_2 hz8 (exN_2 (by unfold cdT; rw [if_neg (by omega)])))⟩
