/-! The reference reads a shire. -/
def cS (y tn : Int) : Int := if 0 ≤ y ∧ y ≤ tn then 0 else 1
theorem bit_z {c : Int} (h : 0 ≤ c ∧ c < 9) : bAnd (bShr 0 c) 1 = 0 := by
  have k := bBit (a := 0) (k := c.toNat) (by decide) (by omega)
  rw [show ((c.toNat : Nat) : Int) = c by omega, Nat.zero_testBit] at k
  exact k
theorem RU.len {m : Mm} {f : Int} {L : List Int} (h : RU m f L) : L.length ≤ 700 := by
  rcases h with ⟨_, h⟩ | ⟨_, _, _, _, _, h⟩
  · rw [h]; decide
  · exact h
theorem mp_shire {l : Launch} {γ : Gh} {ρ m : Mm} {y : Int} (hy : -2147483648 ≤ y ∧ y < 2147483648) {t : Int → Int} {tn sp : Int} {z0 zF : LZ} (hzF : lN9 t y sp z0 700 = zF) (hL : LY ρ) (hR : MR m) (hB : BY t) (htn : 0 ≤ tn ∧ tn ≤ 700) (hT : MTp m t tn) (hf0 : m 92 0 < 2000000000) (h101 : ∀ i, 0 ≤ i → i < 9 → m 101 i = 0 ∨ m 101 i = 1) (hz1 : z0.1.1 = 1) (hz2 : sP z0.1 = 0) (hz3 : z0.2.1 = fun _ _ => 0) (hz4 : z0.2.2 (sp + 6) = []) (hz5 : z0.2.2 (sp + 9) = []) : gE l γ μX11_shire 7 0 0 (rI KK fun x ρ9 m9 => q23 ρ ρ9 ∧ MR m9 ∧ m9 84 0 = cS y tn ∧ (cS y tn ≠ 0 → FX [84] [0] m m9) ∧ (cS y tn = 0 → m9 84 12 = 0 ∧ (∀ i, 0 ≤ i → i < 9 → m9 101 i = 0 ∨ m9 101 i = 1) ∧ (zF.1.1 = 0 → x = sF zF.1 ∧ x ≠ 0 ∧ m9 84 14 = sW zF.1 ∧ m9 92 = up (m 92) 0 (m 92 0 + 1) ∧ FX [84, 92, 93, 94, 95, 96, 97, 98, 99, 100, 101, 102] [0, 12, 13, 14, 16, 17, 18, 19, 20, 21, 22, 24, 25, 26, 27, 28, 29, 30, 31, 32] m m9) ∧ (zF.1.1 = 1 → x = 0 ∧ m9 84 14 = -1 ∧ MLand m9 zF.2.1 (zF.2.2 (sp + 6)) (zF.2.2 (sp + 9)) ∧ WN zF.2.1 ∧ MRow m9 (zF.2.1 6) ∧ m9 84 45 = 0 ∧ m9 84 58 = 0 ∧ m9 84 63 = 0 ∧ ((zF.2.2 (sp + 6)).length ≤ 700 ∧ (zF.2.2 (sp + 9)).length ≤ 700) ∧ m9 92 = m 92 ∧ FX [84, 85, 86, 87, 88, 89, 90, 92, 93, 94, 95, 96, 97, 98, 99, 100, 101, 102, 103] [0, 1, 2, 3, 4, 12, 13, 14, 16, 17, 18, 19, 20, 21, 22, 24, 25, 26, 27, 28, 29, 30, 31, 32, 45, 58, 63] m m9))) xN KK ρ m [vR 84, vI y] := by
  refine gE.ofw cl_X11.2 ?_ rfl rfl (Nat.le_of_ble_eq_true rfl)
  show gT l γ μX11_shire 7 0 0 _ _ KK ρ m 0 [some (vR 84), some (vI y), none] []
  refine tz_aload0 (n := 1) (g_at ck_X11_shire 0 rfl) rfl (g_ne kd_84) ?_
  refine tz_iconst (n := 2) (g_at ck_X11_shire 1 rfl) rfl ?_
  refine tz_putIr (n := 5) (kz := 0) fk_X11_132 kd_84 (g_at ck_X11_shire 2 rfl) rfl hR ⟨(by decide), (by decide)⟩ rfl (fun hR1 => ?_)
  obtain ⟨m0, e0⟩ : ∃ m0, m0 = wr m 84 0 0 := ⟨_, rfl⟩
  rw [← e0] at hR1 ⊢
  have h00 : m0 84 0 = 0 := by rw [e0, wr_same]
  have hU0 : FX [84] [0] m m0 := by rw [e0]; exact FX.w0
  have hT0 := hT.x hU0 (by decide) (by decide)
  refine tz_aload0 (n := 6) (g_at ck_X11_shire 3 rfl) rfl (g_ne kd_84) ?_
  refine tz_iload1 (n := 7) (g_at ck_X11_shire 4 rfl) rfl ?_
  refine tz_if_lt (n := 10) (tgt := 22) (g_at ck_X11_shire 5 rfl) rfl rfl hy (fun h7 => ?_) (fun h7 => ?_)
  · skip
    refine tz_iconst (n := 23) (g_at ck_X11_shire 12 rfl) rfl ?_
    refine tz_iconst (n := 24) (g_at ck_X11_shire 13 rfl) rfl ?_
    refine tz_cvI2 (n := 27) (μ' := μX11_right) (cb' := 0) (sb' := 0) ml_X11_295 mo_X11_right mv_X11_right np_X11_right kd_84 (g_at ck_X11_shire 14 rfl) (mp_right hR1 h00 (by decide) (by decide)) rfl rfl rfl ⟨by decide, by decide⟩ (Nat.le_of_ble_eq_true rfl) (by decide) (by decide) (fun x24 ρ9 m24 hq => ?_)
    obtain ⟨rfl, hR2, rfl, rfl⟩ := hq
    rw [show (if (0 : Int) = 0 then wr m0 84 0 1 else m0) = wr m0 84 0 1 from if_pos rfl] at hR2 ⊢
    refine tz_if_ne (n := 30) (tgt := 32) (g_at ck_X11_shire 15 rfl) rfl rfl (by decide) (fun h27 => absurd h27 (by omega)) (fun h27 => ?_)
    refine tz_iconst (n := 31) (g_at ck_X11_shire 16 rfl) rfl ?_
    exact tz_iret (g_at ck_X11_shire 17 rfl) rfl (rI_mk ⟨q23.rf, hR2, by rw [wr_same, show cS y tn = 1 from if_neg (by omega)], fun _ => hU0.w (by decide) (fun _ => by decide), fun h9 => absurd h9 (by rw [show cS y tn = 1 from if_neg (by omega)]; decide)⟩)
  · skip
    refine tz_iload1 (n := 11) (g_at ck_X11_shire 6 rfl) rfl ?_
    refine tz_aload0 (n := 12) (g_at ck_X11_shire 7 rfl) rfl (g_ne kd_84) ?_
    refine tz_getIw (n := 15) (kz := 12) fk_X11_135 kd_84 (g_at ck_X11_shire 8 rfl) rfl rfl ?_
    rw [hT0.1]
    refine tz_icmp_gt (n := 18) (tgt := 22) (g_at ck_X11_shire 9 rfl) rfl rfl (by omega) (fun h15 => ?_) (fun h15 => ?_)
    · skip
      refine tz_iconst (n := 23) (g_at ck_X11_shire 12 rfl) rfl ?_
      refine tz_iconst (n := 24) (g_at ck_X11_shire 13 rfl) rfl ?_
      refine tz_cvI2 (n := 27) (μ' := μX11_right) (cb' := 0) (sb' := 0) ml_X11_295 mo_X11_right mv_X11_right np_X11_right kd_84 (g_at ck_X11_shire 14 rfl) (mp_right hR1 h00 (by decide) (by decide)) rfl rfl rfl ⟨by decide, by decide⟩ (Nat.le_of_ble_eq_true rfl) (by decide) (by decide) (fun x24 ρ9 m24 hq => ?_)
      obtain ⟨rfl, hR3, rfl, rfl⟩ := hq
      rw [show (if (0 : Int) = 0 then wr m0 84 0 1 else m0) = wr m0 84 0 1 from if_pos rfl] at hR3 ⊢
      refine tz_if_ne (n := 30) (tgt := 32) (g_at ck_X11_shire 15 rfl) rfl rfl (by decide) (fun h27 => absurd h27 (by omega)) (fun h27 => ?_)
      refine tz_iconst (n := 31) (g_at ck_X11_shire 16 rfl) rfl ?_
      exact tz_iret (g_at ck_X11_shire 17 rfl) rfl (rI_mk ⟨q23.rf, hR3, by rw [wr_same, show cS y tn = 1 from if_neg (by omega)], fun _ => hU0.w (by decide) (fun _ => by decide), fun h9 => absurd h9 (by rw [show cS y tn = 1 from if_neg (by omega)]; decide)⟩)
    · skip
      refine tz_iconst (n := 19) (g_at ck_X11_shire 10 rfl) rfl ?_
      refine tz_goto (tgt := 23) (g_at ck_X11_shire 11 rfl) rfl ?_
      refine tz_iconst (n := 24) (g_at ck_X11_shire 13 rfl) rfl ?_
      refine tz_cvI2 (n := 27) (μ' := μX11_right) (cb' := 0) (sb' := 0) ml_X11_295 mo_X11_right mv_X11_right np_X11_right kd_84 (g_at ck_X11_shire 14 rfl) (mp_right hR1 h00 (by decide) (by decide)) rfl rfl rfl ⟨by decide, by decide⟩ (Nat.le_of_ble_eq_true rfl) (by decide) (by decide) (fun x24 ρ9 m24 hq => ?_)
      obtain ⟨rfl, hR4, rfl, rfl⟩ := hq
      rw [show (if (1 : Int) = 0 then wr m0 84 0 1 else m0) = m0 from if_neg (by decide)] at hR4 ⊢
      refine tz_if_ne (n := 30) (tgt := 32) (g_at ck_X11_shire 15 rfl) rfl rfl (by decide) (fun h27 => ?_) (fun h27 => absurd h27 (by omega))
      refine tz_aload0 (n := 33) (g_at ck_X11_shire 18 rfl) rfl (g_ne kd_84) ?_
      refine tz_iconst (n := 34) (g_at ck_X11_shire 19 rfl) rfl ?_
      refine tz_putIr (n := 37) (kz := 12) fk_X11_135 kd_84 (g_at ck_X11_shire 20 rfl) rfl hR4 ⟨(by decide), (by decide)⟩ rfl (fun hR5 => ?_)
      refine tz_aload0 (n := 38) (g_at ck_X11_shire 21 rfl) rfl (g_ne kd_84) ?_
      refine tz_iconst (n := 39) (g_at ck_X11_shire 22 rfl) rfl ?_
      refine tz_putIr (n := 42) (kz := 14) fk_X11_38 kd_84 (g_at ck_X11_shire 23 rfl) rfl hR5 ⟨(by decide), (by decide)⟩ rfl (fun hR6 => ?_)
      refine tz_aload0 (n := 43) (g_at ck_X11_shire 24 rfl) rfl (g_ne kd_84) ?_
      refine tz_iconst (n := 44) (g_at ck_X11_shire 25 rfl) rfl ?_
      refine tz_putIr (n := 47) (kz := 13) fk_X11_188 kd_84 (g_at ck_X11_shire 26 rfl) rfl hR6 ⟨(by decide), (by decide)⟩ rfl (fun hR7 => ?_)
      refine tz_aload0 (n := 48) (g_at ck_X11_shire 27 rfl) rfl (g_ne kd_84) ?_
      refine tz_iload1 (n := 49) (g_at ck_X11_shire 28 rfl) rfl ?_
      refine tz_putIr (n := 52) (kz := 16) fk_X11_142 kd_84 (g_at ck_X11_shire 29 rfl) rfl hR7 hy rfl (fun hR8 => ?_)
      refine tz_aload0 (n := 53) (g_at ck_X11_shire 30 rfl) rfl (g_ne kd_84) ?_
      refine tz_iconst (n := 54) (g_at ck_X11_shire 31 rfl) rfl ?_
      refine tz_putIr (n := 57) (kz := 17) fk_X11_145 kd_84 (g_at ck_X11_shire 32 rfl) rfl hR8 ⟨(by decide), (by decide)⟩ rfl (fun hR9 => ?_)
      refine tz_aload0 (n := 58) (g_at ck_X11_shire 33 rfl) rfl (g_ne kd_84) ?_
      refine tz_iconst (n := 59) (g_at ck_X11_shire 34 rfl) rfl ?_
      refine tz_putIr (n := 62) (kz := 24) fk_X11_254 kd_84 (g_at ck_X11_shire 35 rfl) rfl hR9 ⟨(by decide), (by decide)⟩ rfl (fun hR10 => ?_)
      refine tz_aload0 (n := 63) (g_at ck_X11_shire 36 rfl) rfl (g_ne kd_84) ?_
      refine tz_iconst (n := 64) (g_at ck_X11_shire 37 rfl) rfl ?_
      refine tz_putIr (n := 67) (kz := 25) fk_X11_264 kd_84 (g_at ck_X11_shire 38 rfl) rfl hR10 ⟨(by decide), (by decide)⟩ rfl (fun hR11 => ?_)
      refine tz_aload0 (n := 68) (g_at ck_X11_shire 39 rfl) rfl (g_ne kd_84) ?_
      refine tz_iconst (n := 69) (g_at ck_X11_shire 40 rfl) rfl ?_
      refine tz_putIr (n := 72) (kz := 26) fk_X11_283 kd_84 (g_at ck_X11_shire 41 rfl) rfl hR11 ⟨(by decide), (by decide)⟩ rfl (fun hR12 => ?_)
      refine tz_aload0 (n := 73) (g_at ck_X11_shire 42 rfl) rfl (g_ne kd_84) ?_
      refine tz_iconst (n := 74) (g_at ck_X11_shire 43 rfl) rfl ?_
      refine tz_putIr (n := 77) (kz := 27) fk_X11_289 kd_84 (g_at ck_X11_shire 44 rfl) rfl hR12 ⟨(by decide), (by decide)⟩ rfl (fun hR13 => ?_)
      refine tz_iconst (n := 78) (g_at ck_X11_shire 45 rfl) rfl ?_
      refine tz_istore2 (n := 79) (g_at ck_X11_shire 46 rfl) rfl (by decide) g_hpI ?_
      obtain ⟨m2, e2⟩ : ∃ m2, m2 = wr (wr (wr (wr (wr (wr (wr (wr (wr m0 84 12 0) 84 14 (-1)) 84 13 0) 84 16 y) 84 17 0) 84 24 0) 84 25 0) 84 26 (-1)) 84 27 (-1) := ⟨_, rfl⟩
      have hR2 : MR m2 := by rw [e2]; exact hR13
      rw [← e2]
      have hX2 : FX [84] [12, 13, 14, 16, 17, 24, 25, 26, 27] m0 m2 := by rw [e2]; exact (((((((((FX.rf.w (by decide) (fun _ => by decide)).w (by decide) (fun _ => by decide)).w (by decide) (fun _ => by decide)).w (by decide) (fun _ => by decide)).w (by decide) (fun _ => by decide)).w (by decide) (fun _ => by decide)).w (by decide) (fun _ => by decide)).w (by decide) (fun _ => by decide)).w (by decide) (fun _ => by decide))
      have h2f : (m2 84 12 = 0 ∧ m2 84 14 = -1 ∧ m2 84 13 = 0 ∧ m2 84 16 = y) ∧ (m2 84 17 = 0 ∧ m2 84 24 = 0 ∧ m2 84 25 = 0 ∧ m2 84 26 = -1 ∧ m2 84 27 = -1) := by rw [e2]; refine ⟨⟨?_, ?_, ?_, ?_⟩, ?_, ?_, ?_, ?_, ?_⟩ <;> simp [wr]
      suffices hlp : ∀ i : Nat, i ≤ 35 → gT l γ μX11_shire 7 0 0 _ _ KK ρ (fil m2 98 i 0) 79 [some (vR 84), some (vI y), some (vI (i : Int))] [] by
        have h0 := hlp 0 (Nat.zero_le _)
        rw [fil_0] at h0
        exact h0
      refine g_for (fun i : Nat => gT l γ μX11_shire 7 0 0 _ _ KK ρ (fil m2 98 i 0) 79 [some (vR 84), some (vI y), some (vI (i : Int))] []) 35 ?_ (fun i hi ihi => ?_)
      · skip
        refine tz_iload2 (n := 80) (g_at ck_X11_shire 47 rfl) rfl ?_
        refine tz_bipush (n := 82) (g_at ck_X11_shire 48 rfl) rfl rfl ?_
        refine tz_icmp_ge (n := 85) (tgt := 98) (g_at ck_X11_shire 49 rfl) rfl rfl (by omega) (fun h82 => ?_) (fun h82 => absurd h82 (by omega))
        refine tz_aload0 (n := 99) (g_at ck_X11_shire 57 rfl) rfl (g_ne kd_84) ?_
        refine tz_iconst (n := 100) (g_at ck_X11_shire 58 rfl) rfl ?_
        refine tz_putIr (n := 103) (kz := 28) fk_X11_201 kd_84 (g_at ck_X11_shire 59 rfl) rfl (hR2.fil (by decide)) ⟨(by decide), (by decide)⟩ rfl (fun hR14 => ?_)
        obtain ⟨m4, e4⟩ : ∃ m4, m4 = wr (fil m2 98 35 0) 84 28 0 := ⟨_, rfl⟩
        rw [← e4] at hR14 ⊢
        have hF4 : Fr [98] m2 (fil m2 98 35 0) := Fr.rf.fil (by decide)
        have hX24 : FX [84, 98] [28] m2 m4 := by rw [e4]; exact ((FX.l (ks := [28]) hF4 (by decide)).sub (by decide) (by decide)).w (by decide) (fun _ => by decide)
        have hX4 : FX [84, 92, 93, 94, 95, 96, 97, 98, 99, 100, 101, 102] [0, 12, 13, 14, 16, 17, 18, 19, 20, 21, 22, 24, 25, 26, 27, 28, 29, 30, 31, 32] m m4 := ((hU0.sub (by decide) (by decide)).tr (hX2.sub (by decide) (by decide))).tr (hX24.sub (by decide) (by decide))
        have h4f : m4 84 28 = 0 ∧ m4 84 16 = y ∧ m4 84 17 = 0 ∧ m4 84 13 = 0 ∧ m4 84 14 = -1 ∧ m4 84 24 = 0 ∧ m4 84 25 = 0 ∧ m4 84 26 = -1 ∧ m4 84 27 = -1 := ⟨by rw [e4, wr_same], by rw [hX24.2 16 (by decide)]; exact h2f.1.2.2.2, by rw [hX24.2 17 (by decide)]; exact h2f.2.1, by rw [hX24.2 13 (by decide)]; exact h2f.1.2.2.1, by rw [hX24.2 14 (by decide)]; exact h2f.1.2.1, by rw [hX24.2 24 (by decide)]; exact h2f.2.2.1, by rw [hX24.2 25 (by decide)]; exact h2f.2.2.2.1, by rw [hX24.2 26 (by decide)]; exact h2f.2.2.2.2.1, by rw [hX24.2 27 (by decide)]; exact h2f.2.2.2.2.2⟩
        have h4a : ∀ a, a ∉ [(84 : Int), 98] → m4 a = m a := fun a ha => by rw [hX24.1 a ha, hX2.1 a (fun h9 => ha (by simp at h9; simp [h9])), hU0.1 a (fun h9 => ha (by simp at h9; simp [h9]))]
        have hT4 : ∀ j, 0 ≤ j → j < y → m4 91 j = t j := fun j j1 j2 => by rw [h4a 91 (by decide)]; exact hT.2 j j1 (by omega)
        have h4r : ∀ k, 0 ≤ k → k < 35 → m4 98 k = 0 := fun k k1 k2 => by rw [e4, wr_ne (by decide)]; exact fil_at (by omega)
        have h412 : m4 84 12 = 0 := by rw [hX24.2 12 (by decide)]; exact h2f.1.1
        have h4z : m4 84 0 = 0 := by rw [hX24.2 0 (by decide), hX2.2 0 (by decide)]; exact h00
        refine tz_aload0 (n := 104) (g_at ck_X11_shire 60 rfl) rfl (g_ne kd_84) ?_
        refine tz_cvV0 (n := 107) (μ' := μX11_goes) (cb' := 0) (sb' := 0) ml_X11_195 mo_X11_goes mv_X11_goes np_X11_goes kd_84 (g_at ck_X11_shire 61 rfl) (mp_goes hL hR14 hB (show 0 ≤ y ∧ y ≤ 700 by omega) (show 0 ≤ (0 : Int) ∧ (0 : Int) ≤ y by omega) h4f.2.1 hT4 h4f.2.2.1) rfl rfl rfl ⟨by decide, by decide⟩ (Nat.le_of_ble_eq_true rfl) (by decide) (by decide) (fun ρ9 m104 hq => ?_)
        obtain ⟨w104, rfl, hR15, hX104, hK104⟩ := hq
        have hq104 : q23 ρ (wr ρ 84 23 w104) := q23.w
        have hL := hL.k23 hq104
        have hG104 : GS (wr ρ 84 23 w104) m104 t y (lN9 t y sp z0 0).1 := ⟨hR15, hL, hK104.1, hK104.2.1, Or.inl ⟨hz1, by show MTk _ _ t y (sP z0.1); rw [hz2]; exact hK104, by show 0 ≤ sP z0.1 ∧ sP z0.1 ≤ y; rw [hz2]; omega, (hX104.2 13 (by decide)).trans h4f.2.2.2.1, (hX104.2 14 (by decide)).trans h4f.2.2.2.2.1⟩⟩
        have hX104b : FX [84, 93, 94, 95, 96, 97, 98, 99, 100, 101, 102] [13, 14, 17, 18, 19, 20, 21, 22, 24, 25, 26, 27, 28, 29, 30, 31, 32] m4 m104 := hX104.sub (by decide) (by decide)
        have h1104 : ∀ i, 0 ≤ i → i < 9 → m104 101 i = 0 ∨ m104 101 i = 1 := by rw [hX104.1 101 (by decide), h4a 101 (by decide)]; exact h101
        have hK0 : (lN9 t y sp z0 0).1.1 = 1 → LK m104 t y sp ((0 : Nat) : Int) (lN9 t y sp z0 0) := fun _ => by show LK m104 t y sp 0 z0; refine ⟨⟨?_, by rw [hz3]; exact WN_0⟩, ⟨by rw [hz4]; exact Or.inl ⟨(hX104.2 26 (by decide)).trans h4f.2.2.2.2.2.2.2.1, rfl⟩, by rw [hz5]; exact Or.inl ⟨(hX104.2 27 (by decide)).trans h4f.2.2.2.2.2.2.2.2, rfl⟩⟩, by rw [hX104.2 28 (by decide), h4f.1, hz2]; decide, by rw [hz2]; exact Int.le_refl _⟩; rw [hz3]; exact ⟨⟨(hX104.2 24 (by decide)).trans h4f.2.2.2.2.2.1, (hX104.2 25 (by decide)).trans h4f.2.2.2.2.2.2.1⟩, fun c h1 h2 => absurd h2 (by show ¬ c < 0; omega), fun c r h1 h2 => absurd h2 (by show ¬ c < 0; omega), fun p h1 h2 => absurd h2 (by show ¬ p < 0; omega), fun k k1 k2 => by rw [hX104.1 98 (by decide)]; exact h4r k k1 k2, fun c c1 c2 => bit_z ⟨c1, c2⟩⟩
        refine g_cut (T := ∀ ρ3 m3 : Mm, (q23 ρ ρ3 ∧ MR m3 ∧ GS ρ3 m3 t y zF.1 ∧ (zF.1.1 = 1 → LK m3 t y sp 0 zF) ∧ FX [84, 93, 94, 95, 96, 97, 98, 99, 100, 101, 102] [13, 14, 17, 18, 19, 20, 21, 22, 24, 25, 26, 27, 28, 29, 30, 31, 32] m4 m3 ∧ ∀ i, 0 ≤ i → i < 9 → m3 101 i = 0 ∨ m3 101 i = 1) → gT l γ μX11_shire 7 0 0 (rI KK fun x ρ9 m9 => q23 ρ ρ9 ∧ MR m9 ∧ m9 84 0 = cS y tn ∧ (cS y tn ≠ 0 → FX [84] [0] m m9) ∧ (cS y tn = 0 → m9 84 12 = 0 ∧ (∀ i, 0 ≤ i → i < 9 → m9 101 i = 0 ∨ m9 101 i = 1) ∧ (zF.1.1 = 0 → x = sF zF.1 ∧ x ≠ 0 ∧ m9 84 14 = sW zF.1 ∧ m9 92 = up (m 92) 0 (m 92 0 + 1) ∧ FX [84, 92, 93, 94, 95, 96, 97, 98, 99, 100, 101, 102] [0, 12, 13, 14, 16, 17, 18, 19, 20, 21, 22, 24, 25, 26, 27, 28, 29, 30, 31, 32] m m9) ∧ (zF.1.1 = 1 → x = 0 ∧ m9 84 14 = -1 ∧ MLand m9 zF.2.1 (zF.2.2 (sp + 6)) (zF.2.2 (sp + 9)) ∧ WN zF.2.1 ∧ MRow m9 (zF.2.1 6) ∧ m9 84 45 = 0 ∧ m9 84 58 = 0 ∧ m9 84 63 = 0 ∧ ((zF.2.2 (sp + 6)).length ≤ 700 ∧ (zF.2.2 (sp + 9)).length ≤ 700) ∧ m9 92 = m 92 ∧ FX [84, 85, 86, 87, 88, 89, 90, 92, 93, 94, 95, 96, 97, 98, 99, 100, 101, 102, 103] [0, 1, 2, 3, 4, 12, 13, 14, 16, 17, 18, 19, 20, 21, 22, 24, 25, 26, 27, 28, 29, 30, 31, 32, 45, 58, 63] m m9))) xN KK ρ3 m3 128 [some (vR 84), none, none] []) (fun hj128 => ?_) ?_
        · skip
          refine g_for (fun i : Nat => ∀ ρ1 m1 : Mm, (q23 ρ ρ1 ∧ MR m1 ∧ GS ρ1 m1 t y (lN9 t y sp z0 i).1 ∧ ((lN9 t y sp z0 i).1.1 = 1 → LK m1 t y sp (i : Int) (lN9 t y sp z0 i)) ∧ FX [84, 93, 94, 95, 96, 97, 98, 99, 100, 101, 102] [13, 14, 17, 18, 19, 20, 21, 22, 24, 25, 26, 27, 28, 29, 30, 31, 32] m4 m1 ∧ ∀ i, 0 ≤ i → i < 9 → m1 101 i = 0 ∨ m1 101 i = 1) → gT l γ μX11_shire 7 0 0 _ _ KK ρ1 m1 107 [some (vR 84), some (vI y), some (vI ((35 : Nat) : Int))] []) 700 ?_ (fun i hi ihi => ?_) 0 (Nat.zero_le _) _ _ ⟨hq104, hR15, hG104, hK0, hX104b, h1104⟩
          · intro ρ1 m1 hinv
            obtain ⟨hq1, hR1, hG1, hK1, hX1, h11⟩ := hinv
            rw [hzF] at hG1 hK1
            have hL := hG1.2.1
            have hbb := hG1.b
            have hgd1 := gd9_1 (m1 84 13)
            have hend : zF.1.1 = 1 → tK t y (sP zF.1) = 0 := fun h9 => end_n (t := t) (n := y) hB (hG1.g h9).2.1 (by have h8 := (hK1 h9).2.2.2; omega)
            refine tz_aload0 (n := 108) (g_at ck_X11_shire 62 rfl) rfl (g_ne kd_84) ?_
            refine tz_cvI0 (n := 111) (μ' := μX11_isGood) (cb' := 0) (sb' := 0) ml_X11_191 mo_X11_isGood mv_X11_isGood np_X11_isGood kd_84 (g_at ck_X11_shire 63 rfl) (mp_isGood hR1) rfl rfl rfl ⟨by decide, by decide⟩ (Nat.le_of_ble_eq_true rfl) (by decide) (by decide) (fun x108 ρ9 m108 hq => ?_)
            obtain ⟨rfl, hR16, rfl, rfl⟩ := hq
            refine tz_if_eq (n := 114) (tgt := 128) (g_at ck_X11_shire 64 rfl) rfl rfl (by omega) (fun h111 => ?_) (fun h111 => ?_)
            · skip
              refine tz_drop1 ?_
              refine tz_drop2 ?_
              exact hj128 _ _ ⟨hq1, hR16, hG1, fun h9 => by have h8 := hK1 h9; exact ⟨h8.1, h8.2.1, h8.2.2.1, by have h7 := h8.2.2.2; omega⟩, hX1, h11⟩
            · skip
              have hg1 : zF.1.1 = 1 := hbb.1.mpr (by omega)
              have hso := so9_1 (tK t y (sP zF.1))
              have hend1 := hend hg1
              refine tz_aload0 (n := 115) (g_at ck_X11_shire 65 rfl) rfl (g_ne kd_84) ?_
              refine tz_getIw (n := 118) (kz := 18) fk_X11_165 kd_84 (g_at ck_X11_shire 66 rfl) rfl rfl ?_
              rw [(hG1.g hg1).1.2.2.2.2.2.1]
              refine tz_if_eq (n := 121) (tgt := 128) (g_at ck_X11_shire 67 rfl) rfl rfl (by omega) (fun h118 => ?_) (fun h118 => absurd h118 (by omega))
              refine tz_drop1 ?_
              refine tz_drop2 ?_
              exact hj128 _ _ ⟨hq1, hR16, hG1, fun h9 => by have h8 := hK1 h9; exact ⟨h8.1, h8.2.1, h8.2.2.1, by have h7 := h8.2.2.2; omega⟩, hX1, h11⟩
          · intro ρ1 m1 hinv
            obtain ⟨hq1, hR1, hG1, hK1, hX1, h11⟩ := hinv
            have hL := hG1.2.1
            have hbb := hG1.b
            have hgd1 := gd9_1 (m1 84 13)
            refine tz_aload0 (n := 108) (g_at ck_X11_shire 62 rfl) rfl (g_ne kd_84) ?_
            refine tz_cvI0 (n := 111) (μ' := μX11_isGood) (cb' := 0) (sb' := 0) ml_X11_191 mo_X11_isGood mv_X11_isGood np_X11_isGood kd_84 (g_at ck_X11_shire 63 rfl) (mp_isGood hR1) rfl rfl rfl ⟨by decide, by decide⟩ (Nat.le_of_ble_eq_true rfl) (by decide) (by decide) (fun x108 ρ9 m108 hq => ?_)
            obtain ⟨rfl, hR17, rfl, rfl⟩ := hq
            refine tz_if_eq (n := 114) (tgt := 128) (g_at ck_X11_shire 64 rfl) rfl rfl (by omega) (fun h111 => ?_) (fun h111 => ?_)
            · skip
              refine tz_drop1 ?_
              refine tz_drop2 ?_
              have e7 := lN_st (t := t) (n := y) (sp := sp) (z := z0) (i := i) (fun h9 => by have h8 := hbb.1.mp h9.1; omega) 700 (by omega)
              rw [hzF] at e7
              exact hj128 _ _ ⟨hq1, hR17, by rw [e7]; exact hG1, fun h9 => by rw [e7] at h9 ⊢; have h8 := hK1 h9; exact ⟨h8.1, h8.2.1, h8.2.2.1, by have h7 := h8.2.2.2; omega⟩, hX1, h11⟩
            · skip
              have hg1 : (lN9 t y sp z0 i).1.1 = 1 := hbb.1.mpr (by omega)
              have hso := so9_1 (tK t y (sP (lN9 t y sp z0 i).1))
              refine tz_aload0 (n := 115) (g_at ck_X11_shire 65 rfl) rfl (g_ne kd_84) ?_
              refine tz_getIw (n := 118) (kz := 18) fk_X11_165 kd_84 (g_at ck_X11_shire 66 rfl) rfl rfl ?_
              rw [(hG1.g hg1).1.2.2.2.2.2.1]
              refine tz_if_eq (n := 121) (tgt := 128) (g_at ck_X11_shire 67 rfl) rfl rfl (by omega) (fun h118 => ?_) (fun h118 => ?_)
              · skip
                refine tz_drop1 ?_
                refine tz_drop2 ?_
                have e7 := lN_st (t := t) (n := y) (sp := sp) (z := z0) (i := i) (fun h9 => h9.2 (hso.2.2.1.mp h118)) 700 (by omega)
                rw [hzF] at e7
                exact hj128 _ _ ⟨hq1, hR17, by rw [e7]; exact hG1, fun h9 => by rw [e7] at h9 ⊢; have h8 := hK1 h9; exact ⟨h8.1, h8.2.1, h8.2.2.1, by have h7 := h8.2.2.2; omega⟩, hX1, h11⟩
              · skip
                have hk0 : tK t y (sP (lN9 t y sp z0 i).1) ≠ 0 := fun h9 => h118 (hso.2.2.1.mpr h9)
                refine tz_aload0 (n := 122) (g_at ck_X11_shire 68 rfl) rfl (g_ne kd_84) ?_
                refine tz_cvV0 (n := 125) (μ' := μX11_line) (cb' := 0) (sb' := 0) ml_X11_299 mo_X11_line mv_X11_line np_X11_line kd_84 (g_at ck_X11_shire 69 rfl) (mp_line (s := (lN9 t y sp z0 i).1) (ν := (lN9 t y sp z0 i).2.1) (Q := (lN9 t y sp z0 i).2.2) (sp := sp) hB (show 0 ≤ y ∧ y ≤ 700 by omega) hG1 hg1 (hK1 hg1).1.1 (hK1 hg1).1.2 (hK1 hg1).2.1.1 (hK1 hg1).2.1.2 (hK1 hg1).2.2.1 h11) rfl rfl rfl ⟨by decide, by decide⟩ (Nat.le_of_ble_eq_true rfl) (by decide) (by decide) (fun ρ9 m122 hq => ?_)
                obtain ⟨hq122, hR18, hG122, hK122, hX122, h1122⟩ := hq
                refine tz_goto (tgt := 107) (g_at ck_X11_shire 70 rfl) rfl ?_
                have e9 : lN9 t y sp z0 (i + 1) = ln9 t y sp (lN9 t y sp z0 i) := if_pos ⟨hg1, hk0⟩
                exact ihi _ _ ⟨hq1.tr hq122, hR18, by rw [e9]; exact hG122, fun h9 => by rw [e9] at h9 ⊢; have h8 := hK122 h9; exact ⟨h8.1, h8.2.1, h8.2.2.1, by have h7 : sP (lN9 t y sp z0 i).1 < sP (ln9 t y sp (lN9 t y sp z0 i)).1 := h8.2.2.2; have h6 := (hK1 hg1).2.2.2; omega⟩, hX1.tr (hX122.sub (by decide) (by decide)), h1122⟩
        · intro ρ3 m3 hinv
          obtain ⟨hq3, hR3, hG3, hK3, hX3, h13⟩ := hinv
          have hL := hG3.2.1
          have hbb := hG3.b
          have hgd3 := gd9_1 (m3 84 13)
          have hX3f : FX [84, 92, 93, 94, 95, 96, 97, 98, 99, 100, 101, 102] [0, 12, 13, 14, 16, 17, 18, 19, 20, 21, 22, 24, 25, 26, 27, 28, 29, 30, 31, 32] m m3 := hX4.tr (hX3.sub (by decide) (by decide))
          have h3z : m3 84 0 = 0 := (hX3.2 0 (by decide)).trans h4z
          have h312 : m3 84 12 = 0 := (hX3.2 12 (by decide)).trans h412
          have h392 : m3 92 = m 92 := (hX3.1 92 (by decide)).trans (h4a 92 (by decide))
          refine tz_aload0 (n := 129) (g_at ck_X11_shire 71 rfl) rfl (g_ne kd_84) ?_
          refine tz_cvI0 (n := 132) (μ' := μX11_isGood) (cb' := 0) (sb' := 0) ml_X11_191 mo_X11_isGood mv_X11_isGood np_X11_isGood kd_84 (g_at ck_X11_shire 72 rfl) (mp_isGood hR3) rfl rfl rfl ⟨by decide, by decide⟩ (Nat.le_of_ble_eq_true rfl) (by decide) (by decide) (fun x129 ρ9 m129 hq => ?_)
          obtain ⟨rfl, hR19, rfl, rfl⟩ := hq
          refine tz_if_ne (n := 135) (tgt := 150) (g_at ck_X11_shire 73 rfl) rfl rfl (by omega) (fun h132 => ?_) (fun h132 => ?_)
          · skip
            have hg3 : zF.1.1 = 1 := hbb.1.mpr (by omega)
            have kk := hK3 hg3
            have hgp := (hG3.g hg3).2.1
            have kk2 := kk.2.2.1
            refine tz_aload0 (n := 151) (g_at ck_X11_shire 85 rfl) rfl (g_ne kd_84) ?_
            refine tz_aload0 (n := 152) (g_at ck_X11_shire 86 rfl) rfl (g_ne kd_84) ?_
            refine tz_getIw (n := 155) (kz := 24) fk_X11_254 kd_84 (g_at ck_X11_shire 87 rfl) rfl rfl ?_
            refine tz_putIr (n := 158) (kz := 1) fk_X11_302 kd_84 (g_at ck_X11_shire 88 rfl) rfl hR19 (hR3 84 24) rfl (fun hR20 => ?_)
            refine tz_aload0 (n := 159) (g_at ck_X11_shire 89 rfl) rfl (g_ne kd_84) ?_
            refine tz_aload0 (n := 160) (g_at ck_X11_shire 90 rfl) rfl (g_ne kd_84) ?_
            refine tz_getIw (n := 163) (kz := 25) fk_X11_264 kd_84 (g_at ck_X11_shire 91 rfl) rfl rfl ?_
            refine tz_putIr (n := 166) (kz := 2) fk_X11_305 kd_84 (g_at ck_X11_shire 92 rfl) rfl hR20 (hR3 84 25) rfl (fun hR21 => ?_)
            refine tz_aload0 (n := 167) (g_at ck_X11_shire 93 rfl) rfl (g_ne kd_84) ?_
            refine tz_aload0 (n := 168) (g_at ck_X11_shire 94 rfl) rfl (g_ne kd_84) ?_
            refine tz_getIw (n := 171) (kz := 26) fk_X11_283 kd_84 (g_at ck_X11_shire 95 rfl) rfl rfl ?_
            refine tz_putIr (n := 174) (kz := 3) fk_X11_9 kd_84 (g_at ck_X11_shire 96 rfl) rfl hR21 (hR3 84 26) rfl (fun hR22 => ?_)
            refine tz_aload0 (n := 175) (g_at ck_X11_shire 97 rfl) rfl (g_ne kd_84) ?_
            refine tz_aload0 (n := 176) (g_at ck_X11_shire 98 rfl) rfl (g_ne kd_84) ?_
            refine tz_getIw (n := 179) (kz := 27) fk_X11_289 kd_84 (g_at ck_X11_shire 99 rfl) rfl rfl ?_
            refine tz_putIr (n := 182) (kz := 4) fk_X11_13 kd_84 (g_at ck_X11_shire 100 rfl) rfl hR22 (hR3 84 27) rfl (fun hR23 => ?_)
            obtain ⟨m5, e5⟩ : ∃ m5, m5 = wr (wr (wr (wr m3 84 1 (m3 84 24)) 84 2 ((wr m3 84 1 (m3 84 24)) 84 25)) 84 3 ((wr (wr m3 84 1 (m3 84 24)) 84 2 ((wr m3 84 1 (m3 84 24)) 84 25)) 84 26)) 84 4 ((wr (wr (wr m3 84 1 (m3 84 24)) 84 2 ((wr m3 84 1 (m3 84 24)) 84 25)) 84 3 ((wr (wr m3 84 1 (m3 84 24)) 84 2 ((wr m3 84 1 (m3 84 24)) 84 25)) 84 26)) 84 27) := ⟨_, rfl⟩
            rw [← e5] at hR23 ⊢
            have h5x : FX [84] [1, 2, 3, 4] m3 m5 := by rw [e5]; exact ((((FX.rf.w (by decide) (fun _ => by decide)).w (by decide) (fun _ => by decide)).w (by decide) (fun _ => by decide)).w (by decide) (fun _ => by decide))
            have h5f : m5 84 1 = m3 84 24 ∧ m5 84 2 = m3 84 25 ∧ m5 84 3 = m3 84 26 ∧ m5 84 4 = m3 84 27 := by rw [e5]; refine ⟨?_, ?_, ?_, ?_⟩ <;> simp [wr]
            refine tz_aload0 (n := 183) (g_at ck_X11_shire 101 rfl) rfl (g_ne kd_84) ?_
            refine tz_aload0 (n := 184) (g_at ck_X11_shire 102 rfl) rfl (g_ne kd_84) ?_
            refine tz_getAv (n := 187) (a := 93) fk_X11_44 kd_84 (ly_84_33 hL) (g_at ck_X11_shire 103 rfl) rfl ?_
            refine tz_aload0 (n := 188) (g_at ck_X11_shire 104 rfl) rfl (g_ne kd_84) ?_
            refine tz_getAv (n := 191) (a := 85) fk_X11_16 kd_84 (ly_84_5 hL) (g_at ck_X11_shire 105 rfl) rfl ?_
            refine tz_cvV2 (n := 194) (μ' := μX11_copies) (cb' := 0) (sb' := 0) ml_X11_308 mo_X11_copies mv_X11_copies np_X11_copies kd_84 (g_at ck_X11_shire 106 rfl) (mp_copies93 hL hR23) rfl rfl rfl ⟨by decide, by decide⟩ (Nat.le_of_ble_eq_true rfl) (by decide) (by decide) (fun ρ9 m191 hq => ?_)
            obtain ⟨rfl, hR24, hC191, hF191⟩ := hq
            refine tz_aload0 (n := 195) (g_at ck_X11_shire 107 rfl) rfl (g_ne kd_84) ?_
            refine tz_aload0 (n := 196) (g_at ck_X11_shire 108 rfl) rfl (g_ne kd_84) ?_
            refine tz_getAv (n := 199) (a := 94) fk_X11_47 kd_84 (ly_84_34 hL) (g_at ck_X11_shire 109 rfl) rfl ?_
            refine tz_aload0 (n := 200) (g_at ck_X11_shire 110 rfl) rfl (g_ne kd_84) ?_
            refine tz_getAv (n := 203) (a := 86) fk_X11_20 kd_84 (ly_84_6 hL) (g_at ck_X11_shire 111 rfl) rfl ?_
            refine tz_cvV2 (n := 206) (μ' := μX11_copies) (cb' := 0) (sb' := 0) ml_X11_308 mo_X11_copies mv_X11_copies np_X11_copies kd_84 (g_at ck_X11_shire 112 rfl) (mp_copies94 hL hR24) rfl rfl rfl ⟨by decide, by decide⟩ (Nat.le_of_ble_eq_true rfl) (by decide) (by decide) (fun ρ9 m203 hq => ?_)
            obtain ⟨rfl, hR25, hC203, hF203⟩ := hq
            refine tz_aload0 (n := 207) (g_at ck_X11_shire 113 rfl) rfl (g_ne kd_84) ?_
            refine tz_aload0 (n := 208) (g_at ck_X11_shire 114 rfl) rfl (g_ne kd_84) ?_
            refine tz_getAv (n := 211) (a := 95) fk_X11_50 kd_84 (ly_84_35 hL) (g_at ck_X11_shire 115 rfl) rfl ?_
            refine tz_aload0 (n := 212) (g_at ck_X11_shire 116 rfl) rfl (g_ne kd_84) ?_
            refine tz_getAv (n := 215) (a := 87) fk_X11_23 kd_84 (ly_84_7 hL) (g_at ck_X11_shire 117 rfl) rfl ?_
            refine tz_cvV2 (n := 218) (μ' := μX11_copies) (cb' := 0) (sb' := 0) ml_X11_308 mo_X11_copies mv_X11_copies np_X11_copies kd_84 (g_at ck_X11_shire 118 rfl) (mp_copies95 hL hR25) rfl rfl rfl ⟨by decide, by decide⟩ (Nat.le_of_ble_eq_true rfl) (by decide) (by decide) (fun ρ9 m215 hq => ?_)
            obtain ⟨rfl, hR26, hC215, hF215⟩ := hq
            refine tz_aload0 (n := 219) (g_at ck_X11_shire 119 rfl) rfl (g_ne kd_84) ?_
            refine tz_aload0 (n := 220) (g_at ck_X11_shire 120 rfl) rfl (g_ne kd_84) ?_
            refine tz_getAv (n := 223) (a := 96) fk_X11_53 kd_84 (ly_84_36 hL) (g_at ck_X11_shire 121 rfl) rfl ?_
            refine tz_aload0 (n := 224) (g_at ck_X11_shire 122 rfl) rfl (g_ne kd_84) ?_
            refine tz_getAv (n := 227) (a := 88) fk_X11_26 kd_84 (ly_84_8 hL) (g_at ck_X11_shire 123 rfl) rfl ?_
            refine tz_cvV2 (n := 230) (μ' := μX11_copies) (cb' := 0) (sb' := 0) ml_X11_308 mo_X11_copies mv_X11_copies np_X11_copies kd_84 (g_at ck_X11_shire 124 rfl) (mp_copies96 hL hR26) rfl rfl rfl ⟨by decide, by decide⟩ (Nat.le_of_ble_eq_true rfl) (by decide) (by decide) (fun ρ9 m227 hq => ?_)
            obtain ⟨rfl, hR27, hC227, hF227⟩ := hq
            refine tz_aload0 (n := 231) (g_at ck_X11_shire 125 rfl) rfl (g_ne kd_84) ?_
            refine tz_aload0 (n := 232) (g_at ck_X11_shire 126 rfl) rfl (g_ne kd_84) ?_
            refine tz_getAv (n := 235) (a := 97) fk_X11_56 kd_84 (ly_84_37 hL) (g_at ck_X11_shire 127 rfl) rfl ?_
            refine tz_aload0 (n := 236) (g_at ck_X11_shire 128 rfl) rfl (g_ne kd_84) ?_
            refine tz_getAv (n := 239) (a := 89) fk_X11_29 kd_84 (ly_84_9 hL) (g_at ck_X11_shire 129 rfl) rfl ?_
            refine tz_cvV2 (n := 242) (μ' := μX11_copies) (cb' := 0) (sb' := 0) ml_X11_308 mo_X11_copies mv_X11_copies np_X11_copies kd_84 (g_at ck_X11_shire 130 rfl) (mp_copies97 hL hR27) rfl rfl rfl ⟨by decide, by decide⟩ (Nat.le_of_ble_eq_true rfl) (by decide) (by decide) (fun ρ9 m239 hq => ?_)
            obtain ⟨rfl, hR28, hC239, hF239⟩ := hq
            refine tz_aload0 (n := 243) (g_at ck_X11_shire 131 rfl) rfl (g_ne kd_84) ?_
            refine tz_aload0 (n := 244) (g_at ck_X11_shire 132 rfl) rfl (g_ne kd_84) ?_
            refine tz_getAv (n := 247) (a := 99) fk_X11_62 kd_84 (ly_84_39 hL) (g_at ck_X11_shire 133 rfl) rfl ?_
            refine tz_aload0 (n := 248) (g_at ck_X11_shire 134 rfl) rfl (g_ne kd_84) ?_
            refine tz_getAv (n := 251) (a := 90) fk_X11_32 kd_84 (ly_84_10 hL) (g_at ck_X11_shire 135 rfl) rfl ?_
            refine tz_cvV2 (n := 254) (μ' := μX11_copies) (cb' := 0) (sb' := 0) ml_X11_308 mo_X11_copies mv_X11_copies np_X11_copies kd_84 (g_at ck_X11_shire 136 rfl) (mp_copies99 hL hR28) rfl rfl rfl ⟨by decide, by decide⟩ (Nat.le_of_ble_eq_true rfl) (by decide) (by decide) (fun ρ9 m251 hq => ?_)
            obtain ⟨rfl, hR29, hC251, hF251⟩ := hq
            refine tz_iconst (n := 255) (g_at ck_X11_shire 137 rfl) rfl ?_
            refine tz_istore2 (n := 256) (g_at ck_X11_shire 138 rfl) rfl (by decide) g_hpN ?_
            refine g_for (fun i : Nat => ∀ m6 : Mm, (MR m6 ∧ Fr [103] m251 m6 ∧ ∀ k, 0 ≤ k → k < (i : Int) → m6 103 k = zF.2.1 6 k) → gT l γ μX11_shire 7 0 0 _ _ KK ρ3 m6 256 [some (vR 84), none, some (vI (i : Int))] []) 35 ?_ (fun i hi ihi => ?_) 0 (Nat.zero_le _) _ ⟨hR29, Fr.rf, fun k h8 h9 => absurd h9 (by omega)⟩
            · intro m6 hinv
              obtain ⟨hR6, hF6, hK6⟩ := hinv
              refine tz_iload2 (n := 257) (g_at ck_X11_shire 139 rfl) rfl ?_
              refine tz_bipush (n := 259) (g_at ck_X11_shire 140 rfl) rfl rfl ?_
              refine tz_icmp_ge (n := 262) (tgt := 280) (g_at ck_X11_shire 141 rfl) rfl rfl (by omega) (fun h259 => ?_) (fun h259 => absurd h259 (by omega))
              refine tz_aload0 (n := 281) (g_at ck_X11_shire 152 rfl) rfl (g_ne kd_84) ?_
              refine tz_iconst (n := 282) (g_at ck_X11_shire 153 rfl) rfl ?_
              refine tz_putIr (n := 285) (kz := 45) fk_X11_312 kd_84 (g_at ck_X11_shire 154 rfl) rfl hR6 ⟨(by decide), (by decide)⟩ rfl (fun hR30 => ?_)
              refine tz_aload0 (n := 286) (g_at ck_X11_shire 155 rfl) rfl (g_ne kd_84) ?_
              refine tz_iconst (n := 287) (g_at ck_X11_shire 156 rfl) rfl ?_
              refine tz_putIr (n := 290) (kz := 58) fk_X11_315 kd_84 (g_at ck_X11_shire 157 rfl) rfl hR30 ⟨(by decide), (by decide)⟩ rfl (fun hR31 => ?_)
              refine tz_aload0 (n := 291) (g_at ck_X11_shire 158 rfl) rfl (g_ne kd_84) ?_
              refine tz_iconst (n := 292) (g_at ck_X11_shire 159 rfl) rfl ?_
              refine tz_putZr (n := 295) (kz := 63) fk_X11_318 kd_84 (g_at ck_X11_shire 160 rfl) rfl hR31 (by omega) rfl (fun hR32 => ?_)
              have h84 : ∀ k, k ≠ 45 → k ≠ 58 → k ≠ 63 → (wr (wr (wr m6 84 45 0) 84 58 0) 84 63 0) 84 k = m5 84 k := fun k k1 k2 k3 => by rw [wr_at, if_neg k3, wr_at, if_neg k2, wr_at, if_neg k1, hF6 84 (by decide), hF251 84 (by decide), hF239 84 (by decide), hF227 84 (by decide), hF215 84 (by decide), hF203 84 (by decide), hF191 84 (by decide)]
              have hfz : ∀ k, k ∉ [(1 : Int), 2, 3, 4, 45, 58, 63] → (wr (wr (wr m6 84 45 0) 84 58 0) 84 63 0) 84 k = m3 84 k := fun k hk => by rw [h84 k (fun h9 => hk (by simp [h9])) (fun h9 => hk (by simp [h9])) (fun h9 => hk (by simp [h9]))]; exact h5x.2 k (fun h9 => hk (by simp at h9; simp; omega))
              have hfa : ∀ a, a ∉ [(84 : Int), 85, 86, 87, 88, 89, 90, 103] → (wr (wr (wr m6 84 45 0) 84 58 0) 84 63 0) a = m3 a := fun a ha => by simp at ha; rw [wr_ne (by omega), wr_ne (by omega), wr_ne (by omega), hF6 a (by simp; omega), hF251 a (by simp; omega), hF239 a (by simp; omega), hF227 a (by simp; omega), hF215 a (by simp; omega), hF203 a (by simp; omega), hF191 a (by simp; omega)]; exact h5x.1 a (by simp; omega)
              have q85 : ∀ j, 0 ≤ j → j < 9 → (wr (wr (wr m6 84 45 0) 84 58 0) 84 63 0) 85 j = m3 93 j := fun j j1 j2 => by rw [wr_ne (by decide), wr_ne (by decide), wr_ne (by decide), hF6 85 (by decide), hF251 85 (by decide), hF239 85 (by decide), hF227 85 (by decide), hF215 85 (by decide), hF203 85 (by decide), hC191 j j1 j2, h5x.1 93 (by decide)]
              have q86 : ∀ j, 0 ≤ j → j < 9 → (wr (wr (wr m6 84 45 0) 84 58 0) 84 63 0) 86 j = m3 94 j := fun j j1 j2 => by rw [wr_ne (by decide), wr_ne (by decide), wr_ne (by decide), hF6 86 (by decide), hF251 86 (by decide), hF239 86 (by decide), hF227 86 (by decide), hF215 86 (by decide), hC203 j j1 j2, hF191 94 (by decide), h5x.1 94 (by decide)]
              have q87 : ∀ j, 0 ≤ j → j < 9 → (wr (wr (wr m6 84 45 0) 84 58 0) 84 63 0) 87 j = m3 95 j := fun j j1 j2 => by rw [wr_ne (by decide), wr_ne (by decide), wr_ne (by decide), hF6 87 (by decide), hF251 87 (by decide), hF239 87 (by decide), hF227 87 (by decide), hC215 j j1 j2, hF203 95 (by decide), hF191 95 (by decide), h5x.1 95 (by decide)]
              have q88 : ∀ j, 0 ≤ j → j < 45 → (wr (wr (wr m6 84 45 0) 84 58 0) 84 63 0) 88 j = m3 96 j := fun j j1 j2 => by rw [wr_ne (by decide), wr_ne (by decide), wr_ne (by decide), hF6 88 (by decide), hF251 88 (by decide), hF239 88 (by decide), hC227 j j1 j2, hF215 96 (by decide), hF203 96 (by decide), hF191 96 (by decide), h5x.1 96 (by decide)]
              have q89 : ∀ j, 0 ≤ j → j < 8 → (wr (wr (wr m6 84 45 0) 84 58 0) 84 63 0) 89 j = m3 97 j := fun j j1 j2 => by rw [wr_ne (by decide), wr_ne (by decide), wr_ne (by decide), hF6 89 (by decide), hF251 89 (by decide), hC239 j j1 j2, hF227 97 (by decide), hF215 97 (by decide), hF203 97 (by decide), hF191 97 (by decide), h5x.1 97 (by decide)]
              have q90 : ∀ j, 0 ≤ j → j < 1400 → (wr (wr (wr m6 84 45 0) 84 58 0) 84 63 0) 90 j = m3 99 j := fun j j1 j2 => by rw [wr_ne (by decide), wr_ne (by decide), wr_ne (by decide), hF6 90 (by decide), hC251 j j1 j2, hF239 99 (by decide), hF227 99 (by decide), hF215 99 (by decide), hF203 99 (by decide), hF191 99 (by decide), h5x.1 99 (by decide)]
              have hwn := kk.1.2
              have hn0 := hwn.1
              have hn1 := hwn.2.1
              have hLd : MLand (wr (wr (wr m6 84 45 0) 84 58 0) 84 63 0) zF.2.1 (zF.2.2 (sp + 6)) (zF.2.2 (sp + 9)) := ⟨by rw [h84 1 (by decide) (by decide) (by decide), h5f.1]; exact kk.1.1.1.1, by rw [h84 2 (by decide) (by decide) (by decide), h5f.2.1]; exact kk.1.1.1.2, fun c c1 c2 => by rw [q85 c c1 (by omega), q86 c c1 (by omega), q87 c c1 (by omega)]; have h9 := kk.1.1.2.1 c c1 c2; exact ⟨h9.1, h9.2.1, h9.2.2.1⟩, fun c r c1 c2 r1 r2 => by have h9 := hwn.2.2.2.1 c c1 (by omega); rw [q88 _ (by omega) (by omega)]; exact kk.1.1.2.2.1 c r c1 c2 r1 r2, fun p p1 p2 => by rw [q89 p p1 (by omega)]; exact kk.1.1.2.2.2.1 p p1 p2, by rw [h84 3 (by decide) (by decide) (by decide), h5f.2.2.1]; exact kk.2.1.1.code q90 (by omega), by rw [h84 4 (by decide) (by decide) (by decide), h5f.2.2.2]; exact kk.2.1.2.code q90 (by omega)⟩
              have hle : (zF.2.2 (sp + 6)).length ≤ 700 ∧ (zF.2.2 (sp + 9)).length ≤ 700 := ⟨kk.2.1.1.len, kk.2.1.2.len⟩
              have hXf : FX [84, 85, 86, 87, 88, 89, 90, 92, 93, 94, 95, 96, 97, 98, 99, 100, 101, 102, 103] [0, 1, 2, 3, 4, 12, 13, 14, 16, 17, 18, 19, 20, 21, 22, 24, 25, 26, 27, 28, 29, 30, 31, 32, 45, 58, 63] m (wr (wr (wr m6 84 45 0) 84 58 0) 84 63 0) := ((hX3f.sub (by decide) (by decide)).tr (h5x.sub (by decide) (by decide))).tr ((((FX.l (ks := [0, 1, 2, 3, 4, 12, 13, 14, 16, 17, 18, 19, 20, 21, 22, 24, 25, 26, 27, 28, 29, 30, 31, 32, 45, 58, 63]) ((((((((hF191.sub (show ∀ x ∈ [(85 : Int)], x ∈ [(85 : Int), 86, 87, 88, 89, 90, 103] by decide)).tr (hF203.sub (by decide))).tr (hF215.sub (by decide))).tr (hF227.sub (by decide))).tr (hF239.sub (by decide))).tr (hF251.sub (by decide))).tr (hF6.sub (by decide)))) (by decide)).sub (by decide) (fun _ h9 => h9)).w (by decide) (fun _ => by decide)).w (by decide) (fun _ => by decide) |>.w (by decide) (fun _ => by decide))
              refine tz_iconst (n := 296) (g_at ck_X11_shire 161 rfl) rfl ?_
              exact tz_iret (g_at ck_X11_shire 162 rfl) rfl (rI_mk ⟨hq3, hR32, by rw [hfz 0 (by decide), show cS y tn = 0 from if_pos ⟨by omega, by omega⟩]; exact h3z, fun h9 => absurd (show cS y tn = 0 from if_pos ⟨by omega, by omega⟩) h9, fun _ => ⟨by rw [hfz 12 (by decide)]; exact h312, fun i i1 i2 => by rw [hfa 101 (by decide)]; exact h13 i i1 i2, fun h9 => absurd h9 (by omega), fun _ => ⟨rfl, by rw [hfz 14 (by decide)]; exact (hG3.g hg3).2.2.2, hLd, kk.1.2, fun k k1 k2 => by rw [wr_ne (by decide), wr_ne (by decide), wr_ne (by decide)]; exact hK6 k k1 k2, by simp only [wr_at, Int.reduceEq, if_true, if_false], by simp only [wr_at, Int.reduceEq, if_true, if_false], by simp only [wr_at, Int.reduceEq, if_true, if_false], hle, by rw [hfa 92 (by decide)]; exact h392, hXf⟩⟩⟩)
            · intro m6 hinv
              obtain ⟨hR6, hF6, hK6⟩ := hinv
              have hs6 : m6 98 (i : Int) = zF.2.1 6 (i : Int) := by rw [hF6 98 (by decide), hF251 98 (by decide), hF239 98 (by decide), hF227 98 (by decide), hF215 98 (by decide), hF203 98 (by decide), hF191 98 (by decide), h5x.1 98 (by decide)]; exact kk.1.1.2.2.2.2.1 (i : Int) (by omega) (by omega)
              refine tz_iload2 (n := 257) (g_at ck_X11_shire 139 rfl) rfl ?_
              refine tz_bipush (n := 259) (g_at ck_X11_shire 140 rfl) rfl rfl ?_
              refine tz_icmp_ge (n := 262) (tgt := 280) (g_at ck_X11_shire 141 rfl) rfl rfl (by omega) (fun h259 => absurd h259 (by omega)) (fun h259 => ?_)
              refine tz_aload0 (n := 263) (g_at ck_X11_shire 142 rfl) rfl (g_ne kd_84) ?_
              refine tz_getAv (n := 266) (a := 103) fk_X11_75 kd_84 (ly_84_43 hL) (g_at ck_X11_shire 143 rfl) rfl ?_
              refine tz_iload2 (n := 267) (g_at ck_X11_shire 144 rfl) rfl ?_
              refine tz_aload0 (n := 268) (g_at ck_X11_shire 145 rfl) rfl (g_ne kd_84) ?_
              refine tz_getAv (n := 271) (a := 98) fk_X11_59 kd_84 (ly_84_38 hL) (g_at ck_X11_shire 146 rfl) rfl ?_
              refine tz_iload2 (n := 272) (g_at ck_X11_shire 147 rfl) rfl ?_
              refine tz_iald (n := 273) kd_98 (by omega) (g_at ck_X11_shire 148 rfl) rfl ?_
              refine tz_iastr (n := 274) kd_103 (by omega) (g_at ck_X11_shire 149 rfl) rfl hR6 ⟨(hR6 _ _).1, (hR6 _ _).2⟩ (fun hR33 => ?_)
              refine tz_iinc2 (n := 277) (g_at ck_X11_shire 150 rfl) rfl (by decide) g_hpN ?_
              refine tz_goto (tgt := 256) (g_at ck_X11_shire 151 rfl) rfl ?_
              exact ihi _ ⟨hR33, hF6.wrc, fun k k1 k2 => by rw [wr_at]; by_cases e9 : k = (i : Int); rw [if_pos e9, e9]; exact hs6; rw [if_neg e9]; exact hK6 k k1 (by omega)⟩
          · skip
            have hb3 : zF.1.1 = 0 ∧ m3 84 13 = sF zF.1 ∧ sF zF.1 ≠ 0 ∧ m3 84 14 = sW zF.1 := (hG3.2.2.2.2.resolve_left (fun h9 => by have h8 := h9.2.2.2.1; omega))
            have h92 : m3 92 = m 92 := h392
            have hf92 := hR 92 0
            refine tz_aload0 (n := 136) (g_at ck_X11_shire 74 rfl) rfl (g_ne kd_84) ?_
            refine tz_getAv (n := 139) (a := 92) fk_X11_41 kd_84 (ly_84_15 hL) (g_at ck_X11_shire 75 rfl) rfl ?_
            refine tz_iconst (n := 140) (g_at ck_X11_shire 76 rfl) rfl ?_
            refine tz_dup2 (n := 141) (g_at ck_X11_shire 77 rfl) rfl ?_
            refine tz_iald (n := 142) kd_92 (by omega) (g_at ck_X11_shire 78 rfl) rfl ?_
            rw [h92]
            refine tz_iconst (n := 143) (g_at ck_X11_shire 79 rfl) rfl ?_
            refine tz_iadd (n := 144) (g_at ck_X11_shire 80 rfl) rfl ?_
            refine tz_iastr (n := 145) kd_92 (by omega) (g_at ck_X11_shire 81 rfl) rfl hR19 (by omega) (fun hR34 => ?_)
            refine tz_aload0 (n := 146) (g_at ck_X11_shire 82 rfl) rfl (g_ne kd_84) ?_
            refine tz_getIw (n := 149) (kz := 13) fk_X11_188 kd_84 (g_at ck_X11_shire 83 rfl) rfl rfl ?_
            rw [wr_ne (by decide)]
            exact tz_iret (g_at ck_X11_shire 84 rfl) rfl (rI_mk ⟨hq3, hR34, by rw [wr_ne (by decide), h3z, show cS y tn = 0 from if_pos ⟨by omega, by omega⟩], fun h9 => absurd (show cS y tn = 0 from if_pos ⟨by omega, by omega⟩) h9, fun _ => ⟨by rw [wr_ne (by decide)]; exact h312, fun i i1 i2 => by rw [wr_ne (by decide)]; exact h13 i i1 i2, fun _ => ⟨hb3.2.1, by rw [hb3.2.1]; exact hb3.2.2.1, by rw [wr_ne (by decide)]; exact hb3.2.2.2, by rw [wr_up, h92], hX3f.w (by decide) (fun h9 => absurd h9 (by decide))⟩, fun h9 => absurd h9 (by omega)⟩⟩)
      · skip
        refine tz_iload2 (n := 80) (g_at ck_X11_shire 47 rfl) rfl ?_
        refine tz_bipush (n := 82) (g_at ck_X11_shire 48 rfl) rfl rfl ?_
        refine tz_icmp_ge (n := 85) (tgt := 98) (g_at ck_X11_shire 49 rfl) rfl rfl (by omega) (fun h82 => absurd h82 (by omega)) (fun h82 => ?_)
        refine tz_aload0 (n := 86) (g_at ck_X11_shire 50 rfl) rfl (g_ne kd_84) ?_
        refine tz_getAv (n := 89) (a := 98) fk_X11_59 kd_84 (ly_84_38 hL) (g_at ck_X11_shire 51 rfl) rfl ?_
        refine tz_iload2 (n := 90) (g_at ck_X11_shire 52 rfl) rfl ?_
        refine tz_iconst (n := 91) (g_at ck_X11_shire 53 rfl) rfl ?_
        refine tz_iastr (n := 92) kd_98 (by omega) (g_at ck_X11_shire 54 rfl) rfl (hR2.fil (by decide)) ⟨(by decide), (by decide)⟩ (fun hR35 => ?_)
        refine tz_iinc2 (n := 95) (g_at ck_X11_shire 55 rfl) rfl (by decide) g_hpI ?_
        refine tz_goto (tgt := 79) (g_at ck_X11_shire 56 rfl) rfl ?_
        rw [fil_s]
        exact ihi
