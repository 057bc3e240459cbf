/-! The machine in the reference: parentheses. -/
theorem opn_0 : ∀ S : List Int, 0 ≤ opn S
  | [] => Int.le_refl _
  | x :: S => by
    have := opn_0 S
    show 0 ≤ (if x = 14 then 1 else 0) + opn S
    split <;> omega
theorem dr_0 : ∀ (S W : List Int), okS3 S → (dr 0 W S).2 = [] ∨ ∃ R, (dr 0 W S).2 = 14 :: R
  | [], _, _ => Or.inl rfl
  | x :: S, W, h => by
    have hs := stg_rg x
    by_cases hx : 14 ≤ x ∨ stg x < 0
    · have e : dr 0 W (x :: S) = (W, x :: S) := if_pos hx
      have hx2 := h x List.mem_cons_self
      have hx3 : x = 14 := by omega
      rw [e, hx3]
      exact Or.inr ⟨S, rfl⟩
    · rw [dr_1 hx]
      exact dr_0 S _ h.t
section
variable {ρ ρ9 m m9 : Mm} {t : Int → Int} {n b : Int} {z : MZ}
theorem ZI.po (h : ZI n b z) (g : (zs z).1 = 1) (hk : sP (zs z) + 1 ≤ tQ t n (sP (zs z)) ∧ tQ t n (sP (zs z)) ≤ n) : ZI n b (dpr t n (nxZ t n (psh 14 z))) := by
  obtain ⟨h1, h2, h3, h4, h5, h6⟩ := h
  have k := h6 g
  have o3 : okS3 (14 :: zS z) := fun x hx => by
    rcases List.mem_cons.mp hx with rfl | hx
    · exact Or.inr rfl
    · exact h3 x hx
  have l5 : b + ((zW z).length : Int) + ((14 :: zS z).length : Int) + 2 ≤ 2 * n ∧ ((14 :: zS z).length : Int) ≤ n := by
    rw [List.length_cons]
    omega
  unfold dpr
  by_cases hd : zD (nxZ t n (psh 14 z)) < 6
  · rw [if_pos hd]
    have hd' : zD z < 6 := hd
    refine ⟨h1, show 0 ≤ zD z + 1 ∧ zD z + 1 ≤ 6 by omega, o3, fun i => ?_, l5, fun _ => ?_⟩
    · show up (zT z) (zD z + 1) 0 i = 0 ∨ up (zT z) (zD z + 1) 0 i = 1
      by_cases e : i = zD z + 1
      · rw [e, up_at]; exact Or.inl rfl
      · rw [up_ne e]; exact h4 i
    · show b + ((zW z).length : Int) + ((14 :: zS z).length : Int) + 2 ≤ 2 * tQ t n (sP (zs z)) ∧ ((14 :: zS z).length : Int) ≤ tQ t n (sP (zs z)) ∧ opn (14 :: zS z) = zD z + 1 - 1
      rw [List.length_cons]
      refine ⟨by omega, by omega, ?_⟩
      show (if (14 : Int) = 14 then 1 else 0) + opn (zS z) = zD z + 1 - 1
      rw [if_pos rfl]
      omega
  · rw [if_neg hd]
    exact ⟨h1, h2, o3, h4, l5, fun g => absurd g (by show ¬ (0 : Int) = 1; decide)⟩
theorem ZI.cl (h : ZI n b z) (g : (zs z).1 = 1) (hd : 1 < zD z) (hk : sP (zs z) + 1 ≤ tQ t n (sP (zs z)) ∧ tQ t n (sP (zs z)) ≤ n) : ZI n b (nxZ t n (mz (zs z) (zW (drZ 0 z)) (zS (drZ 0 z)).tail (zD z - 1) (zT z))) ∧ ∃ R, zS (drZ 0 z) = 14 :: R := by
  obtain ⟨h1, h2, h3, h4, h5, h6⟩ := h.drp (v := 0)
  have k := h6 g
  have k2 : opn (zS (drZ 0 z)) = zD z - 1 := k.2.2
  have d0 : zS (drZ 0 z) = [] ∨ ∃ R, zS (drZ 0 z) = 14 :: R := dr_0 (zS z) (zW z) h.2.2.1
  rcases d0 with e | ⟨R, e⟩
  · rw [e] at k2
    have : opn [] = 0 := rfl
    omega
  · refine ⟨?_, R, e⟩
    have o : opn (14 :: R) = 1 + opn R := by show (if (14 : Int) = 14 then 1 else 0) + opn R = _; rw [if_pos rfl]
    have h3' := h3
    rw [e] at k2 h3 h5 k
    rw [o] at k2
    have k1 : b + ((zW (drZ 0 z)).length : Int) + ((14 :: R).length : Int) + 2 ≤ 2 * sP (zs z) ∧ ((14 :: R).length : Int) ≤ sP (zs z) := ⟨k.1, k.2.1⟩
    rw [List.length_cons] at h5 k1
    have h2' : 0 ≤ zD z ∧ zD z ≤ 6 := h2
    refine ⟨h1, show 0 ≤ zD z - 1 ∧ zD z - 1 ≤ 6 by omega, ?_, h4, ?_, fun _ => ?_⟩
    · show okS3 (zS (drZ 0 z)).tail
      rw [e]; exact h3.t
    · show b + ((zW (drZ 0 z)).length : Int) + ((zS (drZ 0 z)).tail.length : Int) + 2 ≤ 2 * n ∧ ((zS (drZ 0 z)).tail.length : Int) ≤ n
      rw [e]
      show b + ((zW (drZ 0 z)).length : Int) + (R.length : Int) + 2 ≤ 2 * n ∧ (R.length : Int) ≤ n
      omega
    · show b + ((zW (drZ 0 z)).length : Int) + ((zS (drZ 0 z)).tail.length : Int) + 2 ≤ 2 * tQ t n (sP (zs z)) ∧ ((zS (drZ 0 z)).tail.length : Int) ≤ tQ t n (sP (zs z)) ∧ opn (zS (drZ 0 z)).tail = zD z - 1 - 1
      rw [e]
      show b + ((zW (drZ 0 z)).length : Int) + (R.length : Int) + 2 ≤ 2 * tQ t n (sP (zs z)) ∧ (R.length : Int) ≤ tQ t n (sP (zs z)) ∧ opn R = zD z - 1 - 1
      omega
theorem ZM.dp (h : ZM ρ m t n b z) (hd : 0 ≤ zD z) (hR : MR (wr (wr m 84 32 (zD z + 1)) 101 (zD z + 1) 0)) : ZM ρ (wr (wr m 84 32 (zD z + 1)) 101 (zD z + 1) 0) t n b (mz (zs z) (zW z) (zS z) (zD z + 1) (up (zT z) (zD z + 1) 0)) := by
  have k : FX [84, 101] [32] m (wr (wr m 84 32 (zD z + 1)) 101 (zD z + 1) 0) := (FX.rf.w (by decide) (fun _ => by decide)).w (by decide) (fun h9 => absurd h9 (by decide))
  refine ⟨h.1.x hR rfl k (by decide) (by decide), h.2.1.x k (by decide) (by decide), h.2.2.1.x k (by decide) (by decide), by rw [wr_ne (by decide), wr_same]; rfl, fun i i1 i2 => ?_, (k.2 29 (by decide)).trans h.2.2.2.2.2.1, (k.2 30 (by decide)).trans h.2.2.2.2.2.2⟩
  rw [wr_at]
  show _ = up (zT z) (zD z + 1) 0 i
  by_cases e : i = zD z + 1
  · rw [if_pos e, e, up_at]
  · rw [if_neg e, up_ne e, wr_ne (by decide)]
    exact h.2.2.2.2.1 i i1 i2
end
theorem mp_deeper {l : Launch} {γ : Gh} {ρ m : Mm} {t : Int → Int} {n b : Int} {z : MZ} (hB : BY t) (hn : 0 ≤ n ∧ n ≤ 700) (hZ : ZM ρ m t n b z) (hg : (zs z).1 = 1) (hd : 0 ≤ zD z ∧ zD z ≤ 6) : gE l γ μX11_deeper 2 0 0 (rV KK fun ρ9 m9 => ρ = ρ9 ∧ MR m9 ∧ ZM ρ9 m9 t n b (dpr t n z) ∧ ZX b m m9) xN KK ρ m [vR 84] := by
  refine gE.ofw cl_X11.2 ?_ rfl rfl (Nat.le_of_ble_eq_true rfl)
  show gT l γ μX11_deeper 2 0 0 _ _ KK ρ m 0 [some (vR 84)] []
  have hG := hZ.1
  have hR := hG.1
  have hL := hG.2.1
  have hgg := hG.g hg
  have hK := hgg.1
  have hr9 := tk_rg (t := t) hB hgg.2.1
  have hso := so9_1 (tK t n (sP (zs z)))
  refine tz_aload0 (n := 1) (g_at ck_X11_deeper 0 rfl) rfl (g_ne kd_84) ?_
  refine tz_getIw (n := 4) (kz := 32) fk_X11_226 kd_84 (g_at ck_X11_deeper 1 rfl) rfl rfl ?_
  rw [hZ.2.2.2.1]
  refine tz_bipush (n := 6) (g_at ck_X11_deeper 2 rfl) rfl rfl ?_
  refine tz_icmp_ge (n := 9) (tgt := 30) (g_at ck_X11_deeper 3 rfl) rfl rfl (by omega) (fun h6 => ?_) (fun h6 => ?_)
  · skip
    refine tz_aload0 (n := 31) (g_at ck_X11_deeper 17 rfl) rfl (g_ne kd_84) ?_
    refine tz_aload0 (n := 32) (g_at ck_X11_deeper 18 rfl) rfl (g_ne kd_84) ?_
    refine tz_getIw (n := 35) (kz := 18) fk_X11_165 kd_84 (g_at ck_X11_deeper 19 rfl) rfl rfl ?_
    rw [hK.2.2.2.2.2.1]
    refine tz_iconst (n := 36) (g_at ck_X11_deeper 20 rfl) rfl ?_
    refine tz_icmp_eq (n := 39) (tgt := 56) (g_at ck_X11_deeper 21 rfl) rfl rfl (by omega) (fun h36 => ?_) (fun h36 => ?_)
    · skip
      refine tz_iconst (n := 57) (g_at ck_X11_deeper 30 rfl) rfl ?_
      refine tz_goto (tgt := 61) (g_at ck_X11_deeper 31 rfl) rfl ?_
      refine tz_cvV1 (n := 64) (μ' := μX11_wrong) (cb' := 0) (sb' := 0) ml_X11_198 mo_X11_wrong mv_X11_wrong np_X11_wrong kd_84 (g_at ck_X11_deeper 33 rfl) (mp_wrong hB hn hG hg (by decide)) rfl rfl rfl ⟨by decide, by decide⟩ (Nat.le_of_ble_eq_true rfl) (by decide) (by decide) (fun ρ9 m61 hq => ?_)
      obtain ⟨rfl, hR1, hG61, hX61⟩ := hq
      exact tz_vret (g_at ck_X11_deeper 34 rfl) rfl (rV_mk ⟨rfl, hR1, by rw [show dpr t n z = flZ t n 2 z by unfold dpr; rw [if_neg (by omega), show cb9 t n (sP (zs z)) = 1 from if_pos (by omega)]; rfl]; exact hZ.s hG61 hX61 (by decide), ZX.x hX61 (by decide) (by decide) (by decide)⟩)
    · skip
      refine tz_aload0 (n := 40) (g_at ck_X11_deeper 22 rfl) rfl (g_ne kd_84) ?_
      refine tz_getIw (n := 43) (kz := 18) fk_X11_165 kd_84 (g_at ck_X11_deeper 23 rfl) rfl rfl ?_
      rw [hK.2.2.2.2.2.1]
      refine tz_iconst (n := 44) (g_at ck_X11_deeper 24 rfl) rfl ?_
      refine tz_icmp_eq (n := 47) (tgt := 56) (g_at ck_X11_deeper 25 rfl) rfl rfl (by omega) (fun h44 => ?_) (fun h44 => ?_)
      · skip
        refine tz_iconst (n := 57) (g_at ck_X11_deeper 30 rfl) rfl ?_
        refine tz_goto (tgt := 61) (g_at ck_X11_deeper 31 rfl) rfl ?_
        refine tz_cvV1 (n := 64) (μ' := μX11_wrong) (cb' := 0) (sb' := 0) ml_X11_198 mo_X11_wrong mv_X11_wrong np_X11_wrong kd_84 (g_at ck_X11_deeper 33 rfl) (mp_wrong hB hn hG hg (by decide)) rfl rfl rfl ⟨by decide, by decide⟩ (Nat.le_of_ble_eq_true rfl) (by decide) (by decide) (fun ρ9 m61 hq => ?_)
        obtain ⟨rfl, hR2, hG61, hX61⟩ := hq
        exact tz_vret (g_at ck_X11_deeper 34 rfl) rfl (rV_mk ⟨rfl, hR2, by rw [show dpr t n z = flZ t n 2 z by unfold dpr; rw [if_neg (by omega), show cb9 t n (sP (zs z)) = 1 from if_pos (by omega)]; rfl]; exact hZ.s hG61 hX61 (by decide), ZX.x hX61 (by decide) (by decide) (by decide)⟩)
      · skip
        refine tz_aload0 (n := 48) (g_at ck_X11_deeper 26 rfl) rfl (g_ne kd_84) ?_
        refine tz_bipush (n := 50) (g_at ck_X11_deeper 27 rfl) rfl rfl ?_
        refine tz_cvI1 (n := 53) (μ' := μX11_isSign) (cb' := 0) (sb' := 0) ml_X11_229 mo_X11_isSign mv_X11_isSign np_X11_isSign kd_84 (g_at ck_X11_deeper 28 rfl) (mp_isSign hB hn hG hg (by decide)) rfl rfl rfl ⟨by decide, by decide⟩ (Nat.le_of_ble_eq_true rfl) (by decide) (by decide) (fun x50 ρ9 m50 hq => ?_)
        obtain ⟨rfl, hR3, rfl, rfl⟩ := hq
        have hki := ki9_1 t n (sP (zs z)) 40
        refine tz_if_eq (n := 56) (tgt := 60) (g_at ck_X11_deeper 29 rfl) rfl rfl (by omega) (fun h53 => ?_) (fun h53 => ?_)
        · skip
          refine tz_iconst (n := 61) (g_at ck_X11_deeper 32 rfl) rfl ?_
          refine tz_cvV1 (n := 64) (μ' := μX11_wrong) (cb' := 0) (sb' := 0) ml_X11_198 mo_X11_wrong mv_X11_wrong np_X11_wrong kd_84 (g_at ck_X11_deeper 33 rfl) (mp_wrong hB hn hG hg (by decide)) rfl rfl rfl ⟨by decide, by decide⟩ (Nat.le_of_ble_eq_true rfl) (by decide) (by decide) (fun ρ9 m61 hq => ?_)
          obtain ⟨rfl, hR4, hG61, hX61⟩ := hq
          exact tz_vret (g_at ck_X11_deeper 34 rfl) rfl (rV_mk ⟨rfl, hR4, by rw [show dpr t n z = flZ t n 1 z by unfold dpr; rw [if_neg (by omega), show cb9 t n (sP (zs z)) = 0 from if_neg (by omega)]; rfl]; exact hZ.s hG61 hX61 (by decide), ZX.x hX61 (by decide) (by decide) (by decide)⟩)
        · skip
          refine tz_iconst (n := 57) (g_at ck_X11_deeper 30 rfl) rfl ?_
          refine tz_goto (tgt := 61) (g_at ck_X11_deeper 31 rfl) rfl ?_
          refine tz_cvV1 (n := 64) (μ' := μX11_wrong) (cb' := 0) (sb' := 0) ml_X11_198 mo_X11_wrong mv_X11_wrong np_X11_wrong kd_84 (g_at ck_X11_deeper 33 rfl) (mp_wrong hB hn hG hg (by decide)) rfl rfl rfl ⟨by decide, by decide⟩ (Nat.le_of_ble_eq_true rfl) (by decide) (by decide) (fun ρ9 m61 hq => ?_)
          obtain ⟨rfl, hR5, hG61, hX61⟩ := hq
          exact tz_vret (g_at ck_X11_deeper 34 rfl) rfl (rV_mk ⟨rfl, hR5, by rw [show dpr t n z = flZ t n 2 z by unfold dpr; rw [if_neg (by omega), show cb9 t n (sP (zs z)) = 1 from if_pos (by omega)]; rfl]; exact hZ.s hG61 hX61 (by decide), ZX.x hX61 (by decide) (by decide) (by decide)⟩)
  · skip
    refine tz_aload0 (n := 10) (g_at ck_X11_deeper 4 rfl) rfl (g_ne kd_84) ?_
    refine tz_dupR (n := 11) (g_at ck_X11_deeper 5 rfl) rfl ?_
    refine tz_getIw (n := 14) (kz := 32) fk_X11_226 kd_84 (g_at ck_X11_deeper 6 rfl) rfl rfl ?_
    rw [hZ.2.2.2.1]
    refine tz_iconst (n := 15) (g_at ck_X11_deeper 7 rfl) rfl ?_
    refine tz_iadd (n := 16) (g_at ck_X11_deeper 8 rfl) rfl ?_
    refine tz_putIr (n := 19) (kz := 32) fk_X11_226 kd_84 (g_at ck_X11_deeper 9 rfl) rfl hR ⟨(by omega), (by omega)⟩ rfl (fun hR6 => ?_)
    refine tz_aload0 (n := 20) (g_at ck_X11_deeper 10 rfl) rfl (g_ne kd_84) ?_
    refine tz_getAv (n := 23) (a := 101) fk_X11_68 kd_84 (ly_84_41 hL) (g_at ck_X11_deeper 11 rfl) rfl ?_
    refine tz_aload0 (n := 24) (g_at ck_X11_deeper 12 rfl) rfl (g_ne kd_84) ?_
    refine tz_getIw (n := 27) (kz := 32) fk_X11_226 kd_84 (g_at ck_X11_deeper 13 rfl) rfl rfl ?_
    rw [wr_same]
    refine tz_iconst (n := 28) (g_at ck_X11_deeper 14 rfl) rfl ?_
    refine tz_zastr (n := 29) kd_101 (by omega) (g_at ck_X11_deeper 15 rfl) rfl hR6 (Or.inl rfl) (fun hR7 => ?_)
    exact tz_vret (g_at ck_X11_deeper 16 rfl) rfl (rV_mk ⟨rfl, hR7, by rw [show dpr t n z = mz (zs z) (zW z) (zS z) (zD z + 1) (up (zT z) (zD z + 1) 0) from if_pos (by omega)]; exact hZ.dp hd.1 hR7, ZX.x (L := [84, 101]) (ks := [32]) ((FX.rf.w (by decide) (fun _ => by decide)).w (by decide) (fun h9 => absurd h9 (by decide))) (by decide) (by decide) (by decide)⟩)
theorem mp_isOpened {l : Launch} {γ : Gh} {ρ m : Mm} {t : Int → Int} {n b : Int} {z : MZ} (hZ : ZM ρ m t n b z) (ho : okS3 (zS z)) (hl : (zS z).length ≤ 900) : gE l γ μX11_isOpened 1 0 0 (rI KK fun x ρ9 m9 => ρ = ρ9 ∧ MR m9 ∧ (if 0 < opn (zS z) then (1 : Int) else 0) = x ∧ m = m9) xN KK ρ m [vR 84] := by
  refine gE.ofw cl_X11.2 ?_ rfl rfl (Nat.le_of_ble_eq_true rfl)
  show gT l γ μX11_isOpened 1 0 0 _ _ KK ρ m 0 [some (vR 84), none] []
  have hG := hZ.1
  have hR := hG.1
  have hL := hG.2.1
  have hS := hZ.2.2.1
  refine tz_aload0 (n := 1) (g_at ck_X11_isOpened 0 rfl) rfl (g_ne kd_84) ?_
  refine tz_getIw (n := 4) (kz := 31) fk_X11_204 kd_84 (g_at ck_X11_isOpened 1 rfl) rfl rfl ?_
  rw [hS.1]
  refine tz_iconst (n := 5) (g_at ck_X11_isOpened 2 rfl) rfl ?_
  refine tz_isub (n := 6) (g_at ck_X11_isOpened 3 rfl) rfl ?_
  refine tz_istore1 (n := 7) (g_at ck_X11_isOpened 4 rfl) rfl (by decide) g_hpR ?_
  suffices hlp : ∀ i : Nat, i ≤ (zS z).length → (∃ S1 : List Int, stk m S1 ∧ S1.length + i = (zS z).length ∧ opn S1 = opn (zS z) ∧ okS3 S1) → gT l γ μX11_isOpened 1 0 0 _ _ KK ρ m 7 [some (vR 84), some (vI (((zS z).length : Int) - 1 - (i : Int)))] [] by
    have h0 := hlp 0 (Nat.zero_le _)
    rw [show ((zS z).length : Int) - 1 - ((0 : Nat) : Int) = ((zS z).length : Int) - 1 by omega] at h0
    exact h0 ⟨zS z, hS.2, rfl, rfl, ho⟩
  refine g_for (fun i : Nat => (∃ S1 : List Int, stk m S1 ∧ S1.length + i = (zS z).length ∧ opn S1 = opn (zS z) ∧ okS3 S1) → gT l γ μX11_isOpened 1 0 0 _ _ KK ρ m 7 [some (vR 84), some (vI (((zS z).length : Int) - 1 - (i : Int)))] []) (zS z).length ?_ (fun i hi ihi => ?_)
  · intro hinv
    obtain ⟨S1, hs1, hl1, ho1, hk1⟩ := hinv
    have e0 : S1 = [] := List.eq_nil_of_length_eq_zero (by omega)
    subst e0
    refine tz_iload1 (n := 8) (g_at ck_X11_isOpened 5 rfl) rfl ?_
    refine tz_if_lt (n := 11) (tgt := 29) (g_at ck_X11_isOpened 6 rfl) rfl rfl (by omega) (fun h8 => ?_) (fun h8 => absurd h8 (by omega))
    refine tz_iload1 (n := 30) (g_at ck_X11_isOpened 15 rfl) rfl ?_
    refine tz_if_lt (n := 33) (tgt := 37) (g_at ck_X11_isOpened 16 rfl) rfl rfl (by omega) (fun h30 => ?_) (fun h30 => absurd h30 (by omega))
    refine tz_iconst (n := 38) (g_at ck_X11_isOpened 19 rfl) rfl ?_
    exact tz_bret (g_at ck_X11_isOpened 20 rfl) rfl (by decide) (rI_mk ⟨rfl, hR, if_neg (by rw [← ho1]; show ¬ (0 : Int) < 0; decide), rfl⟩)
  · intro hinv
    obtain ⟨S1, hs1, hl1, ho1, hk1⟩ := hinv
    obtain ⟨x, S2, eS⟩ : ∃ x S2, S1 = x :: S2 := by cases S1 with | nil => exact absurd hl1 (by simp; omega) | cons x S2 => exact ⟨x, S2, rfl⟩
    subst eS
    have hl3 : S2.length + 1 + i = (zS z).length := by rw [List.length_cons] at hl1; exact hl1
    have hx1 : m 100 (S2.length : Int) = x := hs1.1
    have hxr := hk1 x List.mem_cons_self
    have hoi := opI_1 x
    refine tz_iload1 (n := 8) (g_at ck_X11_isOpened 5 rfl) rfl ?_
    refine tz_if_lt (n := 11) (tgt := 29) (g_at ck_X11_isOpened 6 rfl) rfl rfl (by omega) (fun h8 => absurd h8 (by omega)) (fun h8 => ?_)
    refine tz_aload0 (n := 12) (g_at ck_X11_isOpened 7 rfl) rfl (g_ne kd_84) ?_
    refine tz_getAv (n := 15) (a := 100) fk_X11_65 kd_84 (ly_84_40 hL) (g_at ck_X11_isOpened 8 rfl) rfl ?_
    refine tz_iload1 (n := 16) (g_at ck_X11_isOpened 9 rfl) rfl ?_
    refine tz_iald (n := 17) kd_100 (by omega) (g_at ck_X11_isOpened 10 rfl) rfl ?_
    rw [show m 100 (((zS z).length : Int) - 1 - (i : Int)) = x by rw [show ((zS z).length : Int) - 1 - (i : Int) = (S2.length : Int) by omega]; exact hx1]
    refine tz_csI1 (n := 20) (μ' := μX11_isOpen) (cb' := 0) (sb' := 0) ml_X11_207 mo_X11_isOpen ms_X11_isOpen np_X11_isOpen (g_at ck_X11_isOpened 11 rfl) (mp_isOpen hR (by omega)) rfl rfl ⟨by decide, by decide⟩ (Nat.le_of_ble_eq_true rfl) (by decide) (by decide) (fun x17 ρ9 m17 hq => ?_)
    obtain ⟨rfl, hR1, rfl, rfl⟩ := hq
    refine tz_if_ne (n := 23) (tgt := 29) (g_at ck_X11_isOpened 12 rfl) rfl rfl (by omega) (fun h20 => ?_) (fun h20 => ?_)
    · skip
      refine tz_iload1 (n := 30) (g_at ck_X11_isOpened 15 rfl) rfl ?_
      refine tz_if_lt (n := 33) (tgt := 37) (g_at ck_X11_isOpened 16 rfl) rfl rfl (by omega) (fun h30 => absurd h30 (by omega)) (fun h30 => ?_)
      refine tz_iconst (n := 34) (g_at ck_X11_isOpened 17 rfl) rfl ?_
      refine tz_goto (tgt := 38) (g_at ck_X11_isOpened 18 rfl) rfl ?_
      exact tz_bret (g_at ck_X11_isOpened 20 rfl) rfl (by decide) (rI_mk ⟨rfl, hR1, if_pos (by rw [← ho1]; have h9 := opn_0 S2; show 0 < (if x = 14 then 1 else 0) + opn S2; rw [if_pos (by omega)]; omega), rfl⟩)
    · skip
      refine tz_iinc1 (n := 26) (g_at ck_X11_isOpened 13 rfl) rfl (by decide) g_hpR ?_
      refine tz_goto (tgt := 7) (g_at ck_X11_isOpened 14 rfl) rfl ?_
      rw [show ((zS z).length : Int) - 1 - (i : Int) + -1 = ((zS z).length : Int) - 1 - ((i + 1 : Nat) : Int) by omega]
      exact ihi ⟨S2, hs1.2, by omega, by rw [← ho1]; show opn S2 = (if x = 14 then 1 else 0) + opn S2; rw [if_neg (by omega)]; omega, hk1.t⟩
theorem mp_closes {l : Launch} {γ : Gh} {ρ m : Mm} {t : Int → Int} {n b : Int} {z : MZ} (hB : BY t) (hn : 0 ≤ n ∧ n ≤ 700) (hZ : ZM ρ m t n b z) (hg : (zs z).1 = 1) (hI : ZI n b z) (hd : 1 < zD z) (h41 : tK t n (sP (zs z)) = 41) : gE l γ μX11_closes 2 0 0 (rV KK fun ρ9 m9 => q23 ρ ρ9 ∧ MR m9 ∧ ZM ρ9 m9 t n b (nxZ t n (mz (zs z) (zW (drZ 0 z)) (zS (drZ 0 z)).tail (zD z - 1) (zT z))) ∧ ZX b m m9) xN KK ρ m [vR 84] := by
  refine gE.ofw cl_X11.2 ?_ rfl rfl (Nat.le_of_ble_eq_true rfl)
  show gT l γ μX11_closes 2 0 0 _ _ KK ρ m 0 [some (vR 84)] []
  have hG := hZ.1
  have hR := hG.1
  have hL := hG.2.1
  have hgg := hG.g hg
  have hK := hgg.1
  have hr9 := tk_rg (t := t) hB hgg.2.1
  have hso := so9_1 (tK t n (sP (zs z)))
  have hi1 := hI.1
  have hi2 := hI.2.1
  have hi5 := hI.2.2.2.2.1
  have hi6 := hI.2.2.2.2.2 hg
  have hlt := nx_lt hB hG hg (by omega)
  obtain ⟨hIc, R9, eR⟩ := hI.cl hg hd hlt
  refine tz_aload0 (n := 1) (g_at ck_X11_closes 0 rfl) rfl (g_ne kd_84) ?_
  refine tz_iconst (n := 2) (g_at ck_X11_closes 1 rfl) rfl ?_
  refine tz_cvV1 (n := 5) (μ' := μX11_drops) (cb' := 0) (sb' := 0) ml_X11_241 mo_X11_drops mv_X11_drops np_X11_drops kd_84 (g_at ck_X11_closes 2 rfl) (mp_drops hL hR hZ.2.1 hZ.2.2.1 (by omega) (by omega) hI.2.2.1 (by decide)) rfl rfl rfl ⟨by decide, by decide⟩ (Nat.le_of_ble_eq_true rfl) (by decide) (by decide) (fun ρ9 m2 hq => ?_)
  obtain ⟨rfl, hR1, hX2, hb2, hC2, hS2⟩ := hq
  have hZd := hZ.drp hR1 hX2 hC2 hS2
  have eR2 : (dr 0 (zW z) (zS z)).2 = 14 :: R9 := eR
  have hwl : m2 84 31 = (R9.length : Int) + 1 := by rw [hS2.1, eR2, List.length_cons]; omega
  have hdl := (dr_len (v := 0) (zS z) (zW z)).2
  rw [eR2, List.length_cons] at hdl
  refine tz_aload0 (n := 6) (g_at ck_X11_closes 3 rfl) rfl (g_ne kd_84) ?_
  refine tz_dupR (n := 7) (g_at ck_X11_closes 4 rfl) rfl ?_
  refine tz_getIw (n := 10) (kz := 31) fk_X11_204 kd_84 (g_at ck_X11_closes 5 rfl) rfl rfl ?_
  rw [hwl]
  refine tz_iconst (n := 11) (g_at ck_X11_closes 6 rfl) rfl ?_
  refine tz_isub (n := 12) (g_at ck_X11_closes 7 rfl) rfl ?_
  refine tz_putIr (n := 15) (kz := 31) fk_X11_204 kd_84 (g_at ck_X11_closes 8 rfl) rfl hR1 ⟨(by omega), (by omega)⟩ rfl (fun hR2 => ?_)
  refine tz_aload0 (n := 16) (g_at ck_X11_closes 9 rfl) rfl (g_ne kd_84) ?_
  refine tz_dupR (n := 17) (g_at ck_X11_closes 10 rfl) rfl ?_
  refine tz_getIw (n := 20) (kz := 32) fk_X11_226 kd_84 (g_at ck_X11_closes 11 rfl) rfl rfl ?_
  rw [show ∀ y, (wr m2 84 31 y) 84 32 = zD z from fun y => by rw [wr_at, if_neg (by decide), hX2.2 32 (by decide)]; exact hZ.2.2.2.1]
  refine tz_iconst (n := 21) (g_at ck_X11_closes 12 rfl) rfl ?_
  refine tz_isub (n := 22) (g_at ck_X11_closes 13 rfl) rfl ?_
  refine tz_putIr (n := 25) (kz := 32) fk_X11_226 kd_84 (g_at ck_X11_closes 14 rfl) rfl hR2 ⟨(by omega), (by omega)⟩ rfl (fun hR3 => ?_)
  have hXc : FX [84] [31, 32] m2 (wr (wr m2 84 31 ((R9.length : Int) + 1 - 1)) 84 32 (zD z - 1)) := (FX.rf.w (by decide) (fun _ => by decide)).w (by decide) (fun _ => by decide)
  have hGc := hZd.1.x hR3 rfl hXc (by decide) (by decide)
  have hZc : ZM ρ (wr (wr m2 84 31 ((R9.length : Int) + 1 - 1)) 84 32 (zD z - 1)) t n b (mz (zs z) (zW (drZ 0 z)) (zS (drZ 0 z)).tail (zD z - 1) (zT z)) := ⟨hGc, hZd.2.1.x hXc (by decide) (by decide), by show StC _ (zS (drZ 0 z)).tail; rw [eR]; exact (by rw [eR2] at hS2; exact hS2.pop (by rw [wr_at, if_neg (by decide), wr_same, hwl]) (by rw [wr_ne (by decide), wr_ne (by decide)])), by rw [wr_same]; rfl, by rw [hXc.1 101 (by decide)]; exact hZd.2.2.2.2.1, (hXc.2 29 (by decide)).trans hZd.2.2.2.2.2.1, (hXc.2 30 (by decide)).trans hZd.2.2.2.2.2.2⟩
  refine tz_aload0 (n := 26) (g_at ck_X11_closes 15 rfl) rfl (g_ne kd_84) ?_
  refine tz_cvV0 (n := 29) (μ' := μX11_goes) (cb' := 0) (sb' := 0) ml_X11_195 mo_X11_goes mv_X11_goes np_X11_goes kd_84 (g_at ck_X11_closes 16 rfl) (mp_goes hL hR3 hB hn (show 0 ≤ tQ t n (sP (zs z)) ∧ tQ t n (sP (zs z)) ≤ n by omega) hGc.2.2.1 hGc.2.2.2.1 (hGc.g hg).1.2.2.1) rfl rfl rfl ⟨by decide, by decide⟩ (Nat.le_of_ble_eq_true rfl) (by decide) (by decide) (fun ρ9 m26 hq => ?_)
  obtain ⟨w26, rfl, hR4, hX26, hK26⟩ := hq
  have hq26 : q23 ρ (wr ρ 84 23 w26) := q23.w
  have hG26 := hGc.nx hg hB hR4 hq26 hX26 (by decide) (by decide) hK26
  exact tz_vret (g_at ck_X11_closes 17 rfl) rfl (rV_mk ⟨hq26, hR4, hZc.s hG26 hX26 (by decide), ZX.tr (show ZX b m m2 from ⟨hX2.sub (by decide) (by decide), hb2⟩) ((ZX.x hXc (by decide) (by decide) (by decide)).tr (ZX.x hX26 (by decide) (by decide) (by decide)))⟩)
