/-! The reference: its checks, and the first looks ahead. -/
def Ck (m m9 : Mm) (cd x : Int) : Prop := (cd = 0 ∧ x = 1 ∧ m9 = m) ∨ (cd ≠ 0 ∧ x = 0 ∧ m9 = wr m 84 0 cd)
theorem Ck.ok {m m9 : Mm} {cd x : Int} (h : Ck m m9 cd x) (k : ¬ x = 0) : cd = 0 ∧ m = m9 := h.elim (fun h => ⟨h.1, h.2.2.symm⟩) fun h => absurd h.2.1 k
theorem Ck.no {m m9 : Mm} {cd x : Int} (h : Ck m m9 cd x) (k : x = 0) : cd ≠ 0 ∧ m9 = wr m 84 0 cd := h.elim (fun h => absurd (h.2.1.symm.trans k) (by decide)) fun h => ⟨h.1, h.2.2⟩
theorem Ck.b01 {m m9 : Mm} {cd x : Int} (h : Ck m m9 cd x) : x = 0 ∨ x = 1 := h.elim (fun h => Or.inr h.2.1) fun h => Or.inl h.2.1
def mC : List Int := [84, 103, 105, 106, 107, 108, 109, 110, 111, 112, 113, 114, 115, 117, 118]
def mK (m m9 : Mm) : Prop := Fr mC m m9 ∧ (∀ k, k ≠ 0 → k ≠ 62 → m9 84 k = m 84 k) ∧ ∀ k, 0 ≤ k → k < 35 → m9 103 k = m 103 k
theorem mK.rf {m : Mm} : mK m m := ⟨Fr.rf, fun _ _ _ => rfl, fun _ _ _ => rfl⟩
theorem mK.tr {a b c : Mm} (h : mK a b) (k : mK b c) : mK a c := ⟨h.1.tr k.1, fun x h1 h2 => (k.2.1 x h1 h2).trans (h.2.1 x h1 h2), fun x h1 h2 => (k.2.2 x h1 h2).trans (h.2.2 x h1 h2)⟩
theorem mK.w0 {m : Mm} {c : Int} : mK m (wr m 84 0 c) := ⟨Fr.rf.wr (by decide), fun k h1 _ => by rw [wr_at, if_neg h1], fun k _ _ => by rw [wr_ne (by decide)]⟩
theorem mK.fd {m m9 : Mm} (h : FD 35 m m9) : mK m m9 := ⟨h.1.sub (by decide), fun k _ _ => by rw [h.1 84 (by decide)], fun k h1 h2 => h.2 k (Or.inl h2)⟩
theorem mK.land {m m9 Λ : Mm} {hl tl : List Int} (h : mK m m9) (k : MLand m Λ hl tl) : MLand m9 Λ hl tl := k.eq (fun k h1 h2 => h.2.1 k (by omega) (by omega)) fun a h1 h2 => h.1 a (by
  unfold mC
  simp only [List.mem_cons, List.not_mem_nil, or_false]
  omega)
theorem mK.row {m m9 : Mm} {s : Int → Int} (h : mK m m9) (k : MRow m s) : MRow m9 s := fun j h1 h2 => (h.2.2 j h1 h2).trans (k j h1 h2)
theorem mK.w51 {m m9 : Mm} (h : mK m m9) : m9 84 51 = m 84 51 := h.2.1 51 (by decide) (by decide)
theorem hw_0 {m : Mm} (h : m 84 51 = 0) : (m 84 51 = 0 → (1 : Int) ≠ 0) ∧ (m 84 51 ≠ 0 → (1 : Int) = 0) := ⟨fun _ => by decide, fun h9 => absurd h h9⟩
theorem sq0 {b : Int} : sq 0 b = b := if_pos rfl
theorem sqn {a b : Int} (h : a ≠ 0) : sq a b = a := if_neg h
theorem cdP_i {Λ : Mm} {p : Int} (h : cdP Λ p = 0) : 0 ≤ p ∧ p < Λ 0 1 := by unfold cdP at h; split at h; assumption; exact absurd h (by decide)
theorem cdC_i {Λ : Mm} {p : Int} (h : cdC Λ p = 0) : 0 ≤ p ∧ p < Λ 0 0 := by unfold cdC at h; split at h; assumption; exact absurd h (by decide)
theorem cdR_i {Λ : Mm} {c r : Int} (h : cdR Λ c r = 0) : 0 ≤ c ∧ c < Λ 0 0 ∧ 0 ≤ r ∧ r < Λ 3 c := by unfold cdR at h; split at h; assumption; exact absurd h (by decide)
theorem cdW_i {w k : Int} (h : cdW w k = 0) : 0 ≤ w ∧ w ≤ k := by unfold cdW at h; split at h; assumption; exact absurd h (by decide)
theorem cdD_i {n a b : Int} (h : cdD n a b = 0) : a ≤ n ∧ n ≤ b := by unfold cdD at h; split at h; assumption; exact absurd h (by decide)
theorem kw32 {x : Int} (h : 0 ≤ x ∧ x < 2147483648) : w32 (x + 0) = x := by rw [Int.add_zero]; exact w32_id (by omega)
theorem ck_wi {m : Mm} {w k : Int} (h01 : wiF w 0 k = 0 ∨ wiF w 0 k = 1) : Ck m (if wiF w 0 k = 0 then wr m 84 0 1 else m) (cdW w k) (wiF w 0 k) := by
  unfold Ck wiF cdW
  by_cases h : 0 ≤ w ∧ w ≤ k
  · rw [if_pos h, if_pos h, if_neg (by decide)]
    exact Or.inl ⟨rfl, rfl, rfl⟩
  · rw [if_neg h, if_neg h, if_pos rfl]
    exact Or.inr ⟨by decide, rfl, rfl⟩
theorem ck_wd {m : Mm} {w a k : Int} (h01 : wiF w a k = 0 ∨ wiF w a k = 1) : Ck m (if wiF w a k = 0 then wr m 84 0 2 else m) (cdD w a k) (wiF w a k) := by
  unfold Ck wiF cdD
  by_cases h : a ≤ w ∧ w ≤ k
  · rw [if_pos h, if_pos h, if_neg (by decide)]
    exact Or.inl ⟨rfl, rfl, rfl⟩
  · rw [if_neg h, if_neg h, if_pos rfl]
    exact Or.inr ⟨by decide, rfl, rfl⟩
theorem mp_isCrossing {l : Launch} {γ : Gh} {ρ m : Mm} {c : Int} (hc : -2147483648 ≤ c ∧ c < 2147483648) {Λ : Mm} {hl tl : List Int} (hL : LY ρ) (hR : MR m) (hW : WL Λ) (hM : MLand m Λ hl tl) (h00 : m 84 0 = 0) : gE l γ μX11_isCrossing 1 0 0 (rI KK fun x ρ9 m9 => ρ = ρ9 ∧ MR m9 ∧ Ck m m9 (cdC Λ c) x) xN KK ρ m [vR 84, vI c] := by
  refine gE.ofw cl_X11.2 ?_ rfl rfl (Nat.le_of_ble_eq_true rfl)
  show gT l γ μX11_isCrossing 1 0 0 _ _ KK ρ m 0 [some (vR 84), some (vI c)] []
  have hN := hM.1
  have hn1 := hW.1
  have hn2 := hW.2.1
  refine tz_aload0 (n := 1) (g_at ck_X11_isCrossing 0 rfl) rfl (g_ne kd_84) ?_
  refine tz_iload1 (n := 2) (g_at ck_X11_isCrossing 1 rfl) rfl ?_
  refine tz_if_lt (n := 5) (tgt := 17) (g_at ck_X11_isCrossing 2 rfl) rfl rfl ⟨hc.1, hc.2⟩ (fun h2 => ?_) (fun h2 => ?_)
  · skip
    refine tz_iconst (n := 18) (g_at ck_X11_isCrossing 9 rfl) rfl ?_
    refine tz_iconst (n := 19) (g_at ck_X11_isCrossing 10 rfl) rfl ?_
    refine tz_cvI2 (n := 22) (μ' := μX11_right) (cb' := 0) (sb' := 0) ml_X11_295 mo_X11_right mv_X11_right np_X11_right kd_84 (g_at ck_X11_isCrossing 11 rfl) (mp_right hR h00 (by decide) (by decide)) rfl rfl rfl ⟨by decide, by decide⟩ (Nat.le_of_ble_eq_true rfl) (by decide) (by decide) (fun x19 ρ9 m19 hq => ?_)
    obtain ⟨rfl, hR1, rfl, rfl⟩ := hq
    exact tz_bret (g_at ck_X11_isCrossing 12 rfl) rfl (by decide) (rI_mk ⟨rfl, hR1, Or.inr ⟨by rw [show cdC Λ c = 1 from if_neg (by omega)]; decide, rfl, by rw [show cdC Λ c = 1 from if_neg (by omega)]; exact if_pos rfl⟩⟩)
  · skip
    refine tz_iload1 (n := 6) (g_at ck_X11_isCrossing 3 rfl) rfl ?_
    refine tz_aload0 (n := 7) (g_at ck_X11_isCrossing 4 rfl) rfl (g_ne kd_84) ?_
    refine tz_getIw (n := 10) (kz := 1) fk_X11_302 kd_84 (g_at ck_X11_isCrossing 5 rfl) rfl rfl ?_
    rw [hN]
    refine tz_icmp_ge (n := 13) (tgt := 17) (g_at ck_X11_isCrossing 6 rfl) rfl rfl (by omega) (fun h10 => ?_) (fun h10 => ?_)
    · skip
      refine tz_iconst (n := 18) (g_at ck_X11_isCrossing 9 rfl) rfl ?_
      refine tz_iconst (n := 19) (g_at ck_X11_isCrossing 10 rfl) rfl ?_
      refine tz_cvI2 (n := 22) (μ' := μX11_right) (cb' := 0) (sb' := 0) ml_X11_295 mo_X11_right mv_X11_right np_X11_right kd_84 (g_at ck_X11_isCrossing 11 rfl) (mp_right hR h00 (by decide) (by decide)) rfl rfl rfl ⟨by decide, by decide⟩ (Nat.le_of_ble_eq_true rfl) (by decide) (by decide) (fun x19 ρ9 m19 hq => ?_)
      obtain ⟨rfl, hR2, rfl, rfl⟩ := hq
      exact tz_bret (g_at ck_X11_isCrossing 12 rfl) rfl (by decide) (rI_mk ⟨rfl, hR2, Or.inr ⟨by rw [show cdC Λ c = 1 from if_neg (by omega)]; decide, rfl, by rw [show cdC Λ c = 1 from if_neg (by omega)]; exact if_pos rfl⟩⟩)
    · skip
      refine tz_iconst (n := 14) (g_at ck_X11_isCrossing 7 rfl) rfl ?_
      refine tz_goto (tgt := 18) (g_at ck_X11_isCrossing 8 rfl) rfl ?_
      refine tz_iconst (n := 19) (g_at ck_X11_isCrossing 10 rfl) rfl ?_
      refine tz_cvI2 (n := 22) (μ' := μX11_right) (cb' := 0) (sb' := 0) ml_X11_295 mo_X11_right mv_X11_right np_X11_right kd_84 (g_at ck_X11_isCrossing 11 rfl) (mp_right hR h00 (by decide) (by decide)) rfl rfl rfl ⟨by decide, by decide⟩ (Nat.le_of_ble_eq_true rfl) (by decide) (by decide) (fun x19 ρ9 m19 hq => ?_)
      obtain ⟨rfl, hR3, rfl, rfl⟩ := hq
      exact tz_bret (g_at ck_X11_isCrossing 12 rfl) rfl (by decide) (rI_mk ⟨rfl, hR3, Or.inl ⟨if_pos (by omega), rfl, if_neg (by decide)⟩⟩)
theorem mp_isPerson {l : Launch} {γ : Gh} {ρ m : Mm} {c : Int} (hc : -2147483648 ≤ c ∧ c < 2147483648) {Λ : Mm} {hl tl : List Int} (hL : LY ρ) (hR : MR m) (hW : WL Λ) (hM : MLand m Λ hl tl) (h00 : m 84 0 = 0) : gE l γ μX11_isPerson 1 0 0 (rI KK fun x ρ9 m9 => ρ = ρ9 ∧ MR m9 ∧ Ck m m9 (cdP Λ c) x) xN KK ρ m [vR 84, vI c] := by
  refine gE.ofw cl_X11.2 ?_ rfl rfl (Nat.le_of_ble_eq_true rfl)
  show gT l γ μX11_isPerson 1 0 0 _ _ KK ρ m 0 [some (vR 84), some (vI c)] []
  have hN := hM.2.1
  have hn1 := hW.1
  have hn2 := hW.2.1
  refine tz_aload0 (n := 1) (g_at ck_X11_isPerson 0 rfl) rfl (g_ne kd_84) ?_
  refine tz_iload1 (n := 2) (g_at ck_X11_isPerson 1 rfl) rfl ?_
  refine tz_if_lt (n := 5) (tgt := 17) (g_at ck_X11_isPerson 2 rfl) rfl rfl ⟨hc.1, hc.2⟩ (fun h2 => ?_) (fun h2 => ?_)
  · skip
    refine tz_iconst (n := 18) (g_at ck_X11_isPerson 9 rfl) rfl ?_
    refine tz_iconst (n := 19) (g_at ck_X11_isPerson 10 rfl) rfl ?_
    refine tz_cvI2 (n := 22) (μ' := μX11_right) (cb' := 0) (sb' := 0) ml_X11_295 mo_X11_right mv_X11_right np_X11_right kd_84 (g_at ck_X11_isPerson 11 rfl) (mp_right hR h00 (by decide) (by decide)) rfl rfl rfl ⟨by decide, by decide⟩ (Nat.le_of_ble_eq_true rfl) (by decide) (by decide) (fun x19 ρ9 m19 hq => ?_)
    obtain ⟨rfl, hR1, rfl, rfl⟩ := hq
    exact tz_bret (g_at ck_X11_isPerson 12 rfl) rfl (by decide) (rI_mk ⟨rfl, hR1, Or.inr ⟨by rw [show cdP Λ c = 1 from if_neg (by omega)]; decide, rfl, by rw [show cdP Λ c = 1 from if_neg (by omega)]; exact if_pos rfl⟩⟩)
  · skip
    refine tz_iload1 (n := 6) (g_at ck_X11_isPerson 3 rfl) rfl ?_
    refine tz_aload0 (n := 7) (g_at ck_X11_isPerson 4 rfl) rfl (g_ne kd_84) ?_
    refine tz_getIw (n := 10) (kz := 2) fk_X11_305 kd_84 (g_at ck_X11_isPerson 5 rfl) rfl rfl ?_
    rw [hN]
    refine tz_icmp_ge (n := 13) (tgt := 17) (g_at ck_X11_isPerson 6 rfl) rfl rfl (by omega) (fun h10 => ?_) (fun h10 => ?_)
    · skip
      refine tz_iconst (n := 18) (g_at ck_X11_isPerson 9 rfl) rfl ?_
      refine tz_iconst (n := 19) (g_at ck_X11_isPerson 10 rfl) rfl ?_
      refine tz_cvI2 (n := 22) (μ' := μX11_right) (cb' := 0) (sb' := 0) ml_X11_295 mo_X11_right mv_X11_right np_X11_right kd_84 (g_at ck_X11_isPerson 11 rfl) (mp_right hR h00 (by decide) (by decide)) rfl rfl rfl ⟨by decide, by decide⟩ (Nat.le_of_ble_eq_true rfl) (by decide) (by decide) (fun x19 ρ9 m19 hq => ?_)
      obtain ⟨rfl, hR2, rfl, rfl⟩ := hq
      exact tz_bret (g_at ck_X11_isPerson 12 rfl) rfl (by decide) (rI_mk ⟨rfl, hR2, Or.inr ⟨by rw [show cdP Λ c = 1 from if_neg (by omega)]; decide, rfl, by rw [show cdP Λ c = 1 from if_neg (by omega)]; exact if_pos rfl⟩⟩)
    · skip
      refine tz_iconst (n := 14) (g_at ck_X11_isPerson 7 rfl) rfl ?_
      refine tz_goto (tgt := 18) (g_at ck_X11_isPerson 8 rfl) rfl ?_
      refine tz_iconst (n := 19) (g_at ck_X11_isPerson 10 rfl) rfl ?_
      refine tz_cvI2 (n := 22) (μ' := μX11_right) (cb' := 0) (sb' := 0) ml_X11_295 mo_X11_right mv_X11_right np_X11_right kd_84 (g_at ck_X11_isPerson 11 rfl) (mp_right hR h00 (by decide) (by decide)) rfl rfl rfl ⟨by decide, by decide⟩ (Nat.le_of_ble_eq_true rfl) (by decide) (by decide) (fun x19 ρ9 m19 hq => ?_)
      obtain ⟨rfl, hR3, rfl, rfl⟩ := hq
      exact tz_bret (g_at ck_X11_isPerson 12 rfl) rfl (by decide) (rI_mk ⟨rfl, hR3, Or.inl ⟨if_pos (by omega), rfl, if_neg (by decide)⟩⟩)
theorem mp_isWhat {l : Launch} {γ : Gh} {ρ m : Mm} {w k : Int} (hv : -2147483648 ≤ w ∧ w < 2147483648) (hk : 0 ≤ k ∧ k ≤ 100) (hL : LY ρ) (hR : MR m) (h00 : m 84 0 = 0) : gE l γ μX11_isWhat 1 0 0 (rI KK fun x ρ9 m9 => ρ = ρ9 ∧ MR m9 ∧ Ck m m9 (cdW w k) x) xN KK ρ m [vR 84, vI w, vI k] := by
  refine gE.ofw cl_X11.2 ?_ rfl rfl (Nat.le_of_ble_eq_true rfl)
  show gT l γ μX11_isWhat 1 0 0 _ _ KK ρ m 0 [some (vR 84), some (vI w), some (vI k)] []
  have h01 := wiF_01 w 0 k
  refine tz_aload0 (n := 1) (g_at ck_X11_isWhat 0 rfl) rfl (g_ne kd_84) ?_
  refine tz_iload1 (n := 2) (g_at ck_X11_isWhat 1 rfl) rfl ?_
  refine tz_iconst (n := 3) (g_at ck_X11_isWhat 2 rfl) rfl ?_
  refine tz_iload2 (n := 4) (g_at ck_X11_isWhat 3 rfl) rfl ?_
  refine tz_csI3 (n := 7) (μ' := μX11_within) (cb' := 0) (sb' := 0) ml_X11_374 mo_X11_within ms_X11_within np_X11_within (g_at ck_X11_isWhat 4 rfl) (mp_within hR hv (by decide) (by omega)) rfl rfl ⟨by decide, by decide⟩ (Nat.le_of_ble_eq_true rfl) (by decide) (by decide) (fun x4 ρ9 m4 hq => ?_)
  obtain ⟨rfl, hR1, rfl, rfl⟩ := hq
  refine tz_iconst (n := 8) (g_at ck_X11_isWhat 5 rfl) rfl ?_
  refine tz_cvI2 (n := 11) (μ' := μX11_right) (cb' := 0) (sb' := 0) ml_X11_295 mo_X11_right mv_X11_right np_X11_right kd_84 (g_at ck_X11_isWhat 6 rfl) (mp_right hR1 h00 h01 (by decide)) rfl rfl rfl ⟨by decide, by decide⟩ (Nat.le_of_ble_eq_true rfl) (by decide) (by decide) (fun x8 ρ9 m8 hq => ?_)
  obtain ⟨rfl, hR2, rfl, rfl⟩ := hq
  exact tz_bret (g_at ck_X11_isWhat 7 rfl) rfl h01 (rI_mk ⟨rfl, hR2, ck_wi h01⟩)
theorem mp_isSoon {l : Launch} {γ : Gh} {ρ m : Mm} {n a : Int} (hv : -2147483648 ≤ n ∧ n < 2147483648) (ha : 0 ≤ a ∧ a ≤ 100) (hL : LY ρ) (hR : MR m) (h00 : m 84 0 = 0) : gE l γ μX11_isSoon 1 0 0 (rI KK fun x ρ9 m9 => ρ = ρ9 ∧ MR m9 ∧ Ck m m9 (cdD n a 100) x) xN KK ρ m [vR 84, vI n, vI a, vI 2] := by
  refine gE.ofw cl_X11.2 ?_ rfl rfl (Nat.le_of_ble_eq_true rfl)
  show gT l γ μX11_isSoon 1 0 0 _ _ KK ρ m 0 [some (vR 84), some (vI n), some (vI a), some (vI 2)] []
  have h01 := wiF_01 n a 100
  refine tz_aload0 (n := 1) (g_at ck_X11_isSoon 0 rfl) rfl (g_ne kd_84) ?_
  refine tz_iload1 (n := 2) (g_at ck_X11_isSoon 1 rfl) rfl ?_
  refine tz_iload2 (n := 3) (g_at ck_X11_isSoon 2 rfl) rfl ?_
  refine tz_bipush (n := 5) (g_at ck_X11_isSoon 3 rfl) rfl rfl ?_
  refine tz_csI3 (n := 8) (μ' := μX11_within) (cb' := 0) (sb' := 0) ml_X11_374 mo_X11_within ms_X11_within np_X11_within (g_at ck_X11_isSoon 4 rfl) (mp_within hR hv (by omega) (by decide)) rfl rfl ⟨by decide, by decide⟩ (Nat.le_of_ble_eq_true rfl) (by decide) (by decide) (fun x5 ρ9 m5 hq => ?_)
  obtain ⟨rfl, hR1, rfl, rfl⟩ := hq
  refine tz_iload3 (n := 9) (g_at ck_X11_isSoon 5 rfl) rfl ?_
  refine tz_cvI2 (n := 12) (μ' := μX11_right) (cb' := 0) (sb' := 0) ml_X11_295 mo_X11_right mv_X11_right np_X11_right kd_84 (g_at ck_X11_isSoon 6 rfl) (mp_right hR1 h00 h01 (by decide)) rfl rfl rfl ⟨by decide, by decide⟩ (Nat.le_of_ble_eq_true rfl) (by decide) (by decide) (fun x9 ρ9 m9 hq => ?_)
  obtain ⟨rfl, hR2, rfl, rfl⟩ := hq
  exact tz_bret (g_at ck_X11_isSoon 7 rfl) rfl h01 (rI_mk ⟨rfl, hR2, ck_wd h01⟩)
theorem mp_isRoad {l : Launch} {γ : Gh} {ρ m : Mm} {c r : Int} (hc : -2147483648 ≤ c ∧ c < 2147483648) (hr : -2147483648 ≤ r ∧ r < 2147483648) {Λ : Mm} {hl tl : List Int} (hL : LY ρ) (hR : MR m) (hW : WL Λ) (hM : MLand m Λ hl tl) (h00 : m 84 0 = 0) : gE l γ μX11_isRoad 2 0 0 (rI KK fun x ρ9 m9 => ρ = ρ9 ∧ MR m9 ∧ Ck m m9 (cdR Λ c r) x) xN KK ρ m [vR 84, vI c, vI r] := by
  refine gE.ofw cl_X11.2 ?_ rfl rfl (Nat.le_of_ble_eq_true rfl)
  show gT l γ μX11_isRoad 2 0 0 _ _ KK ρ m 0 [some (vR 84), some (vI c), some (vI r)] []
  have hn1 := hW.1
  refine tz_aload0 (n := 1) (g_at ck_X11_isRoad 0 rfl) rfl (g_ne kd_84) ?_
  refine tz_iload1 (n := 2) (g_at ck_X11_isRoad 1 rfl) rfl ?_
  refine tz_cvI1 (n := 5) (μ' := μX11_isCrossing) (cb' := 0) (sb' := 0) ml_X11_393 mo_X11_isCrossing mv_X11_isCrossing np_X11_isCrossing kd_84 (g_at ck_X11_isRoad 2 rfl) (mp_isCrossing hc hL hR hW hM h00) rfl rfl rfl ⟨by decide, by decide⟩ (Nat.le_of_ble_eq_true rfl) (by decide) (by decide) (fun x2 ρ9 m2 hq => ?_)
  obtain ⟨rfl, hR1, hq2⟩ := hq
  refine tz_if_eq (n := 8) (tgt := 39) (g_at ck_X11_isRoad 3 rfl) rfl rfl (by rcases hq2.b01 with h9 | h9 <;> omega) (fun h5 => ?_) (fun h5 => ?_)
  · skip
    refine tz_iconst (n := 40) (g_at ck_X11_isRoad 21 rfl) rfl ?_
    exact tz_bret (g_at ck_X11_isRoad 22 rfl) rfl (by decide) (rI_mk ⟨rfl, hR1, Or.inr ⟨by rw [show cdR Λ c r = 1 from if_neg fun h9 => (hq2.no h5).1 (if_pos ⟨h9.1, h9.2.1⟩)]; decide, rfl, by rw [(hq2.no h5).2, show cdC Λ c = 1 from if_neg fun h9 => (hq2.no h5).1 (if_pos h9), show cdR Λ c r = 1 from if_neg fun h9 => (hq2.no h5).1 (if_pos ⟨h9.1, h9.2.1⟩)]⟩⟩)
  · skip
    obtain ⟨hc0, rfl⟩ := hq2.ok h5
    have hc1 := cdC_i hc0
    have r87 := (hM.2.2.1 c hc1.1 hc1.2).2.2
    have hcw := hW.2.2.1 c hc1.1 hc1.2
    refine tz_aload0 (n := 9) (g_at ck_X11_isRoad 4 rfl) rfl (g_ne kd_84) ?_
    refine tz_iload2 (n := 10) (g_at ck_X11_isRoad 5 rfl) rfl ?_
    refine tz_if_lt (n := 13) (tgt := 27) (g_at ck_X11_isRoad 6 rfl) rfl rfl ⟨hr.1, hr.2⟩ (fun h10 => ?_) (fun h10 => ?_)
    · skip
      refine tz_iconst (n := 28) (g_at ck_X11_isRoad 15 rfl) rfl ?_
      refine tz_iconst (n := 29) (g_at ck_X11_isRoad 16 rfl) rfl ?_
      refine tz_cvI2 (n := 32) (μ' := μX11_right) (cb' := 0) (sb' := 0) ml_X11_295 mo_X11_right mv_X11_right np_X11_right kd_84 (g_at ck_X11_isRoad 17 rfl) (mp_right hR1 h00 (by decide) (by decide)) rfl rfl rfl ⟨by decide, by decide⟩ (Nat.le_of_ble_eq_true rfl) (by decide) (by decide) (fun x29 ρ9 m29 hq => ?_)
      obtain ⟨rfl, hR2, rfl, rfl⟩ := hq
      refine tz_if_eq (n := 35) (tgt := 39) (g_at ck_X11_isRoad 18 rfl) rfl rfl (by omega) (fun h32 => ?_) (fun h32 => absurd h32 (by omega))
      refine tz_iconst (n := 40) (g_at ck_X11_isRoad 21 rfl) rfl ?_
      exact tz_bret (g_at ck_X11_isRoad 22 rfl) rfl (by decide) (rI_mk ⟨rfl, hR2, Or.inr ⟨by rw [show cdR Λ c r = 1 from if_neg (by omega)]; decide, rfl, by rw [show cdR Λ c r = 1 from if_neg (by omega)]; exact if_pos rfl⟩⟩)
    · skip
      refine tz_iload2 (n := 14) (g_at ck_X11_isRoad 7 rfl) rfl ?_
      refine tz_aload0 (n := 15) (g_at ck_X11_isRoad 8 rfl) rfl (g_ne kd_84) ?_
      refine tz_getAv (n := 18) (a := 87) fk_X11_23 kd_84 (ly_84_7 hL) (g_at ck_X11_isRoad 9 rfl) rfl ?_
      refine tz_iload1 (n := 19) (g_at ck_X11_isRoad 10 rfl) rfl ?_
      refine tz_iald (n := 20) kd_87 (by omega) (g_at ck_X11_isRoad 11 rfl) rfl ?_
      rw [r87]
      refine tz_icmp_ge (n := 23) (tgt := 27) (g_at ck_X11_isRoad 12 rfl) rfl rfl (by omega) (fun h20 => ?_) (fun h20 => ?_)
      · skip
        refine tz_iconst (n := 28) (g_at ck_X11_isRoad 15 rfl) rfl ?_
        refine tz_iconst (n := 29) (g_at ck_X11_isRoad 16 rfl) rfl ?_
        refine tz_cvI2 (n := 32) (μ' := μX11_right) (cb' := 0) (sb' := 0) ml_X11_295 mo_X11_right mv_X11_right np_X11_right kd_84 (g_at ck_X11_isRoad 17 rfl) (mp_right hR1 h00 (by decide) (by decide)) rfl rfl rfl ⟨by decide, by decide⟩ (Nat.le_of_ble_eq_true rfl) (by decide) (by decide) (fun x29 ρ9 m29 hq => ?_)
        obtain ⟨rfl, hR3, rfl, rfl⟩ := hq
        refine tz_if_eq (n := 35) (tgt := 39) (g_at ck_X11_isRoad 18 rfl) rfl rfl (by omega) (fun h32 => ?_) (fun h32 => absurd h32 (by omega))
        refine tz_iconst (n := 40) (g_at ck_X11_isRoad 21 rfl) rfl ?_
        exact tz_bret (g_at ck_X11_isRoad 22 rfl) rfl (by decide) (rI_mk ⟨rfl, hR3, Or.inr ⟨by rw [show cdR Λ c r = 1 from if_neg (by omega)]; decide, rfl, by rw [show cdR Λ c r = 1 from if_neg (by omega)]; exact if_pos rfl⟩⟩)
      · skip
        refine tz_iconst (n := 24) (g_at ck_X11_isRoad 13 rfl) rfl ?_
        refine tz_goto (tgt := 28) (g_at ck_X11_isRoad 14 rfl) rfl ?_
        refine tz_iconst (n := 29) (g_at ck_X11_isRoad 16 rfl) rfl ?_
        refine tz_cvI2 (n := 32) (μ' := μX11_right) (cb' := 0) (sb' := 0) ml_X11_295 mo_X11_right mv_X11_right np_X11_right kd_84 (g_at ck_X11_isRoad 17 rfl) (mp_right hR1 h00 (by decide) (by decide)) rfl rfl rfl ⟨by decide, by decide⟩ (Nat.le_of_ble_eq_true rfl) (by decide) (by decide) (fun x29 ρ9 m29 hq => ?_)
        obtain ⟨rfl, hR4, rfl, rfl⟩ := hq
        refine tz_if_eq (n := 35) (tgt := 39) (g_at ck_X11_isRoad 18 rfl) rfl rfl (by omega) (fun h32 => absurd h32 (by omega)) (fun h32 => ?_)
        refine tz_iconst (n := 36) (g_at ck_X11_isRoad 19 rfl) rfl ?_
        refine tz_goto (tgt := 40) (g_at ck_X11_isRoad 20 rfl) rfl ?_
        exact tz_bret (g_at ck_X11_isRoad 22 rfl) rfl (by decide) (rI_mk ⟨rfl, hR4, Or.inl ⟨if_pos (by omega), rfl, if_neg (by decide)⟩⟩)
