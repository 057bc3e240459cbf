/-! The reference: turn, shut, fill, set, see, restore, days. -/
theorem xor_1 : ∀ r : Nat, r < 5 → ∀ x : Nat, x < 32 → (shutB (x : Int) (r : Int) = 0 → bXor (x : Int) (bShl 1 (r : Int)) = (x : Int) + bShl 1 (r : Int)) ∧ (shutB (x : Int) (r : Int) = 1 → bXor (x : Int) (bShl 1 (r : Int)) = (x : Int) + (0 - bShl 1 (r : Int))) := by decide +kernel
theorem xor_i {x r : Int} (hx : 0 ≤ x ∧ x < 32) (hr : 0 ≤ r ∧ r < 5) : (shutB x r = 0 → bXor x (bShl 1 r) = x + bShl 1 r) ∧ (shutB x r = 1 → bXor x (bShl 1 r) = x + (0 - bShl 1 r)) := by
  have h := xor_1 r.toNat (by omega) x.toNat (by omega)
  rw [show ((r.toNat : Nat) : Int) = r by omega, show ((x.toNat : Nat) : Int) = x by omega] at h
  exact h
theorem MLand.x {m m9 Λ : Mm} {hl tl : List Int} {L ks : List Int} (h : MLand m Λ hl tl) (k : FX L ks m m9) (hL : ∀ x ∈ L, x = 84 ∨ 91 ≤ x) (hk : ∀ x ∈ ks, x < 1 ∨ 4 < x) : MLand m9 Λ hl tl := h.eq (fun j h1 h2 => k.2 j fun h9 => by have := hk j h9; omega) fun a h1 h2 => k.1 a fun h9 => by have := hL a h9; omega
/-- what was counted stays counted: any memory begins a trip on the row that is now -/
theorem MT_0 {m Λ : Mm} {s : Int → Int} (hR : MR m) (hs : MRow m s) : ∃ e : Mm, MT m 0 Λ e (sig0 s) := by
  refine ⟨fun k j => if k = 1 then m 107 j else if k = 2 then m 105 j else m 106 j - tkN Λ (sig0 s) j (Λ 0 0).toNat * Λ 1 j, fun k h1 h2 => ?_, fun p _ _ => ?_, fun j _ _ => ?_, fun c _ _ => ?_⟩
  · rw [Int.zero_add]; exact hs k h1 h2
  · show m 107 p = w32 (0 + m 107 p)
    rw [Int.zero_add, w32_id (hR 107 p)]
  · show m 105 j = w32 (0 + m 105 j)
    rw [Int.zero_add, w32_id (hR 105 j)]
  · show m 106 c = w32 (tkN Λ (sig0 s) c (Λ 0 0).toNat * Λ 1 c + (m 106 c - tkN Λ (sig0 s) c (Λ 0 0).toNat * Λ 1 c))
    rw [show tkN Λ (sig0 s) c (Λ 0 0).toNat * Λ 1 c + (m 106 c - tkN Λ (sig0 s) c (Λ 0 0).toNat * Λ 1 c) = m 106 c by omega, w32_id (hR 106 c)]
theorem wi_no {v a b : Int} (h : wiF v a b = 0) : ¬ (a ≤ v ∧ v ≤ b) := fun h9 => by unfold wiF at h; rw [if_pos h9] at h; exact absurd h (by decide)
theorem wi_ok {v a b : Int} (h : ¬ wiF v a b = 0) : a ≤ v ∧ v ≤ b := by
  unfold wiF at h
  split at h
  · assumption
  · exact absurd rfl h
theorem mp_turn {l : Launch} {γ : Gh} {ρ m : Mm} {c r : Int} (hc : -2147483648 ≤ c ∧ c < 2147483648) (hr : -2147483648 ≤ r ∧ r < 2147483648) {s : Int → Int} {Λ : Mm} {hl tl : List Int} (hL : LY ρ) (hR : MR m) (hW : WL Λ) (hM : MLand m Λ hl tl) (hs : MRow m s) (hσ : WS Λ 0 (sig0 s)) (hz : m 84 51 = 0) {n : Int} {α : Mm} (hA : AcM m n α) (hn : 0 ≤ n ∧ n ≤ 40) (hf : ∀ k, 0 ≤ k → k < 3 → m 92 k < 2000000000) : gE l γ μX11_turn 3 0 0 (rI KK fun x ρ9 m9 => ρ = ρ9 ∧ MR m9 ∧ m9 84 0 = cdR Λ c r ∧ (cdR Λ c r ≠ 0 → FX [84] [0] m m9) ∧ (cdR Λ c r = 0 → ((s (17 + c) = r) → x = -1 ∧ RfX m m9 1) ∧ (¬ (s (17 + c) = r) → s (17 + c) = x ∧ AcM m9 (keepN n) (keepA n α s) ∧ MRow m9 (up s (17 + c) r) ∧ FX [84, 103, 104] [0, 45] m m9))) xN KK ρ m [vR 84, vI c, vI r] := by
  refine gE.ofw cl_X11.2 ?_ rfl rfl (Nat.le_of_ble_eq_true rfl)
  show gT l γ μX11_turn 3 0 0 _ _ KK ρ m 0 [some (vR 84), some (vI c), some (vI r), none] []
  have hn1 := hW.1
  have hn8 := hW.2.1
  refine tz_aload0 (n := 1) (g_at ck_X11_turn 0 rfl) rfl (g_ne kd_84) ?_
  refine tz_iconst (n := 2) (g_at ck_X11_turn 1 rfl) rfl ?_
  refine tz_putIr (n := 5) (kz := 0) fk_X11_132 kd_84 (g_at ck_X11_turn 2 rfl) rfl hR ⟨(by decide), (by decide)⟩ rfl (fun hR1 => ?_)
  obtain ⟨m0, e0⟩ : ∃ m0, m0 = wr m 84 0 0 := ⟨_, rfl⟩
  rw [← e0] at hR1 ⊢
  have hk0 : mK m m0 := by rw [e0]; exact mK.w0
  have hM0 := hk0.land hM
  have hs0 := hk0.row hs
  have hz0 : m0 84 51 = 0 := hk0.w51.trans hz
  have h00 : m0 84 0 = 0 := by rw [e0, wr_same]
  have hw0 := hw_0 hz0
  have hU0 : FX [84] [0] m m0 := by rw [e0]; exact FX.w0
  have hA0 := hA.x hU0 (by decide) (by decide)
  have hf0 : ∀ k, 0 ≤ k → k < 3 → m0 92 k < 2000000000 := by rw [hU0.1 92 (by decide)]; exact hf
  refine tz_aload0 (n := 6) (g_at ck_X11_turn 3 rfl) rfl (g_ne kd_84) ?_
  refine tz_iload1 (n := 7) (g_at ck_X11_turn 4 rfl) rfl ?_
  refine tz_iload2 (n := 8) (g_at ck_X11_turn 5 rfl) rfl ?_
  refine tz_cvI2 (n := 11) (μ' := μX11_isRoad) (cb' := 0) (sb' := 0) ml_X11_402 mo_X11_isRoad mv_X11_isRoad np_X11_isRoad kd_84 (g_at ck_X11_turn 6 rfl) (mp_isRoad hc hr hL hR1 hW hM0 h00) rfl rfl rfl ⟨by decide, by decide⟩ (Nat.le_of_ble_eq_true rfl) (by decide) (by decide) (fun x8 ρ9 m8 hq => ?_)
  obtain ⟨rfl, hR2, hq8⟩ := hq
  refine tz_if_ne (n := 14) (tgt := 16) (g_at ck_X11_turn 7 rfl) rfl rfl (by rcases hq8.b01 with h9 | h9 <;> omega) (fun h11 => ?_) (fun h11 => ?_)
  · skip
    obtain ⟨hc0, rfl⟩ := hq8.ok h11
    have hi0 := cdR_i hc0
    have hcw := hW.2.2.1 c hi0.1 hi0.2.1
    have hsc := sig0_WS_c hσ (c := c) ⟨hi0.1, hi0.2.1⟩
    refine tz_aload0 (n := 17) (g_at ck_X11_turn 10 rfl) rfl (g_ne kd_84) ?_
    refine tz_getAv (n := 20) (a := 103) fk_X11_75 kd_84 (ly_84_43 hL) (g_at ck_X11_turn 11 rfl) rfl ?_
    refine tz_bipush (n := 22) (g_at ck_X11_turn 12 rfl) rfl rfl ?_
    refine tz_iload1 (n := 23) (g_at ck_X11_turn 13 rfl) rfl ?_
    refine tz_iadd (n := 24) (g_at ck_X11_turn 14 rfl) rfl ?_
    refine tz_iald (n := 25) kd_103 (by omega) (g_at ck_X11_turn 15 rfl) rfl ?_
    rw [hs0 (17 + c) (by omega) (by omega)]
    refine tz_istore3 (n := 26) (g_at ck_X11_turn 16 rfl) rfl (by decide) g_hpI ?_
    refine tz_iload3 (n := 27) (g_at ck_X11_turn 17 rfl) rfl ?_
    refine tz_iload2 (n := 28) (g_at ck_X11_turn 18 rfl) rfl ?_
    refine tz_icmp_ne (n := 31) (tgt := 37) (g_at ck_X11_turn 19 rfl) rfl rfl (by omega) (fun h28 => ?_) (fun h28 => ?_)
    · skip
      refine tz_aload0 (n := 38) (g_at ck_X11_turn 24 rfl) rfl (g_ne kd_84) ?_
      refine tz_cvV0 (n := 41) (μ' := μX11_keeps) (cb' := 0) (sb' := 0) ml_X11_414 mo_X11_keeps mv_X11_keeps np_X11_keeps kd_84 (g_at ck_X11_turn 25 rfl) (mp_keeps hL hR2 hA0 hn hs0) rfl rfl rfl ⟨by decide, by decide⟩ (Nat.le_of_ble_eq_true rfl) (by decide) (by decide) (fun ρ9 m38 hq => ?_)
      obtain ⟨rfl, hR3, hA38, hX38⟩ := hq
      have hs9 := hs0.x hX38 (by decide)
      have hV9 : FX [84, 103, 104] [0, 45] m m38 := (hU0.sub (by decide) (by decide)).tr (hX38.sub (by decide) (by decide))
      refine tz_aload0 (n := 42) (g_at ck_X11_turn 26 rfl) rfl (g_ne kd_84) ?_
      refine tz_getAv (n := 45) (a := 103) fk_X11_75 kd_84 (ly_84_43 hL) (g_at ck_X11_turn 27 rfl) rfl ?_
      refine tz_bipush (n := 47) (g_at ck_X11_turn 28 rfl) rfl rfl ?_
      refine tz_iload1 (n := 48) (g_at ck_X11_turn 29 rfl) rfl ?_
      refine tz_iadd (n := 49) (g_at ck_X11_turn 30 rfl) rfl ?_
      refine tz_iload2 (n := 50) (g_at ck_X11_turn 31 rfl) rfl ?_
      refine tz_iastr (n := 51) kd_103 (by omega) (g_at ck_X11_turn 32 rfl) rfl hR3 ⟨hr.1, hr.2⟩ (fun hR4 => ?_)
      refine tz_iload3 (n := 52) (g_at ck_X11_turn 33 rfl) rfl ?_
      exact tz_iret (g_at ck_X11_turn 34 rfl) rfl (rI_mk ⟨rfl, hR4, by rw [wr_ne (by decide), hX38.2 0 (by decide), h00, hc0], fun h9 => absurd (by rw [hc0]) h9, fun _ => ⟨fun h9 => absurd h9 h28, fun _ => ⟨rfl, hA38.x (L := [103]) (ks := []) (FX.rf.w (by decide) (fun h9 => absurd h9 (by decide))) (by decide) (by decide), hs9.up, hV9.w (by decide) (fun h9 => absurd h9 (by decide))⟩⟩⟩)
    · skip
      refine tz_aload0 (n := 32) (g_at ck_X11_turn 20 rfl) rfl (g_ne kd_84) ?_
      refine tz_iconst (n := 33) (g_at ck_X11_turn 21 rfl) rfl ?_
      refine tz_cvI1 (n := 36) (μ' := μX11_refuses) (cb' := 0) (sb' := 0) ml_X11_411 mo_X11_refuses mv_X11_refuses np_X11_refuses kd_84 (g_at ck_X11_turn 22 rfl) (mp_refuses hL hR2 (by decide) (hf0 1 (by decide) (by decide))) rfl rfl rfl ⟨by decide, by decide⟩ (Nat.le_of_ble_eq_true rfl) (by decide) (by decide) (fun x33 ρ9 m33 hq => ?_)
      obtain ⟨rfl, hR5, rfl, rfl⟩ := hq
      exact tz_iret (g_at ck_X11_turn 23 rfl) rfl (rI_mk ⟨rfl, hR5, by rw [wr_ne (by decide), h00, hc0], fun h9 => absurd (by rw [hc0]) h9, fun _ => ⟨fun _ => ⟨rfl, RfX.mk hU0⟩, fun h9 => absurd h28 h9⟩⟩)
  · skip
    refine tz_iconst (n := 15) (g_at ck_X11_turn 8 rfl) rfl ?_
    exact tz_iret (g_at ck_X11_turn 9 rfl) rfl (rI_mk ⟨rfl, hR2, by rw [(hq8.no h11).2, wr_same], fun _ => by rw [(hq8.no h11).2]; exact hU0.w (by decide) (fun _ => by decide), fun h9 => absurd h9 (by rw [show (0:Int) = 0 from rfl]; exact (hq8.no h11).1)⟩)
theorem mp_fill {l : Launch} {γ : Gh} {ρ m : Mm} {p y : Int} (hp : -2147483648 ≤ p ∧ p < 2147483648) (hy : -2147483648 ≤ y ∧ y < 2147483648) {s : Int → Int} {Λ : Mm} {hl tl : List Int} (hL : LY ρ) (hR : MR m) (hW : WL Λ) (hM : MLand m Λ hl tl) (hs : MRow m s) (hσ : WS Λ 0 (sig0 s)) (hz : m 84 51 = 0) {n : Int} {α : Mm} (hA : AcM m n α) (hn : 0 ≤ n ∧ n ≤ 40) (hf : ∀ k, 0 ≤ k → k < 3 → m 92 k < 2000000000) : gE l γ μX11_fill 3 0 0 (rI KK fun x ρ9 m9 => ρ = ρ9 ∧ MR m9 ∧ m9 84 0 = cdP Λ p ∧ (cdP Λ p ≠ 0 → FX [84] [0] m m9) ∧ (cdP Λ p = 0 → ((y < 0 ∨ 99 < y ∨ y = s (9 + p)) → x = -1 ∧ RfX m m9 1) ∧ (¬ (y < 0 ∨ 99 < y ∨ y = s (9 + p)) → s (9 + p) = x ∧ AcM m9 (keepN n) (keepA n α s) ∧ MRow m9 (up s (9 + p) y) ∧ FX [84, 103, 104] [0, 45] m m9))) xN KK ρ m [vR 84, vI p, vI y] := by
  refine gE.ofw cl_X11.2 ?_ rfl rfl (Nat.le_of_ble_eq_true rfl)
  show gT l γ μX11_fill 3 0 0 _ _ KK ρ m 0 [some (vR 84), some (vI p), some (vI y), none] []
  have hn1 := hW.1
  have hn8 := hW.2.1
  refine tz_aload0 (n := 1) (g_at ck_X11_fill 0 rfl) rfl (g_ne kd_84) ?_
  refine tz_iconst (n := 2) (g_at ck_X11_fill 1 rfl) rfl ?_
  refine tz_putIr (n := 5) (kz := 0) fk_X11_132 kd_84 (g_at ck_X11_fill 2 rfl) rfl hR ⟨(by decide), (by decide)⟩ rfl (fun hR1 => ?_)
  obtain ⟨m0, e0⟩ : ∃ m0, m0 = wr m 84 0 0 := ⟨_, rfl⟩
  rw [← e0] at hR1 ⊢
  have hk0 : mK m m0 := by rw [e0]; exact mK.w0
  have hM0 := hk0.land hM
  have hs0 := hk0.row hs
  have hz0 : m0 84 51 = 0 := hk0.w51.trans hz
  have h00 : m0 84 0 = 0 := by rw [e0, wr_same]
  have hw0 := hw_0 hz0
  have hU0 : FX [84] [0] m m0 := by rw [e0]; exact FX.w0
  have hA0 := hA.x hU0 (by decide) (by decide)
  have hf0 : ∀ k, 0 ≤ k → k < 3 → m0 92 k < 2000000000 := by rw [hU0.1 92 (by decide)]; exact hf
  refine tz_aload0 (n := 6) (g_at ck_X11_fill 3 rfl) rfl (g_ne kd_84) ?_
  refine tz_iload1 (n := 7) (g_at ck_X11_fill 4 rfl) rfl ?_
  refine tz_cvI1 (n := 10) (μ' := μX11_isPerson) (cb' := 0) (sb' := 0) ml_X11_405 mo_X11_isPerson mv_X11_isPerson np_X11_isPerson kd_84 (g_at ck_X11_fill 5 rfl) (mp_isPerson hp hL hR1 hW hM0 h00) rfl rfl rfl ⟨by decide, by decide⟩ (Nat.le_of_ble_eq_true rfl) (by decide) (by decide) (fun x7 ρ9 m7 hq => ?_)
  obtain ⟨rfl, hR2, hq7⟩ := hq
  refine tz_if_ne (n := 13) (tgt := 15) (g_at ck_X11_fill 6 rfl) rfl rfl (by rcases hq7.b01 with h9 | h9 <;> omega) (fun h10 => ?_) (fun h10 => ?_)
  · skip
    obtain ⟨hc0, rfl⟩ := hq7.ok h10
    have hi0 := cdP_i hc0
    have hpw := sig0_WS_n hσ hi0
    refine tz_aload0 (n := 16) (g_at ck_X11_fill 9 rfl) rfl (g_ne kd_84) ?_
    refine tz_getAv (n := 19) (a := 103) fk_X11_75 kd_84 (ly_84_43 hL) (g_at ck_X11_fill 10 rfl) rfl ?_
    refine tz_bipush (n := 21) (g_at ck_X11_fill 11 rfl) rfl rfl ?_
    refine tz_iload1 (n := 22) (g_at ck_X11_fill 12 rfl) rfl ?_
    refine tz_iadd (n := 23) (g_at ck_X11_fill 13 rfl) rfl ?_
    refine tz_iald (n := 24) kd_103 (by omega) (g_at ck_X11_fill 14 rfl) rfl ?_
    rw [hs0 (9 + p) (by omega) (by omega)]
    refine tz_istore3 (n := 25) (g_at ck_X11_fill 15 rfl) rfl (by decide) g_hpI ?_
    refine tz_iload2 (n := 26) (g_at ck_X11_fill 16 rfl) rfl ?_
    refine tz_iconst (n := 27) (g_at ck_X11_fill 17 rfl) rfl ?_
    refine tz_bipush (n := 29) (g_at ck_X11_fill 18 rfl) rfl rfl ?_
    refine tz_csI3 (n := 32) (μ' := μX11_within) (cb' := 0) (sb' := 0) ml_X11_374 mo_X11_within ms_X11_within np_X11_within (g_at ck_X11_fill 19 rfl) (mp_within hR2 hy (by decide) (by decide)) rfl rfl ⟨by decide, by decide⟩ (Nat.le_of_ble_eq_true rfl) (by decide) (by decide) (fun x29 ρ9 m29 hq => ?_)
    obtain ⟨rfl, hR3, rfl, rfl⟩ := hq
    have h01 := wiF_01 y 0 99
    refine tz_if_eq (n := 35) (tgt := 40) (g_at ck_X11_fill 20 rfl) rfl rfl (by omega) (fun h32 => ?_) (fun h32 => ?_)
    · skip
      refine tz_aload0 (n := 41) (g_at ck_X11_fill 24 rfl) rfl (g_ne kd_84) ?_
      refine tz_iconst (n := 42) (g_at ck_X11_fill 25 rfl) rfl ?_
      refine tz_cvI1 (n := 45) (μ' := μX11_refuses) (cb' := 0) (sb' := 0) ml_X11_411 mo_X11_refuses mv_X11_refuses np_X11_refuses kd_84 (g_at ck_X11_fill 26 rfl) (mp_refuses hL hR3 (by decide) (hf0 1 (by decide) (by decide))) rfl rfl rfl ⟨by decide, by decide⟩ (Nat.le_of_ble_eq_true rfl) (by decide) (by decide) (fun x42 ρ9 m42 hq => ?_)
      obtain ⟨rfl, hR4, rfl, rfl⟩ := hq
      exact tz_iret (g_at ck_X11_fill 27 rfl) rfl (rI_mk ⟨rfl, hR4, by rw [wr_ne (by decide), h00, hc0], fun h9 => absurd (by rw [hc0]) h9, fun _ => ⟨fun _ => ⟨rfl, RfX.mk hU0⟩, fun h9 => absurd (by have h9 := wi_no h32; omega) h9⟩⟩)
    · skip
      refine tz_iload3 (n := 36) (g_at ck_X11_fill 21 rfl) rfl ?_
      refine tz_iload2 (n := 37) (g_at ck_X11_fill 22 rfl) rfl ?_
      refine tz_icmp_ne (n := 40) (tgt := 46) (g_at ck_X11_fill 23 rfl) rfl rfl (by omega) (fun h37 => ?_) (fun h37 => ?_)
      · skip
        refine tz_aload0 (n := 47) (g_at ck_X11_fill 28 rfl) rfl (g_ne kd_84) ?_
        refine tz_cvV0 (n := 50) (μ' := μX11_keeps) (cb' := 0) (sb' := 0) ml_X11_414 mo_X11_keeps mv_X11_keeps np_X11_keeps kd_84 (g_at ck_X11_fill 29 rfl) (mp_keeps hL hR3 hA0 hn hs0) rfl rfl rfl ⟨by decide, by decide⟩ (Nat.le_of_ble_eq_true rfl) (by decide) (by decide) (fun ρ9 m47 hq => ?_)
        obtain ⟨rfl, hR5, hA47, hX47⟩ := hq
        have hs9 := hs0.x hX47 (by decide)
        have hV9 : FX [84, 103, 104] [0, 45] m m47 := (hU0.sub (by decide) (by decide)).tr (hX47.sub (by decide) (by decide))
        refine tz_aload0 (n := 51) (g_at ck_X11_fill 30 rfl) rfl (g_ne kd_84) ?_
        refine tz_getAv (n := 54) (a := 103) fk_X11_75 kd_84 (ly_84_43 hL) (g_at ck_X11_fill 31 rfl) rfl ?_
        refine tz_bipush (n := 56) (g_at ck_X11_fill 32 rfl) rfl rfl ?_
        refine tz_iload1 (n := 57) (g_at ck_X11_fill 33 rfl) rfl ?_
        refine tz_iadd (n := 58) (g_at ck_X11_fill 34 rfl) rfl ?_
        refine tz_iload2 (n := 59) (g_at ck_X11_fill 35 rfl) rfl ?_
        refine tz_iastr (n := 60) kd_103 (by omega) (g_at ck_X11_fill 36 rfl) rfl hR5 ⟨hy.1, hy.2⟩ (fun hR6 => ?_)
        refine tz_iload3 (n := 61) (g_at ck_X11_fill 37 rfl) rfl ?_
        exact tz_iret (g_at ck_X11_fill 38 rfl) rfl (rI_mk ⟨rfl, hR6, by rw [wr_ne (by decide), hX47.2 0 (by decide), h00, hc0], fun h9 => absurd (by rw [hc0]) h9, fun _ => ⟨fun h9 => absurd h9 (fun h9 => by have h8 := wi_ok h32; omega), fun _ => ⟨rfl, hA47.x (L := [103]) (ks := []) (FX.rf.w (by decide) (fun h9 => absurd h9 (by decide))) (by decide) (by decide), hs9.up, hV9.w (by decide) (fun h9 => absurd h9 (by decide))⟩⟩⟩)
      · skip
        refine tz_aload0 (n := 41) (g_at ck_X11_fill 24 rfl) rfl (g_ne kd_84) ?_
        refine tz_iconst (n := 42) (g_at ck_X11_fill 25 rfl) rfl ?_
        refine tz_cvI1 (n := 45) (μ' := μX11_refuses) (cb' := 0) (sb' := 0) ml_X11_411 mo_X11_refuses mv_X11_refuses np_X11_refuses kd_84 (g_at ck_X11_fill 26 rfl) (mp_refuses hL hR3 (by decide) (hf0 1 (by decide) (by decide))) rfl rfl rfl ⟨by decide, by decide⟩ (Nat.le_of_ble_eq_true rfl) (by decide) (by decide) (fun x42 ρ9 m42 hq => ?_)
        obtain ⟨rfl, hR7, rfl, rfl⟩ := hq
        exact tz_iret (g_at ck_X11_fill 27 rfl) rfl (rI_mk ⟨rfl, hR7, by rw [wr_ne (by decide), h00, hc0], fun h9 => absurd (by rw [hc0]) h9, fun _ => ⟨fun _ => ⟨rfl, RfX.mk hU0⟩, fun h9 => absurd (Or.inr (Or.inr h37.symm)) h9⟩⟩)
  · skip
    refine tz_iconst (n := 14) (g_at ck_X11_fill 7 rfl) rfl ?_
    exact tz_iret (g_at ck_X11_fill 8 rfl) rfl (rI_mk ⟨rfl, hR2, by rw [(hq7.no h10).2, wr_same], fun _ => by rw [(hq7.no h10).2]; exact hU0.w (by decide) (fun _ => by decide), fun h9 => absurd h9 (by rw [show (0:Int) = 0 from rfl]; exact (hq7.no h10).1)⟩)
theorem mp_set {l : Launch} {γ : Gh} {ρ m : Mm} {p c : Int} (hp : -2147483648 ≤ p ∧ p < 2147483648) (hc : -2147483648 ≤ c ∧ c < 2147483648) {s : Int → Int} {Λ : Mm} {hl tl : List Int} (hL : LY ρ) (hR : MR m) (hW : WL Λ) (hM : MLand m Λ hl tl) (hs : MRow m s) (hσ : WS Λ 0 (sig0 s)) (hz : m 84 51 = 0) {n : Int} {α : Mm} (hA : AcM m n α) (hn : 0 ≤ n ∧ n ≤ 40) (hf : ∀ k, 0 ≤ k → k < 3 → m 92 k < 2000000000) : gE l γ μX11_set 3 0 0 (rI KK fun x ρ9 m9 => ρ = ρ9 ∧ MR m9 ∧ m9 84 0 = sq (cdP Λ p) (cdC Λ c) ∧ (sq (cdP Λ p) (cdC Λ c) ≠ 0 → FX [84] [0] m m9) ∧ (sq (cdP Λ p) (cdC Λ c) = 0 → ((s (1 + p) = c) → x = -1 ∧ RfX m m9 1) ∧ (¬ (s (1 + p) = c) → s (1 + p) = x ∧ AcM m9 (keepN n) (keepA n α s) ∧ MRow m9 (up s (1 + p) c) ∧ FX [84, 103, 104] [0, 45] m m9))) xN KK ρ m [vR 84, vI p, vI c] := by
  refine gE.ofw cl_X11.2 ?_ rfl rfl (Nat.le_of_ble_eq_true rfl)
  show gT l γ μX11_set 3 0 0 _ _ KK ρ m 0 [some (vR 84), some (vI p), some (vI c), none] []
  have hn1 := hW.1
  have hn8 := hW.2.1
  refine tz_aload0 (n := 1) (g_at ck_X11_set 0 rfl) rfl (g_ne kd_84) ?_
  refine tz_iconst (n := 2) (g_at ck_X11_set 1 rfl) rfl ?_
  refine tz_putIr (n := 5) (kz := 0) fk_X11_132 kd_84 (g_at ck_X11_set 2 rfl) rfl hR ⟨(by decide), (by decide)⟩ rfl (fun hR1 => ?_)
  obtain ⟨m0, e0⟩ : ∃ m0, m0 = wr m 84 0 0 := ⟨_, rfl⟩
  rw [← e0] at hR1 ⊢
  have hk0 : mK m m0 := by rw [e0]; exact mK.w0
  have hM0 := hk0.land hM
  have hs0 := hk0.row hs
  have hz0 : m0 84 51 = 0 := hk0.w51.trans hz
  have h00 : m0 84 0 = 0 := by rw [e0, wr_same]
  have hw0 := hw_0 hz0
  have hU0 : FX [84] [0] m m0 := by rw [e0]; exact FX.w0
  have hA0 := hA.x hU0 (by decide) (by decide)
  have hf0 : ∀ k, 0 ≤ k → k < 3 → m0 92 k < 2000000000 := by rw [hU0.1 92 (by decide)]; exact hf
  refine tz_aload0 (n := 6) (g_at ck_X11_set 3 rfl) rfl (g_ne kd_84) ?_
  refine tz_iload1 (n := 7) (g_at ck_X11_set 4 rfl) rfl ?_
  refine tz_cvI1 (n := 10) (μ' := μX11_isPerson) (cb' := 0) (sb' := 0) ml_X11_405 mo_X11_isPerson mv_X11_isPerson np_X11_isPerson kd_84 (g_at ck_X11_set 5 rfl) (mp_isPerson hp hL hR1 hW hM0 h00) rfl rfl rfl ⟨by decide, by decide⟩ (Nat.le_of_ble_eq_true rfl) (by decide) (by decide) (fun x7 ρ9 m7 hq => ?_)
  obtain ⟨rfl, hR2, hq7⟩ := hq
  refine tz_if_eq (n := 13) (tgt := 21) (g_at ck_X11_set 6 rfl) rfl rfl (by rcases hq7.b01 with h9 | h9 <;> omega) (fun h10 => ?_) (fun h10 => ?_)
  · skip
    refine tz_iconst (n := 22) (g_at ck_X11_set 11 rfl) rfl ?_
    exact tz_iret (g_at ck_X11_set 12 rfl) rfl (rI_mk ⟨rfl, hR2, by rw [(hq7.no h10).2, wr_same, sqn (hq7.no h10).1], fun _ => by rw [(hq7.no h10).2]; exact hU0.w (by decide) (fun _ => by decide), fun h9 => absurd h9 (by rw [sqn (hq7.no h10).1]; exact (hq7.no h10).1)⟩)
  · skip
    obtain ⟨hc0, rfl⟩ := hq7.ok h10
    have hi0 := cdP_i hc0
    refine tz_aload0 (n := 14) (g_at ck_X11_set 7 rfl) rfl (g_ne kd_84) ?_
    refine tz_iload2 (n := 15) (g_at ck_X11_set 8 rfl) rfl ?_
    refine tz_cvI1 (n := 18) (μ' := μX11_isCrossing) (cb' := 0) (sb' := 0) ml_X11_393 mo_X11_isCrossing mv_X11_isCrossing np_X11_isCrossing kd_84 (g_at ck_X11_set 9 rfl) (mp_isCrossing hc hL hR2 hW hM0 h00) rfl rfl rfl ⟨by decide, by decide⟩ (Nat.le_of_ble_eq_true rfl) (by decide) (by decide) (fun x15 ρ9 m15 hq => ?_)
    obtain ⟨rfl, hR3, hq15⟩ := hq
    refine tz_if_ne (n := 21) (tgt := 23) (g_at ck_X11_set 10 rfl) rfl rfl (by rcases hq15.b01 with h9 | h9 <;> omega) (fun h18 => ?_) (fun h18 => ?_)
    · skip
      obtain ⟨hc1, rfl⟩ := hq15.ok h18
      have hi1 := cdC_i hc1
      have hpw := sig0_WS_n hσ hi0
      refine tz_aload0 (n := 24) (g_at ck_X11_set 13 rfl) rfl (g_ne kd_84) ?_
      refine tz_getAv (n := 27) (a := 103) fk_X11_75 kd_84 (ly_84_43 hL) (g_at ck_X11_set 14 rfl) rfl ?_
      refine tz_iconst (n := 28) (g_at ck_X11_set 15 rfl) rfl ?_
      refine tz_iload1 (n := 29) (g_at ck_X11_set 16 rfl) rfl ?_
      refine tz_iadd (n := 30) (g_at ck_X11_set 17 rfl) rfl ?_
      refine tz_iald (n := 31) kd_103 (by omega) (g_at ck_X11_set 18 rfl) rfl ?_
      rw [hs0 (1 + p) (by omega) (by omega)]
      refine tz_istore3 (n := 32) (g_at ck_X11_set 19 rfl) rfl (by decide) g_hpI ?_
      refine tz_iload3 (n := 33) (g_at ck_X11_set 20 rfl) rfl ?_
      refine tz_iload2 (n := 34) (g_at ck_X11_set 21 rfl) rfl ?_
      refine tz_icmp_ne (n := 37) (tgt := 43) (g_at ck_X11_set 22 rfl) rfl rfl (by omega) (fun h34 => ?_) (fun h34 => ?_)
      · skip
        refine tz_aload0 (n := 44) (g_at ck_X11_set 27 rfl) rfl (g_ne kd_84) ?_
        refine tz_cvV0 (n := 47) (μ' := μX11_keeps) (cb' := 0) (sb' := 0) ml_X11_414 mo_X11_keeps mv_X11_keeps np_X11_keeps kd_84 (g_at ck_X11_set 28 rfl) (mp_keeps hL hR3 hA0 hn hs0) rfl rfl rfl ⟨by decide, by decide⟩ (Nat.le_of_ble_eq_true rfl) (by decide) (by decide) (fun ρ9 m44 hq => ?_)
        obtain ⟨rfl, hR4, hA44, hX44⟩ := hq
        have hs9 := hs0.x hX44 (by decide)
        have hV9 : FX [84, 103, 104] [0, 45] m m44 := (hU0.sub (by decide) (by decide)).tr (hX44.sub (by decide) (by decide))
        refine tz_aload0 (n := 48) (g_at ck_X11_set 29 rfl) rfl (g_ne kd_84) ?_
        refine tz_getAv (n := 51) (a := 103) fk_X11_75 kd_84 (ly_84_43 hL) (g_at ck_X11_set 30 rfl) rfl ?_
        refine tz_iconst (n := 52) (g_at ck_X11_set 31 rfl) rfl ?_
        refine tz_iload1 (n := 53) (g_at ck_X11_set 32 rfl) rfl ?_
        refine tz_iadd (n := 54) (g_at ck_X11_set 33 rfl) rfl ?_
        refine tz_iload2 (n := 55) (g_at ck_X11_set 34 rfl) rfl ?_
        refine tz_iastr (n := 56) kd_103 (by omega) (g_at ck_X11_set 35 rfl) rfl hR4 ⟨hc.1, hc.2⟩ (fun hR5 => ?_)
        refine tz_iload3 (n := 57) (g_at ck_X11_set 36 rfl) rfl ?_
        exact tz_iret (g_at ck_X11_set 37 rfl) rfl (rI_mk ⟨rfl, hR5, by rw [wr_ne (by decide), hX44.2 0 (by decide), h00, hc0, hc1]; rfl, fun h9 => absurd (by rw [hc0, hc1]; rfl) h9, fun _ => ⟨fun h9 => absurd h9 h34, fun _ => ⟨rfl, hA44.x (L := [103]) (ks := []) (FX.rf.w (by decide) (fun h9 => absurd h9 (by decide))) (by decide) (by decide), hs9.up, hV9.w (by decide) (fun h9 => absurd h9 (by decide))⟩⟩⟩)
      · skip
        refine tz_aload0 (n := 38) (g_at ck_X11_set 23 rfl) rfl (g_ne kd_84) ?_
        refine tz_iconst (n := 39) (g_at ck_X11_set 24 rfl) rfl ?_
        refine tz_cvI1 (n := 42) (μ' := μX11_refuses) (cb' := 0) (sb' := 0) ml_X11_411 mo_X11_refuses mv_X11_refuses np_X11_refuses kd_84 (g_at ck_X11_set 25 rfl) (mp_refuses hL hR3 (by decide) (hf0 1 (by decide) (by decide))) rfl rfl rfl ⟨by decide, by decide⟩ (Nat.le_of_ble_eq_true rfl) (by decide) (by decide) (fun x39 ρ9 m39 hq => ?_)
        obtain ⟨rfl, hR6, rfl, rfl⟩ := hq
        exact tz_iret (g_at ck_X11_set 26 rfl) rfl (rI_mk ⟨rfl, hR6, by rw [wr_ne (by decide), h00, hc0, hc1]; rfl, fun h9 => absurd (by rw [hc0, hc1]; rfl) h9, fun _ => ⟨fun _ => ⟨rfl, RfX.mk hU0⟩, fun h9 => absurd h34 h9⟩⟩)
    · skip
      refine tz_iconst (n := 22) (g_at ck_X11_set 11 rfl) rfl ?_
      exact tz_iret (g_at ck_X11_set 12 rfl) rfl (rI_mk ⟨rfl, hR3, by rw [(hq15.no h18).2, wr_same, hc0, sq0], fun _ => by rw [(hq15.no h18).2]; exact hU0.w (by decide) (fun _ => by decide), fun h9 => absurd h9 (by rw [hc0, sq0]; exact (hq15.no h18).1)⟩)
