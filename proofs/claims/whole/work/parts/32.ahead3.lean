/-! parting, together, visited, round, uneven. -/
section
variable {m m9 σ : Mm} {s : Int → Int} {ld : Int}
theorem nowD (h : MomC m 39 s) : m 39 0 = s 0 := h.1
theorem nowW (h : MomC m 39 s) (p : Int) (hp : 0 ≤ p ∧ p < 8) : m 40 p = s (1 + p) := (h.2.1 p hp.1 hp.2).1
theorem nowP (h : MomC m 39 s) (p : Int) (hp : 0 ≤ p ∧ p < 8) : m 41 p = s (9 + p) := (h.2.1 p hp.1 hp.2).2
theorem nowA (h : MomC m 39 s) (c : Int) (hc : 0 ≤ c ∧ c < 9) : m 42 c = s (17 + c) := (h.2.2 c hc.1 hc.2).1
theorem nowS (h : MomC m 39 s) (c : Int) (hc : 0 ≤ c ∧ c < 9) : m 43 c = s (26 + c) := (h.2.2 c hc.1 hc.2).2
theorem MomC.sam (h : MomC m 39 s) (k : ∀ a, 39 ≤ a → a ≤ 43 → m9 a = m a) : MomC m9 39 s := by
  refine ⟨by rw [k 39 (by decide) (by decide)]; exact h.1, fun p a b => ?_, fun p a b => ?_⟩
  · rw [k (39 + 1) (by decide) (by decide), k (39 + 2) (by decide) (by decide)]
    exact h.2.1 p a b
  · rw [k (39 + 3) (by decide) (by decide), k (39 + 4) (by decide) (by decide)]
    exact h.2.2 p a b
theorem MomC.fr (h : MomC m 39 s) (hld : ld = 3 ∨ ld = 20) (k : Fr (trL ld) m m9) : MomC m9 39 s := h.sam fun a h1 h2 => k a fun h9 => by
  have := trL_no hld h9
  omega
def likeP (σ : Mm) (s : Int → Int) : Int := if (∀ c : Nat, c < 9 → σ 0 (17 + (c : Int)) = s (17 + (c : Int))) ∧ ∀ p : Nat, p < 8 → σ 0 (1 + (p : Int)) = s (1 + (p : Int)) then 1 else 0
theorem like_tn (hT : TripC m σ) (hN : MomC m 39 s) : likeM m 63 39 = likeP σ s := by
  unfold likeM likeP
  have e : ((∀ c : Nat, c < 9 → m (63 + 3) (c : Int) = m (39 + 3) (c : Int)) ∧ ∀ p : Nat, p < 8 → m (63 + 1) (p : Int) = m (39 + 1) (p : Int)) ↔ ((∀ c : Nat, c < 9 → σ 0 (17 + (c : Int)) = s (17 + (c : Int))) ∧ ∀ p : Nat, p < 8 → σ 0 (1 + (p : Int)) = s (1 + (p : Int))) := by
    constructor
    · intro h
      refine ⟨fun c hc => ?_, fun p hp => ?_⟩
      · rw [← hT.arm c (by omega), ← nowA hN c (by omega)]; exact h.1 c hc
      · rw [← hT.whr p (by omega), ← nowW hN p (by omega)]; exact h.2 p hp
    · intro h
      refine ⟨fun c hc => ?_, fun p hp => ?_⟩
      · have := h.1 c hc
        rw [← hT.arm c (by omega), ← nowA hN c (by omega)] at this; exact this
      · have := h.2 p hp
        rw [← hT.whr p (by omega), ← nowW hN p (by omega)] at this; exact this
  by_cases k : (∀ c : Nat, c < 9 → m (63 + 3) (c : Int) = m (39 + 3) (c : Int)) ∧ ∀ p : Nat, p < 8 → m (63 + 1) (p : Int) = m (39 + 1) (p : Int)
  · rw [if_pos k, if_pos (e.mp k)]
  · rw [if_neg k, if_neg (fun h => k (e.mpr h))]
end
def togN (Λ : Mm) (hl tl : List Int) (s : Int → Int) (p o : Int) (n : Nat) : Int := fd (fun i v => if daysP Λ hl tl (sig0 s) (i + 1) 0 (1 + p) = daysP Λ hl tl (sig0 s) (i + 1) 0 (1 + o) then v + 1 else v) 0 n
def visN (Λ : Mm) (hl tl : List Int) (s : Int → Int) (p : Int) (n : Nat) : Int := fd (fun i v => bOr v (bShl 1 (daysP Λ hl tl (sig0 s) (i + 1) 0 (1 + p)))) (bShl 1 (sig0 s 0 (1 + p))) n
def mxG (σ : Mm) (c : Int) (n : Nat) : Int := fd (fun r v => if v < σ 2 (c * 5 + (r : Int)) then σ 2 (c * 5 + (r : Int)) else v) 0 n
def mnG (σ : Mm) (c : Int) (n : Nat) : Int := fd (fun r v => if σ 2 (c * 5 + (r : Int)) < v then σ 2 (c * 5 + (r : Int)) else v) 9999 n
theorem mxG_rg {Λ σ : Mm} {b c : Int} (h : WS Λ b σ) (hb : 0 ≤ b ∧ b ≤ 1200) (hc : 0 ≤ c ∧ c < 9) : ∀ n : Nat, n ≤ 5 → (0 ≤ mxG σ c n ∧ mxG σ c n ≤ 9999) ∧ (0 ≤ mnG σ c n ∧ mnG σ c n ≤ 9999)
  | 0, _ => by show ((0 : Int) ≤ 0 ∧ (0 : Int) ≤ 9999) ∧ ((0 : Int) ≤ 9999 ∧ (9999 : Int) ≤ 9999); decide
  | n + 1, hn => by
    have ih := mxG_rg h hb hc n (by omega)
    have k := h.2.2.2 (c * 5 + (n : Int)) (by omega) (by omega)
    show (0 ≤ (if mxG σ c n < σ 2 (c * 5 + (n : Int)) then σ 2 (c * 5 + (n : Int)) else mxG σ c n) ∧ (if mxG σ c n < σ 2 (c * 5 + (n : Int)) then σ 2 (c * 5 + (n : Int)) else mxG σ c n) ≤ 9999) ∧ (0 ≤ (if σ 2 (c * 5 + (n : Int)) < mnG σ c n then σ 2 (c * 5 + (n : Int)) else mnG σ c n) ∧ (if σ 2 (c * 5 + (n : Int)) < mnG σ c n then σ 2 (c * 5 + (n : Int)) else mnG σ c n) ≤ 9999)
    refine ⟨?_, ?_⟩ <;> split <;> omega
theorem sp_parting {l : Launch} {γ : Gh} {ρ m : Mm} {p o : Int} (hp : -2147483648 ≤ p ∧ p < 2147483648) (ho : -2147483648 ≤ o ∧ o < 2147483648) {ld : Int} {Λ : Mm} {hl tl : List Int} (hL : LY ρ) (hLn : ρ 1 3 = ld) (hS : isS ρ ld) (hR : MR m) (hW : WL Λ) (hG : LandC m ld Λ hl tl) {s : Int → Int} (hN : MomC m 39 s) (hσ : WS Λ 0 (sig0 s)) : gE l γ μX10_parting 7 2 12 (rI KK fun x ρ9 m9 => qR ρ ρ9 ∧ MR m9 ∧ qM ld m m9 ∧ sq (cdP Λ p) (cdP Λ o) = 0 ∧ ((p = o ∨ s (1 + p) ≠ s (1 + o)) → x = -1) ∧ (¬ (p = o ∨ s (1 + p) ≠ s (1 + o)) → isF1 (fun j => ¬ ((daysP Λ hl tl (sig0 s) (j + 1)) 0 (1 + p) = (daysP Λ hl tl (sig0 s) (j + 1)) 0 (1 + o))) 100 x)) (xC ρ m (sq (cdP Λ p) (cdP Λ o))) KK ρ m [vR 1, vI p, vI o] := by
  refine gE.ofw cl_X10.2 ?_ rfl rfl (Nat.le_of_ble_eq_true rfl)
  show gT l γ μX10_parting 7 2 12 _ _ KK ρ m 0 [some (vR 1), some (vI p), some (vI o), none] []
  have hn1 := hW.1
  have hn8 := hW.2.1
  have hld := hG.ld9
  refine tz_aload0 (n := 1) (g_at ck_X10_parting 0 rfl) rfl (g_ne kd_1) ?_
  refine tz_iload1 (n := 2) (g_at ck_X10_parting 1 rfl) rfl ?_
  refine tz_cvxV1 (n := 5) (μ' := μX10_needPerson) (cb' := 1) (sb' := 6) ml_X10_221 mo_X10_needPerson mv_X10_needPerson np_X10_needPerson kd_1 (g_at ck_X10_parting 2 rfl) (sp_needP ⟨hp.1, hp.2⟩ hL hLn hS hR hW hG) rfl rfl rfl ⟨by decide, by decide⟩ (Nat.le_of_ble_eq_true rfl) (by decide) (by decide) (g_in (g_m5 (List.mem_of_getElem? (i := 68) rfl)) rfl) (fun E9 ρ9 m9 h9 => g_gX_out rfl h9.1 h9.2.1 (sq_1 h9.2.2)) (fun ρ9 m2 hq => ?_)
  obtain ⟨rfl, hR1, rfl, hz2⟩ := hq
  have hp2 := cdP_0 hz2
  refine tz_aload0 (n := 6) (g_at ck_X10_parting 3 rfl) rfl (g_ne kd_1) ?_
  refine tz_iload2 (n := 7) (g_at ck_X10_parting 4 rfl) rfl ?_
  refine tz_cvxV1 (n := 10) (μ' := μX10_needPerson) (cb' := 0) (sb' := 0) ml_X10_221 mo_X10_needPerson mv_X10_needPerson np_X10_needPerson kd_1 (g_at ck_X10_parting 5 rfl) (sp_needP ⟨ho.1, ho.2⟩ hL hLn hS hR1 hW hG) rfl rfl rfl ⟨by decide, by decide⟩ (Nat.le_of_ble_eq_true rfl) (by decide) (by decide) (g_in (g_m5 (List.mem_of_getElem? (i := 68) rfl)) rfl) (fun E9 ρ9 m9 h9 => g_gX_out rfl h9.1 h9.2.1 (sq_2 hz2 h9.2.2)) (fun ρ9 m7 hq => ?_)
  obtain ⟨rfl, hR2, rfl, hz7⟩ := hq
  have ho2 := cdP_0 hz7
  refine tz_iload1 (n := 11) (g_at ck_X10_parting 6 rfl) rfl ?_
  refine tz_iload2 (n := 12) (g_at ck_X10_parting 7 rfl) rfl ?_
  refine tz_icmp_eq (n := 15) (tgt := 36) (g_at ck_X10_parting 8 rfl) rfl rfl ⟨hp.1, hp.2, ho.1, ho.2⟩ (fun h12 => ?_) (fun h12 => ?_)
  · skip
    refine tz_iconst (n := 37) (g_at ck_X10_parting 20 rfl) rfl ?_
    exact tz_iret (g_at ck_X10_parting 21 rfl) rfl (rI_mk ⟨qR.rf, hR2, qM.rf, sq_0 hz2 hz7, fun _ => rfl, fun h9 => absurd (Or.inl h12) h9⟩)
  · skip
    have hs1 : 0 ≤ s (1 + p) ∧ s (1 + p) < Λ 0 0 := ⟨(hσ.2.1 p hp2.1 hp2.2).1, (hσ.2.1 p hp2.1 hp2.2).2.1⟩
    have hs2 : 0 ≤ s (1 + o) ∧ s (1 + o) < Λ 0 0 := ⟨(hσ.2.1 o ho2.1 ho2.2).1, (hσ.2.1 o ho2.1 ho2.2).2.1⟩
    refine tz_aload0 (n := 16) (g_at ck_X10_parting 9 rfl) rfl (g_ne kd_1) ?_
    refine tz_getOv (n := 19) (a := 39) fk_X10_39 kd_1 (ly_1_6 hL) (g_at ck_X10_parting 10 rfl) rfl ?_
    refine tz_getAv (n := 22) (a := 40) fk_X10_224 (isM_39 hL).k0 (isM_39 hL).r0_1 (g_at ck_X10_parting 11 rfl) rfl ?_
    refine tz_iload1 (n := 23) (g_at ck_X10_parting 12 rfl) rfl ?_
    refine tz_iald (n := 24) (isM_39 hL).k1 (by omega) (g_at ck_X10_parting 13 rfl) rfl ?_
    rw [nowW hN p (by omega)]
    refine tz_aload0 (n := 25) (g_at ck_X10_parting 14 rfl) rfl (g_ne kd_1) ?_
    refine tz_getOv (n := 28) (a := 39) fk_X10_39 kd_1 (ly_1_6 hL) (g_at ck_X10_parting 15 rfl) rfl ?_
    refine tz_getAv (n := 31) (a := 40) fk_X10_224 (isM_39 hL).k0 (isM_39 hL).r0_1 (g_at ck_X10_parting 16 rfl) rfl ?_
    refine tz_iload2 (n := 32) (g_at ck_X10_parting 17 rfl) rfl ?_
    refine tz_iald (n := 33) (isM_39 hL).k1 (by omega) (g_at ck_X10_parting 18 rfl) rfl ?_
    rw [nowW hN o (by omega)]
    refine tz_icmp_eq (n := 36) (tgt := 38) (g_at ck_X10_parting 19 rfl) rfl rfl ⟨by omega, by omega, by omega, by omega⟩ (fun h33 => ?_) (fun h33 => ?_)
    · skip
      refine tz_aload0 (n := 39) (g_at ck_X10_parting 22 rfl) rfl (g_ne kd_1) ?_
      refine tz_cvR0 (n := 42) (μ' := μX10_setOut) (cb' := 0) (sb' := 0) ml_X10_251 mo_X10_setOut mv_X10_setOut np_X10_setOut kd_1 (g_at ck_X10_parting 23 rfl) (sp_setOut hL hLn hS hR2 hW hG hN) rfl rfl rfl ⟨by decide, by decide⟩ (Nat.le_of_ble_eq_true rfl) (by decide) (by decide) (fun x39 ρ9 m39 hq => ?_)
      obtain ⟨rfl, rfl, hR3, hT39, hF39⟩ := hq
      have hQ39 := qM_trL (hF39.sub (trL_be (ld := ld)))
      have hG39 := hG.fr (hF39.sub trL_be)
      have hL := LY_wr (r := 62) (k := 0) (x := ld) hL (by decide)
      have hLt : wr ρ 62 0 ld 62 0 = ld := wr_same
      have hLn : wr ρ 62 0 ld 1 3 = ld := (by rw [wr_ne (by decide)]; exact hLn)
      have hS : isS (wr ρ 62 0 ld) ld := isS_of hL hld
      refine tz_popR (n := 43) (g_at ck_X10_parting 24 rfl) rfl ?_
      refine tz_iconst (n := 44) (g_at ck_X10_parting 25 rfl) rfl ?_
      refine tz_istore3 (n := 45) (g_at ck_X10_parting 26 rfl) rfl (by decide) g_hpI ?_
      refine g_for (fun i : Nat => ∀ m1 : Mm, (MR m1 ∧ TripC m1 (daysP Λ hl tl (sig0 s) i) ∧ Fr (trL ld) m m1 ∧ ∀ j : Nat, j < i → ¬ (¬ ((daysP Λ hl tl (sig0 s) (j + 1)) 0 (1 + p) = (daysP Λ hl tl (sig0 s) (j + 1)) 0 (1 + o)))) → gT l γ μX10_parting 7 0 0 _ _ KK (wr ρ 62 0 ld) m1 45 [some (vR 1), some (vI p), some (vI o), some (vI ((i : Int) + 1))] []) 100 ?_ (fun i hi ihi => ?_) 0 (Nat.zero_le _) _ ⟨hR3, hT39, hF39.sub trL_be, fun j hj => absurd hj (Nat.not_lt_zero j)⟩
      · intro m1 hinv
        obtain ⟨hRi, hTi, hFi, hno⟩ := hinv
        refine tz_iload3 (n := 46) (g_at ck_X10_parting 27 rfl) rfl ?_
        refine tz_bipush (n := 48) (g_at ck_X10_parting 28 rfl) rfl rfl ?_
        refine tz_icmp_gt (n := 51) (tgt := 79) (g_at ck_X10_parting 29 rfl) rfl rfl ⟨(by omega), (by omega), (by decide), (by decide)⟩ (fun h48 => ?_) (fun h48 => absurd h48 (by omega))
        refine tz_iconst (n := 80) (g_at ck_X10_parting 44 rfl) rfl ?_
        exact tz_iret (g_at ck_X10_parting 45 rfl) rfl (rI_mk ⟨qR_62, hRi, qM_trL hFi, sq_0 hz2 hz7, fun h9 => absurd h9 (by omega), fun _ => Or.inl ⟨rfl, hno⟩⟩)
      · intro m1 hinv
        obtain ⟨hRi, hTi, hFi, hno⟩ := hinv
        have hGi := hG.fr hFi
        have hσi := daysP_WS (hl := hl) (tl := tl) hW hσ (Int.le_refl 0) i
        refine tz_iload3 (n := 46) (g_at ck_X10_parting 27 rfl) rfl ?_
        refine tz_bipush (n := 48) (g_at ck_X10_parting 28 rfl) rfl rfl ?_
        refine tz_icmp_gt (n := 51) (tgt := 79) (g_at ck_X10_parting 29 rfl) rfl rfl ⟨(by omega), (by omega), (by decide), (by decide)⟩ (fun h48 => absurd h48 (by omega)) (fun h48 => ?_)
        refine tz_aload0 (n := 52) (g_at ck_X10_parting 30 rfl) rfl (g_ne kd_1) ?_
        refine tz_getOv (n := 55) (a := 62) fk_X10_74 kd_1 (ly_1_14 hL) (g_at ck_X10_parting 31 rfl) rfl ?_
        refine tz_iconst (n := 56) (g_at ck_X10_parting 32 rfl) rfl ?_
        refine tz_cvV1 (n := 59) (μ' := μX8_goDay) (cb' := 0) (sb' := 0) ml_X10_277 mo_X8_goDay mv_X8_goDay np_X8_goDay kd_62 (g_at ck_X10_parting 33 rfl) (sp_goDay hL hLt hS hRi hW hGi hTi hσi (by omega) (by omega)) rfl rfl rfl ⟨by decide, by decide⟩ (Nat.le_of_ble_eq_true rfl) (by decide) (by decide) (fun ρ9 m56 hq => ?_)
        obtain ⟨rfl, hR4, hT56, hF56⟩ := hq
        have hσ9 := daysP_WS (hl := hl) (tl := tl) hW hσ (Int.le_refl 0) (i + 1)
        have hT9 : TripC m56 (daysP Λ hl tl (sig0 s) (i + 1)) := hT56
        refine tz_aload0 (n := 60) (g_at ck_X10_parting 34 rfl) rfl (g_ne kd_1) ?_
        refine tz_getOv (n := 63) (a := 62) fk_X10_74 kd_1 (ly_1_14 hL) (g_at ck_X10_parting 35 rfl) rfl ?_
        refine tz_iload1 (n := 64) (g_at ck_X10_parting 36 rfl) rfl ?_
        refine tz_iload2 (n := 65) (g_at ck_X10_parting 37 rfl) rfl ?_
        refine tz_cvI2 (n := 68) (μ' := μX8_areTogether) (cb' := 0) (sb' := 0) ml_X10_281 mo_X8_areTogether mv_X8_areTogether np_X8_areTogether kd_62 (g_at ck_X10_parting 38 rfl) (sp_areTog hL hLt hS hR4 hW (hGi.fr hF56) hT9 hσ9 (by omega) (by omega) (by omega)) rfl rfl rfl ⟨by decide, by decide⟩ (Nat.le_of_ble_eq_true rfl) (by decide) (by decide) (fun x65 ρ9 m65 hq => ?_)
        obtain ⟨rfl, hR5, rfl, rfl⟩ := hq
        refine tz_if_ne (n := 71) (tgt := 73) (g_at ck_X10_parting 39 rfl) rfl rfl (by split <;> decide) (fun h68 => ?_) (fun h68 => ?_)
        · skip
          refine tz_iinc3 (n := 76) (g_at ck_X10_parting 42 rfl) rfl (by decide) g_hpI ?_
          refine tz_goto (tgt := 45) (g_at ck_X10_parting 43 rfl) rfl ?_
          have hh9 := ite10 h68
          exact ihi _ ⟨hR5, hT9, hFi.tr hF56, no_step hno (fun h9 => h9 hh9)⟩
        · skip
          refine tz_iload3 (n := 72) (g_at ck_X10_parting 40 rfl) rfl ?_
          exact tz_iret (g_at ck_X10_parting 41 rfl) rfl (rI_mk ⟨qR_62, hR5, qM_trL (hFi.tr hF56), sq_0 hz2 hz7, fun h9 => absurd h9 (by omega), fun _ => Or.inr ⟨i, rfl, by omega, (by have hh9 := ite10n h68; exact hh9), hno⟩⟩)
    · skip
      refine tz_iconst (n := 37) (g_at ck_X10_parting 20 rfl) rfl ?_
      exact tz_iret (g_at ck_X10_parting 21 rfl) rfl (rI_mk ⟨qR.rf, hR2, qM.rf, sq_0 hz2 hz7, fun _ => rfl, fun h9 => absurd (Or.inr h33) h9⟩)
theorem sp_together {l : Launch} {γ : Gh} {ρ m : Mm} {p o n : Int} (hp : -2147483648 ≤ p ∧ p < 2147483648) (ho : -2147483648 ≤ o ∧ o < 2147483648) (hn : -2147483648 ≤ n ∧ n < 2147483648) {ld : Int} {Λ : Mm} {hl tl : List Int} (hL : LY ρ) (hLn : ρ 1 3 = ld) (hS : isS ρ ld) (hR : MR m) (hW : WL Λ) (hG : LandC m ld Λ hl tl) {s : Int → Int} (hN : MomC m 39 s) (hσ : WS Λ 0 (sig0 s)) : gE l γ μX10_together 7 3 18 (rI KK fun x ρ9 m9 => qR ρ ρ9 ∧ MR m9 ∧ qM ld m m9 ∧ sq (cdP Λ p) (sq (cdP Λ o) (cdD n 1 100)) = 0 ∧ togN Λ hl tl s p o n.toNat = x) (xC ρ m (sq (cdP Λ p) (sq (cdP Λ o) (cdD n 1 100)))) KK ρ m [vR 1, vI p, vI o, vI n] := by
  refine gE.ofw cl_X10.2 ?_ rfl rfl (Nat.le_of_ble_eq_true rfl)
  show gT l γ μX10_together 7 3 18 _ _ KK ρ m 0 [some (vR 1), some (vI p), some (vI o), some (vI n), none, none] []
  have hn1 := hW.1
  have hn8 := hW.2.1
  have hld := hG.ld9
  refine tz_aload0 (n := 1) (g_at ck_X10_together 0 rfl) rfl (g_ne kd_1) ?_
  refine tz_iload1 (n := 2) (g_at ck_X10_together 1 rfl) rfl ?_
  refine tz_cvxV1 (n := 5) (μ' := μX10_needPerson) (cb' := 2) (sb' := 12) ml_X10_221 mo_X10_needPerson mv_X10_needPerson np_X10_needPerson kd_1 (g_at ck_X10_together 2 rfl) (sp_needP ⟨hp.1, hp.2⟩ hL hLn hS hR hW hG) rfl rfl rfl ⟨by decide, by decide⟩ (Nat.le_of_ble_eq_true rfl) (by decide) (by decide) (g_in (g_m5 (List.mem_of_getElem? (i := 68) rfl)) rfl) (fun E9 ρ9 m9 h9 => g_gX_out rfl h9.1 h9.2.1 (sq_1 h9.2.2)) (fun ρ9 m2 hq => ?_)
  obtain ⟨rfl, hR1, rfl, hz2⟩ := hq
  have hp2 := cdP_0 hz2
  refine tz_aload0 (n := 6) (g_at ck_X10_together 3 rfl) rfl (g_ne kd_1) ?_
  refine tz_iload2 (n := 7) (g_at ck_X10_together 4 rfl) rfl ?_
  refine tz_cvxV1 (n := 10) (μ' := μX10_needPerson) (cb' := 1) (sb' := 6) ml_X10_221 mo_X10_needPerson mv_X10_needPerson np_X10_needPerson kd_1 (g_at ck_X10_together 5 rfl) (sp_needP ⟨ho.1, ho.2⟩ hL hLn hS hR1 hW hG) rfl rfl rfl ⟨by decide, by decide⟩ (Nat.le_of_ble_eq_true rfl) (by decide) (by decide) (g_in (g_m5 (List.mem_of_getElem? (i := 68) rfl)) rfl) (fun E9 ρ9 m9 h9 => g_gX_out rfl h9.1 h9.2.1 (sq_2 hz2 (sq_1 h9.2.2))) (fun ρ9 m7 hq => ?_)
  obtain ⟨rfl, hR2, rfl, hz7⟩ := hq
  have ho2 := cdP_0 hz7
  refine tz_iload3 (n := 11) (g_at ck_X10_together 6 rfl) rfl ?_
  refine tz_iconst (n := 12) (g_at ck_X10_together 7 rfl) rfl ?_
  refine tz_bipush (n := 14) (g_at ck_X10_together 8 rfl) rfl rfl ?_
  refine tz_csxV3 (n := 17) (μ' := μX10_needDays) (cb' := 0) (sb' := 0) ml_X10_270 mo_X10_needDays ms_X10_needDays np_X10_needDays (g_at ck_X10_together 9 rfl) (sp_needD ⟨hn.1, hn.2⟩ ⟨(by decide), (by decide)⟩ ⟨(by decide), (by decide)⟩ hR2) rfl rfl ⟨by decide, by decide⟩ (Nat.le_of_ble_eq_true rfl) (by decide) (by decide) (g_in (g_m5 (List.mem_of_getElem? (i := 145) rfl)) rfl) (fun E9 ρ9 m9 h9 => g_gX_out rfl h9.1 h9.2.1 (sq_2 hz2 (sq_2 hz7 h9.2.2))) (fun ρ9 m14 hq => ?_)
  obtain ⟨rfl, hR3, rfl, hz14⟩ := hq
  have hn2 := cdD_0 hz14
  refine tz_aload0 (n := 18) (g_at ck_X10_together 10 rfl) rfl (g_ne kd_1) ?_
  refine tz_cvR0 (n := 21) (μ' := μX10_setOut) (cb' := 0) (sb' := 0) ml_X10_251 mo_X10_setOut mv_X10_setOut np_X10_setOut kd_1 (g_at ck_X10_together 11 rfl) (sp_setOut hL hLn hS hR3 hW hG hN) rfl rfl rfl ⟨by decide, by decide⟩ (Nat.le_of_ble_eq_true rfl) (by decide) (by decide) (fun x18 ρ9 m18 hq => ?_)
  obtain ⟨rfl, rfl, hR4, hT18, hF18⟩ := hq
  have hQ18 := qM_trL (hF18.sub (trL_be (ld := ld)))
  have hG18 := hG.fr (hF18.sub trL_be)
  have hL := LY_wr (r := 62) (k := 0) (x := ld) hL (by decide)
  have hLt : wr ρ 62 0 ld 62 0 = ld := wr_same
  have hLn : wr ρ 62 0 ld 1 3 = ld := (by rw [wr_ne (by decide)]; exact hLn)
  have hS : isS (wr ρ 62 0 ld) ld := isS_of hL hld
  refine tz_popR (n := 22) (g_at ck_X10_together 12 rfl) rfl ?_
  refine tz_iconst (n := 23) (g_at ck_X10_together 13 rfl) rfl ?_
  refine tz_istore4 (n := 25) (g_at ck_X10_together 14 rfl) rfl (by decide) g_hpI ?_
  refine tz_iconst (n := 26) (g_at ck_X10_together 15 rfl) rfl ?_
  refine tz_istore5 (n := 28) (g_at ck_X10_together 16 rfl) rfl (by decide) g_hpI ?_
  refine g_for (fun i : Nat => ∀ m1 : Mm, (MR m1 ∧ TripC m1 (daysP Λ hl tl (sig0 s) i) ∧ Fr (trL ld) m m1) → gT l γ μX10_together 7 0 0 _ _ KK (wr ρ 62 0 ld) m1 28 [some (vR 1), some (vI p), some (vI o), some (vI n), some (vI (togN Λ hl tl s p o i)), some (vI ((i : Int) + 1))] []) n.toNat ?_ (fun i hi ihi => ?_) 0 (Nat.zero_le _) _ ⟨hR4, hT18, hF18.sub trL_be⟩
  · intro m1 hinv
    obtain ⟨hRi, hTi, hFi⟩ := hinv
    refine tz_iload5 (n := 30) (g_at ck_X10_together 17 rfl) rfl ?_
    refine tz_iload3 (n := 31) (g_at ck_X10_together 18 rfl) rfl ?_
    refine tz_icmp_gt (n := 34) (tgt := 63) (g_at ck_X10_together 19 rfl) rfl rfl ⟨(by omega), (by omega), (by omega), (by omega)⟩ (fun h31 => ?_) (fun h31 => absurd h31 (by omega))
    refine tz_iload4 (n := 65) (g_at ck_X10_together 33 rfl) rfl ?_
    exact tz_iret (g_at ck_X10_together 34 rfl) rfl (rI_mk ⟨qR_62, hRi, qM_trL hFi, sq_0 hz2 (sq_0 hz7 hz14), rfl⟩)
  · intro m1 hinv
    obtain ⟨hRi, hTi, hFi⟩ := hinv
    have hGi := hG.fr hFi
    have hσi := daysP_WS (hl := hl) (tl := tl) hW hσ (Int.le_refl 0) i
    refine tz_iload5 (n := 30) (g_at ck_X10_together 17 rfl) rfl ?_
    refine tz_iload3 (n := 31) (g_at ck_X10_together 18 rfl) rfl ?_
    refine tz_icmp_gt (n := 34) (tgt := 63) (g_at ck_X10_together 19 rfl) rfl rfl ⟨(by omega), (by omega), (by omega), (by omega)⟩ (fun h31 => absurd h31 (by omega)) (fun h31 => ?_)
    refine tz_aload0 (n := 35) (g_at ck_X10_together 20 rfl) rfl (g_ne kd_1) ?_
    refine tz_getOv (n := 38) (a := 62) fk_X10_74 kd_1 (ly_1_14 hL) (g_at ck_X10_together 21 rfl) rfl ?_
    refine tz_iconst (n := 39) (g_at ck_X10_together 22 rfl) rfl ?_
    refine tz_cvV1 (n := 42) (μ' := μX8_goDay) (cb' := 0) (sb' := 0) ml_X10_277 mo_X8_goDay mv_X8_goDay np_X8_goDay kd_62 (g_at ck_X10_together 23 rfl) (sp_goDay hL hLt hS hRi hW hGi hTi hσi (by omega) (by omega)) rfl rfl rfl ⟨by decide, by decide⟩ (Nat.le_of_ble_eq_true rfl) (by decide) (by decide) (fun ρ9 m39 hq => ?_)
    obtain ⟨rfl, hR5, hT39, hF39⟩ := hq
    have hσ9 := daysP_WS (hl := hl) (tl := tl) hW hσ (Int.le_refl 0) (i + 1)
    have hT9 : TripC m39 (daysP Λ hl tl (sig0 s) (i + 1)) := hT39
    refine tz_aload0 (n := 43) (g_at ck_X10_together 24 rfl) rfl (g_ne kd_1) ?_
    refine tz_getOv (n := 46) (a := 62) fk_X10_74 kd_1 (ly_1_14 hL) (g_at ck_X10_together 25 rfl) rfl ?_
    refine tz_iload1 (n := 47) (g_at ck_X10_together 26 rfl) rfl ?_
    refine tz_iload2 (n := 48) (g_at ck_X10_together 27 rfl) rfl ?_
    refine tz_cvI2 (n := 51) (μ' := μX8_areTogether) (cb' := 0) (sb' := 0) ml_X10_281 mo_X8_areTogether mv_X8_areTogether np_X8_areTogether kd_62 (g_at ck_X10_together 28 rfl) (sp_areTog hL hLt hS hR5 hW (hGi.fr hF39) hT9 hσ9 (by omega) (by omega) (by omega)) rfl rfl rfl ⟨by decide, by decide⟩ (Nat.le_of_ble_eq_true rfl) (by decide) (by decide) (fun x48 ρ9 m48 hq => ?_)
    obtain ⟨rfl, hR6, rfl, rfl⟩ := hq
    refine tz_if_eq (n := 54) (tgt := 57) (g_at ck_X10_together 29 rfl) rfl rfl (by split <;> decide) (fun h51 => ?_) (fun h51 => ?_)
    · skip
      refine tz_iinc5 (n := 60) (g_at ck_X10_together 31 rfl) rfl (by decide) g_hpI ?_
      refine tz_goto (tgt := 28) (g_at ck_X10_together 32 rfl) rfl ?_
      have e9 : togN Λ hl tl s p o (i + 1) = (togN Λ hl tl s p o i) := if_neg (ite10n h51)
      exact gT_eq (ihi _ ⟨hR6, hT9, hFi.tr hF39⟩) rfl (by rw [e9]; rfl)
    · skip
      refine tz_iinc4 (n := 57) (g_at ck_X10_together 30 rfl) rfl (by decide) g_hpI ?_
      refine tz_iinc5 (n := 60) (g_at ck_X10_together 31 rfl) rfl (by decide) g_hpI ?_
      refine tz_goto (tgt := 28) (g_at ck_X10_together 32 rfl) rfl ?_
      have e9 : togN Λ hl tl s p o (i + 1) = (togN Λ hl tl s p o i + 1) := if_pos (ite10 h51)
      exact gT_eq (ihi _ ⟨hR6, hT9, hFi.tr hF39⟩) rfl (by rw [e9]; rfl)
theorem sp_visited {l : Launch} {γ : Gh} {ρ m : Mm} {p n : Int} (hp : -2147483648 ≤ p ∧ p < 2147483648) (hn : -2147483648 ≤ n ∧ n < 2147483648) {ld : Int} {Λ : Mm} {hl tl : List Int} (hL : LY ρ) (hLn : ρ 1 3 = ld) (hS : isS ρ ld) (hR : MR m) (hW : WL Λ) (hG : LandC m ld Λ hl tl) {s : Int → Int} (hN : MomC m 39 s) (hσ : WS Λ 0 (sig0 s)) : gE l γ μX10_visited 7 2 12 (rI KK fun x ρ9 m9 => qR ρ ρ9 ∧ MR m9 ∧ qM ld m m9 ∧ sq (cdP Λ p) (cdD n 0 100) = 0 ∧ visN Λ hl tl s p n.toNat = x) (xC ρ m (sq (cdP Λ p) (cdD n 0 100))) KK ρ m [vR 1, vI p, vI n] := by
  refine gE.ofw cl_X10.2 ?_ rfl rfl (Nat.le_of_ble_eq_true rfl)
  show gT l γ μX10_visited 7 2 12 _ _ KK ρ m 0 [some (vR 1), some (vI p), some (vI n), none, none] []
  have hn1 := hW.1
  have hn8 := hW.2.1
  have hld := hG.ld9
  refine tz_aload0 (n := 1) (g_at ck_X10_visited 0 rfl) rfl (g_ne kd_1) ?_
  refine tz_iload1 (n := 2) (g_at ck_X10_visited 1 rfl) rfl ?_
  refine tz_cvxV1 (n := 5) (μ' := μX10_needPerson) (cb' := 1) (sb' := 6) ml_X10_221 mo_X10_needPerson mv_X10_needPerson np_X10_needPerson kd_1 (g_at ck_X10_visited 2 rfl) (sp_needP ⟨hp.1, hp.2⟩ hL hLn hS hR hW hG) rfl rfl rfl ⟨by decide, by decide⟩ (Nat.le_of_ble_eq_true rfl) (by decide) (by decide) (g_in (g_m5 (List.mem_of_getElem? (i := 68) rfl)) rfl) (fun E9 ρ9 m9 h9 => g_gX_out rfl h9.1 h9.2.1 (sq_1 h9.2.2)) (fun ρ9 m2 hq => ?_)
  obtain ⟨rfl, hR1, rfl, hz2⟩ := hq
  have hp2 := cdP_0 hz2
  refine tz_iload2 (n := 6) (g_at ck_X10_visited 3 rfl) rfl ?_
  refine tz_iconst (n := 7) (g_at ck_X10_visited 4 rfl) rfl ?_
  refine tz_bipush (n := 9) (g_at ck_X10_visited 5 rfl) rfl rfl ?_
  refine tz_csxV3 (n := 12) (μ' := μX10_needDays) (cb' := 0) (sb' := 0) ml_X10_270 mo_X10_needDays ms_X10_needDays np_X10_needDays (g_at ck_X10_visited 6 rfl) (sp_needD ⟨hn.1, hn.2⟩ ⟨(by decide), (by decide)⟩ ⟨(by decide), (by decide)⟩ hR1) rfl rfl ⟨by decide, by decide⟩ (Nat.le_of_ble_eq_true rfl) (by decide) (by decide) (g_in (g_m5 (List.mem_of_getElem? (i := 145) rfl)) rfl) (fun E9 ρ9 m9 h9 => g_gX_out rfl h9.1 h9.2.1 (sq_2 hz2 h9.2.2)) (fun ρ9 m9 hq => ?_)
  obtain ⟨rfl, hR2, rfl, hz9⟩ := hq
  have hn2 := cdD_0 hz9
  refine tz_aload0 (n := 13) (g_at ck_X10_visited 7 rfl) rfl (g_ne kd_1) ?_
  refine tz_cvR0 (n := 16) (μ' := μX10_setOut) (cb' := 0) (sb' := 0) ml_X10_251 mo_X10_setOut mv_X10_setOut np_X10_setOut kd_1 (g_at ck_X10_visited 8 rfl) (sp_setOut hL hLn hS hR2 hW hG hN) rfl rfl rfl ⟨by decide, by decide⟩ (Nat.le_of_ble_eq_true rfl) (by decide) (by decide) (fun x13 ρ9 m13 hq => ?_)
  obtain ⟨rfl, rfl, hR3, hT13, hF13⟩ := hq
  have hQ13 := qM_trL (hF13.sub (trL_be (ld := ld)))
  have hG13 := hG.fr (hF13.sub trL_be)
  have hL := LY_wr (r := 62) (k := 0) (x := ld) hL (by decide)
  have hLt : wr ρ 62 0 ld 62 0 = ld := wr_same
  have hLn : wr ρ 62 0 ld 1 3 = ld := (by rw [wr_ne (by decide)]; exact hLn)
  have hS : isS (wr ρ 62 0 ld) ld := isS_of hL hld
  refine tz_popR (n := 17) (g_at ck_X10_visited 9 rfl) rfl ?_
  refine tz_iconst (n := 18) (g_at ck_X10_visited 10 rfl) rfl ?_
  refine tz_aload0 (n := 19) (g_at ck_X10_visited 11 rfl) rfl (g_ne kd_1) ?_
  refine tz_getOv (n := 22) (a := 62) fk_X10_74 kd_1 (ly_1_14 hL) (g_at ck_X10_visited 12 rfl) rfl ?_
  refine tz_getOv (n := 25) (a := 63) fk_X10_258 kd_62 (ly_62_1 hL) (g_at ck_X10_visited 13 rfl) rfl ?_
  refine tz_getAv (n := 28) (a := 64) fk_X10_224 (isM_63 hL).k0 (isM_63 hL).r0_1 (g_at ck_X10_visited 14 rfl) rfl ?_
  refine tz_iload1 (n := 29) (g_at ck_X10_visited 15 rfl) rfl ?_
  refine tz_iald (n := 30) (isM_63 hL).k1 (by omega) (g_at ck_X10_visited 16 rfl) rfl ?_
  rw [hT13.whr p (by omega)]
  refine tz_ishl (n := 31) (g_at ck_X10_visited 17 rfl) rfl ?_
  refine tz_istore3 (n := 32) (g_at ck_X10_visited 18 rfl) rfl (by decide) g_hpI ?_
  refine tz_iconst (n := 33) (g_at ck_X10_visited 19 rfl) rfl ?_
  refine tz_istore4 (n := 35) (g_at ck_X10_visited 20 rfl) rfl (by decide) g_hpI ?_
  refine g_for (fun i : Nat => ∀ m1 : Mm, (MR m1 ∧ TripC m1 (daysP Λ hl tl (sig0 s) i) ∧ Fr (trL ld) m m1) → gT l γ μX10_visited 7 0 0 _ _ KK (wr ρ 62 0 ld) m1 35 [some (vR 1), some (vI p), some (vI n), some (vI (visN Λ hl tl s p i)), some (vI ((i : Int) + 1))] []) n.toNat ?_ (fun i hi ihi => ?_) 0 (Nat.zero_le _) _ ⟨hR3, hT13, hF13.sub trL_be⟩
  · intro m1 hinv
    obtain ⟨hRi, hTi, hFi⟩ := hinv
    refine tz_iload4 (n := 37) (g_at ck_X10_visited 21 rfl) rfl ?_
    refine tz_iload2 (n := 38) (g_at ck_X10_visited 22 rfl) rfl ?_
    refine tz_icmp_gt (n := 41) (tgt := 72) (g_at ck_X10_visited 23 rfl) rfl rfl ⟨(by omega), (by omega), (by omega), (by omega)⟩ (fun h38 => ?_) (fun h38 => absurd h38 (by omega))
    refine tz_iload3 (n := 73) (g_at ck_X10_visited 41 rfl) rfl ?_
    exact tz_iret (g_at ck_X10_visited 42 rfl) rfl (rI_mk ⟨qR_62, hRi, qM_trL hFi, sq_0 hz2 hz9, rfl⟩)
  · intro m1 hinv
    obtain ⟨hRi, hTi, hFi⟩ := hinv
    have hGi := hG.fr hFi
    have hσi := daysP_WS (hl := hl) (tl := tl) hW hσ (Int.le_refl 0) i
    refine tz_iload4 (n := 37) (g_at ck_X10_visited 21 rfl) rfl ?_
    refine tz_iload2 (n := 38) (g_at ck_X10_visited 22 rfl) rfl ?_
    refine tz_icmp_gt (n := 41) (tgt := 72) (g_at ck_X10_visited 23 rfl) rfl rfl ⟨(by omega), (by omega), (by omega), (by omega)⟩ (fun h38 => absurd h38 (by omega)) (fun h38 => ?_)
    refine tz_aload0 (n := 42) (g_at ck_X10_visited 24 rfl) rfl (g_ne kd_1) ?_
    refine tz_getOv (n := 45) (a := 62) fk_X10_74 kd_1 (ly_1_14 hL) (g_at ck_X10_visited 25 rfl) rfl ?_
    refine tz_iconst (n := 46) (g_at ck_X10_visited 26 rfl) rfl ?_
    refine tz_cvV1 (n := 49) (μ' := μX8_goDay) (cb' := 0) (sb' := 0) ml_X10_277 mo_X8_goDay mv_X8_goDay np_X8_goDay kd_62 (g_at ck_X10_visited 27 rfl) (sp_goDay hL hLt hS hRi hW hGi hTi hσi (by omega) (by omega)) rfl rfl rfl ⟨by decide, by decide⟩ (Nat.le_of_ble_eq_true rfl) (by decide) (by decide) (fun ρ9 m46 hq => ?_)
    obtain ⟨rfl, hR4, hT46, hF46⟩ := hq
    have hσ9 := daysP_WS (hl := hl) (tl := tl) hW hσ (Int.le_refl 0) (i + 1)
    have hT9 : TripC m46 (daysP Λ hl tl (sig0 s) (i + 1)) := hT46
    refine tz_iload3 (n := 50) (g_at ck_X10_visited 28 rfl) rfl ?_
    refine tz_iconst (n := 51) (g_at ck_X10_visited 29 rfl) rfl ?_
    refine tz_aload0 (n := 52) (g_at ck_X10_visited 30 rfl) rfl (g_ne kd_1) ?_
    refine tz_getOv (n := 55) (a := 62) fk_X10_74 kd_1 (ly_1_14 hL) (g_at ck_X10_visited 31 rfl) rfl ?_
    refine tz_getOv (n := 58) (a := 63) fk_X10_258 kd_62 (ly_62_1 hL) (g_at ck_X10_visited 32 rfl) rfl ?_
    refine tz_getAv (n := 61) (a := 64) fk_X10_224 (isM_63 hL).k0 (isM_63 hL).r0_1 (g_at ck_X10_visited 33 rfl) rfl ?_
    refine tz_iload1 (n := 62) (g_at ck_X10_visited 34 rfl) rfl ?_
    refine tz_iald (n := 63) (isM_63 hL).k1 (by omega) (g_at ck_X10_visited 35 rfl) rfl ?_
    rw [hT9.whr p (by omega)]
    refine tz_ishl (n := 64) (g_at ck_X10_visited 36 rfl) rfl ?_
    refine tz_ior (n := 65) (g_at ck_X10_visited 37 rfl) rfl ?_
    refine tz_istore3 (n := 66) (g_at ck_X10_visited 38 rfl) rfl (by decide) g_hpI ?_
    refine tz_iinc4 (n := 69) (g_at ck_X10_visited 39 rfl) rfl (by decide) g_hpI ?_
    refine tz_goto (tgt := 35) (g_at ck_X10_visited 40 rfl) rfl ?_
    exact ihi _ ⟨hR4, hT9, hFi.tr hF46⟩
theorem sp_round {l : Launch} {γ : Gh} {ρ m : Mm} {ld : Int} {Λ : Mm} {hl tl : List Int} (hL : LY ρ) (hLn : ρ 1 3 = ld) (hS : isS ρ ld) (hR : MR m) (hW : WL Λ) (hG : LandC m ld Λ hl tl) {s : Int → Int} (hN : MomC m 39 s) (hσ : WS Λ 0 (sig0 s)) : gE l γ μX10_round 6 0 0 (rI KK fun x ρ9 m9 => qR ρ ρ9 ∧ MR m9 ∧ qM ld m m9 ∧ isF1 (fun j => likeP (daysP Λ hl tl (sig0 s) (j + 1)) s ≠ 0) 200 x) xN KK ρ m [vR 1] := by
  refine gE.ofw cl_X10.2 ?_ rfl rfl (Nat.le_of_ble_eq_true rfl)
  show gT l γ μX10_round 6 0 0 _ _ KK ρ m 0 [some (vR 1), none] []
  have hn1 := hW.1
  have hn8 := hW.2.1
  have hld := hG.ld9
  refine tz_aload0 (n := 1) (g_at ck_X10_round 0 rfl) rfl (g_ne kd_1) ?_
  refine tz_cvR0 (n := 4) (μ' := μX10_setOut) (cb' := 0) (sb' := 0) ml_X10_251 mo_X10_setOut mv_X10_setOut np_X10_setOut kd_1 (g_at ck_X10_round 1 rfl) (sp_setOut hL hLn hS hR hW hG hN) rfl rfl rfl ⟨by decide, by decide⟩ (Nat.le_of_ble_eq_true rfl) (by decide) (by decide) (fun x1 ρ9 m1 hq => ?_)
  obtain ⟨rfl, rfl, hR1, hT1, hF1⟩ := hq
  have hQ1 := qM_trL (hF1.sub (trL_be (ld := ld)))
  have hG1 := hG.fr (hF1.sub trL_be)
  have hL := LY_wr (r := 62) (k := 0) (x := ld) hL (by decide)
  have hLt : wr ρ 62 0 ld 62 0 = ld := wr_same
  have hLn : wr ρ 62 0 ld 1 3 = ld := (by rw [wr_ne (by decide)]; exact hLn)
  have hS : isS (wr ρ 62 0 ld) ld := isS_of hL hld
  refine tz_popR (n := 5) (g_at ck_X10_round 2 rfl) rfl ?_
  refine tz_iconst (n := 6) (g_at ck_X10_round 3 rfl) rfl ?_
  refine tz_istore1 (n := 7) (g_at ck_X10_round 4 rfl) rfl (by decide) g_hpR ?_
  refine g_for (fun i : Nat => ∀ m1 : Mm, (MR m1 ∧ TripC m1 (daysP Λ hl tl (sig0 s) i) ∧ Fr (trL ld) m m1 ∧ ∀ j : Nat, j < i → ¬ (likeP (daysP Λ hl tl (sig0 s) (j + 1)) s ≠ 0)) → gT l γ μX10_round 6 0 0 _ _ KK (wr ρ 62 0 ld) m1 7 [some (vR 1), some (vI ((i : Int) + 1))] []) 200 ?_ (fun i hi ihi => ?_) 0 (Nat.zero_le _) _ ⟨hR1, hT1, hF1.sub trL_be, fun j hj => absurd hj (Nat.not_lt_zero j)⟩
  · intro m1 hinv
    obtain ⟨hRi, hTi, hFi, hno⟩ := hinv
    refine tz_iload1 (n := 8) (g_at ck_X10_round 5 rfl) rfl ?_
    refine tz_sipush (n := 11) (g_at ck_X10_round 6 rfl) rfl rfl ?_
    refine tz_icmp_gt (n := 14) (tgt := 47) (g_at ck_X10_round 7 rfl) rfl rfl ⟨(by omega), (by omega), (by decide), (by decide)⟩ (fun h11 => ?_) (fun h11 => absurd h11 (by omega))
    refine tz_iconst (n := 48) (g_at ck_X10_round 23 rfl) rfl ?_
    exact tz_iret (g_at ck_X10_round 24 rfl) rfl (rI_mk ⟨qR_62, hRi, qM_trL hFi, Or.inl ⟨rfl, hno⟩⟩)
  · intro m1 hinv
    obtain ⟨hRi, hTi, hFi, hno⟩ := hinv
    have hGi := hG.fr hFi
    have hσi := daysP_WS (hl := hl) (tl := tl) hW hσ (Int.le_refl 0) i
    refine tz_iload1 (n := 8) (g_at ck_X10_round 5 rfl) rfl ?_
    refine tz_sipush (n := 11) (g_at ck_X10_round 6 rfl) rfl rfl ?_
    refine tz_icmp_gt (n := 14) (tgt := 47) (g_at ck_X10_round 7 rfl) rfl rfl ⟨(by omega), (by omega), (by decide), (by decide)⟩ (fun h11 => absurd h11 (by omega)) (fun h11 => ?_)
    refine tz_aload0 (n := 15) (g_at ck_X10_round 8 rfl) rfl (g_ne kd_1) ?_
    refine tz_getOv (n := 18) (a := 62) fk_X10_74 kd_1 (ly_1_14 hL) (g_at ck_X10_round 9 rfl) rfl ?_
    refine tz_iconst (n := 19) (g_at ck_X10_round 10 rfl) rfl ?_
    refine tz_cvV1 (n := 22) (μ' := μX8_goDay) (cb' := 0) (sb' := 0) ml_X10_277 mo_X8_goDay mv_X8_goDay np_X8_goDay kd_62 (g_at ck_X10_round 11 rfl) (sp_goDay hL hLt hS hRi hW hGi hTi hσi (by omega) (by omega)) rfl rfl rfl ⟨by decide, by decide⟩ (Nat.le_of_ble_eq_true rfl) (by decide) (by decide) (fun ρ9 m19 hq => ?_)
    obtain ⟨rfl, hR2, hT19, hF19⟩ := hq
    have hσ9 := daysP_WS (hl := hl) (tl := tl) hW hσ (Int.le_refl 0) (i + 1)
    have hT9 : TripC m19 (daysP Λ hl tl (sig0 s) (i + 1)) := hT19
    refine tz_aload0 (n := 23) (g_at ck_X10_round 12 rfl) rfl (g_ne kd_1) ?_
    refine tz_getOv (n := 26) (a := 62) fk_X10_74 kd_1 (ly_1_14 hL) (g_at ck_X10_round 13 rfl) rfl ?_
    refine tz_getOv (n := 29) (a := 63) fk_X10_258 kd_62 (ly_62_1 hL) (g_at ck_X10_round 14 rfl) rfl ?_
    refine tz_aload0 (n := 30) (g_at ck_X10_round 15 rfl) rfl (g_ne kd_1) ?_
    refine tz_getOv (n := 33) (a := 39) fk_X10_39 kd_1 (ly_1_6 hL) (g_at ck_X10_round 16 rfl) rfl ?_
    refine tz_cvI1 (n := 36) (μ' := μX2_standsLike) (cb' := 0) (sb' := 0) ml_X10_308 mo_X2_standsLike mv_X2_standsLike np_X2_standsLike (isM_63 hL).k0 (g_at ck_X10_round 17 rfl) (sp_like (isM_63 hL) (isM_39 hL) hR2) rfl rfl rfl ⟨by decide, by decide⟩ (Nat.le_of_ble_eq_true rfl) (by decide) (by decide) (fun x33 ρ9 m33 hq => ?_)
    obtain ⟨rfl, hR3, rfl, rfl⟩ := hq
    rw [like_tn hT9 (hN.fr hld (hFi.tr hF19))]
    refine tz_if_eq (n := 39) (tgt := 41) (g_at ck_X10_round 18 rfl) rfl rfl (by unfold likeP; split <;> decide) (fun h36 => ?_) (fun h36 => ?_)
    · skip
      refine tz_iinc1 (n := 44) (g_at ck_X10_round 21 rfl) rfl (by decide) g_hpR ?_
      refine tz_goto (tgt := 7) (g_at ck_X10_round 22 rfl) rfl ?_
      exact ihi _ ⟨hR3, hT9, hFi.tr hF19, no_step hno (fun h9 => h9 h36)⟩
    · skip
      refine tz_iload1 (n := 40) (g_at ck_X10_round 19 rfl) rfl ?_
      exact tz_iret (g_at ck_X10_round 20 rfl) rfl (rI_mk ⟨qR_62, hR3, qM_trL (hFi.tr hF19), Or.inr ⟨i, rfl, by omega, h36, hno⟩⟩)
theorem sp_uneven {l : Launch} {γ : Gh} {ρ m : Mm} {c n : Int} (hc : -2147483648 ≤ c ∧ c < 2147483648) (hn : -2147483648 ≤ n ∧ n < 2147483648) {ld : Int} {Λ : Mm} {hl tl : List Int} (hL : LY ρ) (hLn : ρ 1 3 = ld) (hS : isS ρ ld) (hR : MR m) (hW : WL Λ) (hG : LandC m ld Λ hl tl) {s : Int → Int} (hN : MomC m 39 s) (hσ : WS Λ 0 (sig0 s)) : gE l γ μX10_uneven 7 2 12 (rI KK fun x ρ9 m9 => qR ρ ρ9 ∧ MR m9 ∧ qM ld m m9 ∧ sq (cdC Λ c) (cdD n 0 100) = 0 ∧ (if Λ 3 c = 0 then 0 else mxG (daysP Λ hl tl (sig0 s) n.toNat) c (Λ 3 c).toNat - mnG (daysP Λ hl tl (sig0 s) n.toNat) c (Λ 3 c).toNat) = x) (xC ρ m (sq (cdC Λ c) (cdD n 0 100))) KK ρ m [vR 1, vI c, vI n] := by
  refine gE.ofw cl_X10.2 ?_ rfl rfl (Nat.le_of_ble_eq_true rfl)
  show gT l γ μX10_uneven 7 2 12 _ _ KK ρ m 0 [some (vR 1), some (vI c), some (vI n), none, none, none, none, none] []
  have hn1 := hW.1
  have hn8 := hW.2.1
  have hld := hG.ld9
  refine tz_aload0 (n := 1) (g_at ck_X10_uneven 0 rfl) rfl (g_ne kd_1) ?_
  refine tz_iload1 (n := 2) (g_at ck_X10_uneven 1 rfl) rfl ?_
  refine tz_cvxV1 (n := 5) (μ' := μX10_needCrossing) (cb' := 1) (sb' := 6) ml_X10_185 mo_X10_needCrossing mv_X10_needCrossing np_X10_needCrossing kd_1 (g_at ck_X10_uneven 2 rfl) (sp_needC ⟨hc.1, hc.2⟩ hL hLn hS hR hW hG) rfl rfl rfl ⟨by decide, by decide⟩ (Nat.le_of_ble_eq_true rfl) (by decide) (by decide) (g_in (g_m5 (List.mem_of_getElem? (i := 41) rfl)) rfl) (fun E9 ρ9 m9 h9 => g_gX_out rfl h9.1 h9.2.1 (sq_1 h9.2.2)) (fun ρ9 m2 hq => ?_)
  obtain ⟨rfl, hR1, rfl, hz2⟩ := hq
  have hc2 := cdC_0 hz2
  have hc3 := hW.2.2.1 c hc2.1 hc2.2
  refine tz_iload2 (n := 6) (g_at ck_X10_uneven 3 rfl) rfl ?_
  refine tz_iconst (n := 7) (g_at ck_X10_uneven 4 rfl) rfl ?_
  refine tz_bipush (n := 9) (g_at ck_X10_uneven 5 rfl) rfl rfl ?_
  refine tz_csxV3 (n := 12) (μ' := μX10_needDays) (cb' := 0) (sb' := 0) ml_X10_270 mo_X10_needDays ms_X10_needDays np_X10_needDays (g_at ck_X10_uneven 6 rfl) (sp_needD ⟨hn.1, hn.2⟩ ⟨(by decide), (by decide)⟩ ⟨(by decide), (by decide)⟩ hR1) rfl rfl ⟨by decide, by decide⟩ (Nat.le_of_ble_eq_true rfl) (by decide) (by decide) (g_in (g_m5 (List.mem_of_getElem? (i := 145) rfl)) rfl) (fun E9 ρ9 m9 h9 => g_gX_out rfl h9.1 h9.2.1 (sq_2 hz2 h9.2.2)) (fun ρ9 m9 hq => ?_)
  obtain ⟨rfl, hR2, rfl, hz9⟩ := hq
  have hn2 := cdD_0 hz9
  refine tz_aload0 (n := 13) (g_at ck_X10_uneven 7 rfl) rfl (g_ne kd_1) ?_
  refine tz_cvR0 (n := 16) (μ' := μX10_setOut) (cb' := 0) (sb' := 0) ml_X10_251 mo_X10_setOut mv_X10_setOut np_X10_setOut kd_1 (g_at ck_X10_uneven 8 rfl) (sp_setOut hL hLn hS hR2 hW hG hN) rfl rfl rfl ⟨by decide, by decide⟩ (Nat.le_of_ble_eq_true rfl) (by decide) (by decide) (fun x13 ρ9 m13 hq => ?_)
  obtain ⟨rfl, rfl, hR3, hT13, hF13⟩ := hq
  have hQ13 := qM_trL (hF13.sub (trL_be (ld := ld)))
  have hG13 := hG.fr (hF13.sub trL_be)
  have hL := LY_wr (r := 62) (k := 0) (x := ld) hL (by decide)
  have hLt : wr ρ 62 0 ld 62 0 = ld := wr_same
  have hLn : wr ρ 62 0 ld 1 3 = ld := (by rw [wr_ne (by decide)]; exact hLn)
  have hS : isS (wr ρ 62 0 ld) ld := isS_of hL hld
  refine tz_iload2 (n := 17) (g_at ck_X10_uneven 9 rfl) rfl ?_
  refine tz_cvV1 (n := 20) (μ' := μX8_go) (cb' := 0) (sb' := 0) ml_X10_255 mo_X8_go mv_X8_go np_X8_go kd_62 (g_at ck_X10_uneven 10 rfl) (sp_go hL hLt hS hR3 hW hG13 hT13 hσ (by decide) (by omega)) rfl rfl rfl ⟨by decide, by decide⟩ (Nat.le_of_ble_eq_true rfl) (by decide) (by decide) (fun ρ9 m17 hq => ?_)
  obtain ⟨rfl, hR4, hT17, hF17⟩ := hq
  have hQ17 := hQ13.tr (qM_trL hF17)
  have hG17 := hG13.fr hF17
  have hσ17 := daysP_WS (hl := hl) (tl := tl) hW hσ (Int.le_refl 0) n.toNat
  refine tz_aload0 (n := 21) (g_at ck_X10_uneven 11 rfl) rfl (g_ne kd_1) ?_
  refine tz_getOv (n := 24) (a := ld) fk_X10_20 kd_1 hLn (g_at ck_X10_uneven 12 rfl) rfl ?_
  refine tz_getAv (n := 27) (a := (ld + 3)) fk_X10_194 hS.k0 hS.r0_4 (g_at ck_X10_uneven 13 rfl) rfl ?_
  refine tz_iload1 (n := 28) (g_at ck_X10_uneven 14 rfl) rfl ?_
  refine tz_iald (n := 29) hS.k3 (by omega) (g_at ck_X10_uneven 15 rfl) rfl ?_
  rw [hG17.roads c (by omega)]
  refine tz_istore3 (n := 30) (g_at ck_X10_uneven 16 rfl) rfl (by decide) g_hpI ?_
  refine tz_iload3 (n := 31) (g_at ck_X10_uneven 17 rfl) rfl ?_
  refine tz_if_ne (n := 34) (tgt := 36) (g_at ck_X10_uneven 18 rfl) rfl rfl (by omega) (fun h31 => ?_) (fun h31 => ?_)
  · skip
    refine tz_aload0 (n := 37) (g_at ck_X10_uneven 21 rfl) rfl (g_ne kd_1) ?_
    refine tz_getOv (n := 40) (a := 62) fk_X10_74 kd_1 (ly_1_14 hL) (g_at ck_X10_uneven 22 rfl) rfl ?_
    refine tz_getAv (n := 43) (a := 69) fk_X10_284 kd_62 (ly_62_3 hL) (g_at ck_X10_uneven 23 rfl) rfl ?_
    refine tz_iload1 (n := 44) (g_at ck_X10_uneven 24 rfl) rfl ?_
    refine tz_iconst (n := 45) (g_at ck_X10_uneven 25 rfl) rfl ?_
    refine tz_csI2 (n := 48) (μ' := μX6_roadIndex) (cb' := 0) (sb' := 0) ml_X10_287 mo_X6_roadIndex ms_X6_roadIndex np_X6_roadIndex (g_at ck_X10_uneven 26 rfl) (sp_roadIndex hR4) rfl rfl ⟨by decide, by decide⟩ (Nat.le_of_ble_eq_true rfl) (by decide) (by decide) (fun x45 ρ9 m45 hq => ?_)
    obtain ⟨rfl, hR5, rfl, rfl⟩ := hq
    refine tz_iald (n := 49) kd_69 (by omega) (g_at ck_X10_uneven 27 rfl) rfl ?_
    rw [hT17.goi _ (by omega)]
    have hg0 := hσ17.2.2.2 (c * 5 + 0) (by omega) (by omega)
    have e1 : mxG (daysP Λ hl tl (sig0 s) n.toNat) c 1 = (daysP Λ hl tl (sig0 s) n.toNat) 2 (c * 5 + 0) := by show (if 0 < (daysP Λ hl tl (sig0 s) n.toNat) 2 (c * 5 + 0) then (daysP Λ hl tl (sig0 s) n.toNat) 2 (c * 5 + 0) else 0) = _; split <;> omega
    have e2 : mnG (daysP Λ hl tl (sig0 s) n.toNat) c 1 = (daysP Λ hl tl (sig0 s) n.toNat) 2 (c * 5 + 0) := by show (if (daysP Λ hl tl (sig0 s) n.toNat) 2 (c * 5 + 0) < 9999 then (daysP Λ hl tl (sig0 s) n.toNat) 2 (c * 5 + 0) else 9999) = _; split <;> omega
    refine tz_istore4 (n := 51) (g_at ck_X10_uneven 28 rfl) rfl (by decide) g_hpI ?_
    refine tz_iload4 (n := 53) (g_at ck_X10_uneven 29 rfl) rfl ?_
    refine tz_istore5 (n := 55) (g_at ck_X10_uneven 30 rfl) rfl (by decide) g_hpI ?_
    refine tz_iconst (n := 56) (g_at ck_X10_uneven 31 rfl) rfl ?_
    refine tz_istore6 (n := 58) (g_at ck_X10_uneven 32 rfl) rfl (by decide) g_hpI ?_
    suffices hlp : ∀ i : Nat, i ≤ ((Λ 3 c).toNat - 1) → gT l γ μX10_uneven 7 0 0 _ _ KK (wr ρ 62 0 ld) m17 58 [some (vR 1), some (vI c), some (vI n), some (vI (Λ 3 c)), some (vI (mxG (daysP Λ hl tl (sig0 s) n.toNat) c (i + 1))), some (vI (mnG (daysP Λ hl tl (sig0 s) n.toNat) c (i + 1))), some (vI ((i : Int) + 1)), none] [] by
      have h0 := hlp 0 (Nat.zero_le _)
      rw [e1, e2] at h0
      exact h0
    refine g_for (fun i : Nat => gT l γ μX10_uneven 7 0 0 _ _ KK (wr ρ 62 0 ld) m17 58 [some (vR 1), some (vI c), some (vI n), some (vI (Λ 3 c)), some (vI (mxG (daysP Λ hl tl (sig0 s) n.toNat) c (i + 1))), some (vI (mnG (daysP Λ hl tl (sig0 s) n.toNat) c (i + 1))), some (vI ((i : Int) + 1)), none] []) ((Λ 3 c).toNat - 1) ?_ (fun i hi ihi => ?_)
    · skip
      have eN : (Λ 3 c).toNat - 1 + 1 = (Λ 3 c).toNat := by omega
      refine tz_iload6 (n := 60) (g_at ck_X10_uneven 33 rfl) rfl ?_
      refine tz_iload3 (n := 61) (g_at ck_X10_uneven 34 rfl) rfl ?_
      refine tz_icmp_ge (n := 64) (tgt := 104) (g_at ck_X10_uneven 35 rfl) rfl rfl ⟨(by omega), (by omega), (by omega), (by omega)⟩ (fun h61 => ?_) (fun h61 => absurd h61 (by omega))
      refine tz_iload4 (n := 106) (g_at ck_X10_uneven 54 rfl) rfl ?_
      refine tz_iload5 (n := 108) (g_at ck_X10_uneven 55 rfl) rfl ?_
      refine tz_isub (n := 109) (g_at ck_X10_uneven 56 rfl) rfl ?_
      exact tz_iret (g_at ck_X10_uneven 57 rfl) rfl (rI_mk ⟨qR_62, hR5, hQ17, sq_0 hz2 hz9, by rw [if_neg h31, eN]⟩)
    · skip
      have hb9 := mxG_rg hσ17 (by omega) (show 0 ≤ c ∧ c < 9 by omega) (i + 1) (by omega)
      have hg9 := hσ17.2.2.2 (c * 5 + ((i : Int) + 1)) (by omega) (by omega)
      refine tz_iload6 (n := 60) (g_at ck_X10_uneven 33 rfl) rfl ?_
      refine tz_iload3 (n := 61) (g_at ck_X10_uneven 34 rfl) rfl ?_
      refine tz_icmp_ge (n := 64) (tgt := 104) (g_at ck_X10_uneven 35 rfl) rfl rfl ⟨(by omega), (by omega), (by omega), (by omega)⟩ (fun h61 => absurd h61 (by omega)) (fun h61 => ?_)
      refine tz_aload0 (n := 65) (g_at ck_X10_uneven 36 rfl) rfl (g_ne kd_1) ?_
      refine tz_getOv (n := 68) (a := 62) fk_X10_74 kd_1 (ly_1_14 hL) (g_at ck_X10_uneven 37 rfl) rfl ?_
      refine tz_getAv (n := 71) (a := 69) fk_X10_284 kd_62 (ly_62_3 hL) (g_at ck_X10_uneven 38 rfl) rfl ?_
      refine tz_iload1 (n := 72) (g_at ck_X10_uneven 39 rfl) rfl ?_
      refine tz_iload6 (n := 74) (g_at ck_X10_uneven 40 rfl) rfl ?_
      refine tz_csI2 (n := 77) (μ' := μX6_roadIndex) (cb' := 0) (sb' := 0) ml_X10_287 mo_X6_roadIndex ms_X6_roadIndex np_X6_roadIndex (g_at ck_X10_uneven 41 rfl) (sp_roadIndex hR5) rfl rfl ⟨by decide, by decide⟩ (Nat.le_of_ble_eq_true rfl) (by decide) (by decide) (fun x74 ρ9 m74 hq => ?_)
      obtain ⟨rfl, hR6, rfl, rfl⟩ := hq
      refine tz_iald (n := 78) kd_69 (by omega) (g_at ck_X10_uneven 42 rfl) rfl ?_
      rw [hT17.goi _ (by omega)]
      refine tz_istore7 (n := 80) (g_at ck_X10_uneven 43 rfl) rfl (by decide) g_hpI ?_
      refine tz_iload4 (n := 82) (g_at ck_X10_uneven 44 rfl) rfl ?_
      refine tz_iload7 (n := 84) (g_at ck_X10_uneven 45 rfl) rfl ?_
      refine tz_mmax (n := 87) mm_X10_316 mmax_1 mm_i mmax_2 ⟨by omega, by omega, by omega, by omega⟩ (g_at ck_X10_uneven 46 rfl) rfl (by decide) (Nat.le_of_ble_eq_true rfl) ?_
      refine tz_istore4 (n := 89) (g_at ck_X10_uneven 47 rfl) rfl (by decide) g_hpI ?_
      refine tz_iload5 (n := 91) (g_at ck_X10_uneven 48 rfl) rfl ?_
      refine tz_iload7 (n := 93) (g_at ck_X10_uneven 49 rfl) rfl ?_
      refine tz_mmin (n := 96) mm_X10_321 mmin_1 mm_i mmin_2 ⟨by omega, by omega, by omega, by omega⟩ (g_at ck_X10_uneven 50 rfl) rfl (by decide) (Nat.le_of_ble_eq_true rfl) ?_
      refine tz_istore5 (n := 98) (g_at ck_X10_uneven 51 rfl) rfl (by decide) g_hpI ?_
      refine tz_iinc6 (n := 101) (g_at ck_X10_uneven 52 rfl) rfl (by decide) g_hpI ?_
      refine tz_goto (tgt := 58) (g_at ck_X10_uneven 53 rfl) rfl ?_
      refine tz_drop7 ?_
      exact ihi
  · skip
    refine tz_iconst (n := 35) (g_at ck_X10_uneven 19 rfl) rfl ?_
    exact tz_iret (g_at ck_X10_uneven 20 rfl) rfl (rI_mk ⟨qR_62, hR4, hQ17, sq_0 hz2 hz9, if_pos h31⟩)
