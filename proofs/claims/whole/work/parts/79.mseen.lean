/-! The reference: what was seen; turned. -/
def MSeen (m κ : Mm) : Prop := m 84 58 = κ 0 0 ∧ ∀ i, 0 ≤ i → i < κ 0 0 → m 116 (3 * i) = κ 1 i ∧ m 116 (3 * i + 1) = κ 2 i ∧ m 116 (3 * i + 2) = κ 3 i
/-- a day's changes, and what is soon -/
def FS (m m9 : Mm) : Prop := Fr (117 :: mDay) m m9 ∧ ∀ k, (k < 35 ∨ 70 ≤ k) → m9 103 k = m 103 k
theorem FS.rf {m : Mm} : FS m m := ⟨Fr.rf, fun _ _ => rfl⟩
theorem FS.tr {a b c : Mm} (h : FS a b) (k : FS b c) : FS a c := ⟨h.1.tr k.1, fun x hx => (k.2 x hx).trans (h.2 x hx)⟩
theorem FS.fd {a b : Mm} (h : FD 35 a b) : FS a b := ⟨h.1.sub fun x hx => List.mem_cons_of_mem _ hx, fun k hk => h.2 k (by omega)⟩
theorem FS.wr {a b : Mm} {k v : Int} (h : FS a b) : FS a (wr b 117 k v) := ⟨h.1.wr List.mem_cons_self, fun j hj => by rw [wr_ne (by decide)]; exact h.2 j hj⟩
theorem FS.k {a b : Mm} (h : FS a b) : mK a b := ⟨h.1.sub (by decide), fun k _ _ => by rw [h.1 84 (by decide)], fun k _ h2 => h.2 k (Or.inl h2)⟩
theorem FS.land {m m9 Λ : Mm} {hl tl : List Int} (h : FS m m9) (k : MLand m Λ hl tl) : MLand m9 Λ hl tl := h.k.land k
theorem MSeen.fs {m m9 κ : Mm} (h : MSeen m κ) (k : FS m m9) : MSeen m9 κ := by
  unfold MSeen at h ⊢
  rw [k.1 84 (by decide), k.1 116 (by decide)]
  exact h
theorem MSeen.k {m m9 κ : Mm} (h : MSeen m κ) (k : mK m m9) : MSeen m9 κ := by
  unfold MSeen at h ⊢
  rw [k.2.1 58 (by decide) (by decide), k.1 116 (by decide)]
  exact h
theorem so_1 {Λ κ σ : Mm} {hl tl : List Int} (h : ∀ q : Nat, q < (κ 0 0).toNat → daysP Λ hl tl σ (κ 3 q).toNat 0 (1 + κ 1 q) = κ 2 q) : soP Λ hl tl κ σ = 1 := if_pos h
theorem so_0 {Λ κ σ : Mm} {hl tl : List Int} {q : Nat} (hq : q < (κ 0 0).toNat) (h : ¬ daysP Λ hl tl σ (κ 3 q).toNat 0 (1 + κ 1 q) = κ 2 q) : soP Λ hl tl κ σ = 0 := if_neg fun h9 => h (h9 q hq)
theorem mp_isSeen {l : Launch} {γ : Gh} {ρ m : Mm} {Λ e σ κ : Mm} {hl tl : List Int} {B : Int} (hL : LY ρ) (hR : MR m) (hW : WL Λ) (hM : MLand m Λ hl tl) (hT : MT m 35 Λ e σ) (hσ : WS Λ B σ) (hB : 0 ≤ B ∧ B < 2000) (hz : m 84 51 = 0) (hK : MSeen m κ) (hκ : WK Λ κ) : gE l γ μX11_isSeen 4 0 0 (rI KK fun x ρ9 m9 => ρ = ρ9 ∧ MR m9 ∧ FS m m9 ∧ soP Λ hl tl κ σ = x ∧ (x ≠ 0 → ∀ p, 0 ≤ p → p < Λ 0 1 → m9 117 p = daysP Λ hl tl σ 6 0 (1 + p))) xN KK ρ m [vR 84] := by
  refine gE.ofw cl_X11.2 ?_ rfl rfl (Nat.le_of_ble_eq_true rfl)
  show gT l γ μX11_isSeen 4 0 0 _ _ KK ρ m 0 [some (vR 84), none, none] []
  have hn1 := hW.1
  have hn8 := hW.2.1
  have hk8 := hκ.1
  refine tz_iconst (n := 1) (g_at ck_X11_isSeen 0 rfl) rfl ?_
  refine tz_istore1 (n := 2) (g_at ck_X11_isSeen 1 rfl) rfl (by decide) g_hpR ?_
  refine g_for (fun i : Nat => ∀ m1 : Mm, (MR m1 ∧ MT m1 35 Λ e (daysP Λ hl tl σ i) ∧ FS m m1 ∧ (∀ q : Nat, q < (κ 0 0).toNat → κ 3 q < (i : Int) → daysP Λ hl tl σ (κ 3 q).toNat 0 (1 + κ 1 q) = κ 2 q) ∧ (6 < (i : Int) → ∀ p, 0 ≤ p → p < Λ 0 1 → m1 117 p = daysP Λ hl tl σ 6 0 (1 + p))) → gT l γ μX11_isSeen 4 0 0 _ _ KK ρ m1 2 [some (vR 84), some (vI (i : Int)), none] []) 21 ?_ (fun i hi ihi => ?_) 0 (Nat.zero_le _) _ ⟨hR, hT, FS.rf, fun q g1 g2 => absurd g2 (by have := (hκ.2 q (by omega) (by omega)).2.2.1; omega), fun g1 => absurd g1 (by decide)⟩
  · intro m1 hinv
    obtain ⟨hRi, hTi, hSi, hok, hsn⟩ := hinv
    refine tz_iload1 (n := 3) (g_at ck_X11_isSeen 2 rfl) rfl ?_
    refine tz_bipush (n := 5) (g_at ck_X11_isSeen 3 rfl) rfl rfl ?_
    refine tz_icmp_gt (n := 8) (tgt := 118) (g_at ck_X11_isSeen 4 rfl) rfl rfl ⟨(by omega), (by omega), (by decide), (by decide)⟩ (fun h5 => ?_) (fun h5 => absurd h5 (by omega))
    refine tz_iconst (n := 119) (g_at ck_X11_isSeen 71 rfl) rfl ?_
    exact tz_bret (g_at ck_X11_isSeen 72 rfl) rfl (by decide) (rI_mk ⟨rfl, hRi, hSi, so_1 fun q g1 => hok q g1 (by have := (hκ.2 q (by omega) (by omega)).2.2.2; omega), fun _ => hsn (by decide)⟩)
  · intro m1 hinv
    obtain ⟨hRi, hTi, hSi, hok, hsn⟩ := hinv
    have hσi := daysP_WS (hl := hl) (tl := tl) hW hσ hB.1 i
    have hKi := hK.fs hSi
    have hN := (hSi.land hM).2.1
    refine tz_iload1 (n := 3) (g_at ck_X11_isSeen 2 rfl) rfl ?_
    refine tz_bipush (n := 5) (g_at ck_X11_isSeen 3 rfl) rfl rfl ?_
    refine tz_icmp_gt (n := 8) (tgt := 118) (g_at ck_X11_isSeen 4 rfl) rfl rfl ⟨(by omega), (by omega), (by decide), (by decide)⟩ (fun h5 => absurd h5 (by omega)) (fun h5 => ?_)
    refine tz_iconst (n := 9) (g_at ck_X11_isSeen 5 rfl) rfl ?_
    refine tz_istore2 (n := 10) (g_at ck_X11_isSeen 6 rfl) rfl (by decide) g_hpI ?_
    refine g_for (fun j : Nat => (∀ q : Nat, q < j → κ 3 q = (i : Int) → daysP Λ hl tl σ (κ 3 q).toNat 0 (1 + κ 1 q) = κ 2 q) → gT l γ μX11_isSeen 4 0 0 _ _ KK ρ m1 10 [some (vR 84), some (vI (i : Int)), some (vI (j : Int))] []) (κ 0 0).toNat ?_ (fun j hj ihj => ?_) 0 (Nat.zero_le _) (fun q hq => absurd hq (Nat.not_lt_zero q))
    · intro hinv
      refine tz_iload2 (n := 11) (g_at ck_X11_isSeen 7 rfl) rfl ?_
      refine tz_aload0 (n := 12) (g_at ck_X11_isSeen 8 rfl) rfl (g_ne kd_84) ?_
      refine tz_getIw (n := 15) (kz := 58) fk_X11_315 kd_84 (g_at ck_X11_isSeen 9 rfl) rfl rfl ?_
      rw [hKi.1]
      refine tz_icmp_ge (n := 18) (tgt := 69) (g_at ck_X11_isSeen 10 rfl) rfl rfl (by omega) (fun h15 => ?_) (fun h15 => absurd h15 (by omega))
      refine tz_iload1 (n := 70) (g_at ck_X11_isSeen 45 rfl) rfl ?_
      refine tz_bipush (n := 72) (g_at ck_X11_isSeen 46 rfl) rfl rfl ?_
      refine tz_icmp_ne (n := 75) (tgt := 106) (g_at ck_X11_isSeen 47 rfl) rfl rfl ⟨(by omega), (by omega), (by decide), (by decide)⟩ (fun h72 => ?_) (fun h72 => ?_)
      · skip
        refine tz_aload0 (n := 107) (g_at ck_X11_isSeen 66 rfl) rfl (g_ne kd_84) ?_
        refine tz_bipush (n := 109) (g_at ck_X11_isSeen 67 rfl) rfl rfl ?_
        refine tz_cvV1 (n := 112) (μ' := μX11_dayGoes) (cb' := 0) (sb' := 0) ml_X11_353 mo_X11_dayGoes mv_X11_dayGoes np_X11_dayGoes kd_84 (g_at ck_X11_isSeen 68 rfl) (mp_dayGoes hL hRi hW (hSi.land hM) hTi hσi (by omega) (Or.inr rfl) (hw_0 (by rw [hSi.1 84 (by decide)]; exact hz))) rfl rfl rfl ⟨by decide, by decide⟩ (Nat.le_of_ble_eq_true rfl) (by decide) (by decide) (fun ρ9 m109 hq => ?_)
        obtain ⟨rfl, hR1, hT109, hD109⟩ := hq
        have hT9 : MT m109 35 Λ e (daysP Λ hl tl σ (i + 1)) := hT109
        have hS9 := hSi.tr (FS.fd hD109)
        refine tz_iinc1 (n := 115) (g_at ck_X11_isSeen 69 rfl) rfl (by decide) g_hpR ?_
        refine tz_goto (tgt := 2) (g_at ck_X11_isSeen 70 rfl) rfl ?_
        refine tz_drop2 ?_
        exact ihi _ ⟨hR1, hT9, hS9, fun q g1 g2 => if e9 : κ 3 q = (i : Int) then hinv q (by omega) e9 else hok q g1 (by omega), fun _ p g1 g2 => by rw [hD109.1 117 (by decide)]; exact hsn (by omega) p g1 g2⟩
      · skip
        refine tz_iconst (n := 76) (g_at ck_X11_isSeen 48 rfl) rfl ?_
        refine tz_istore2 (n := 77) (g_at ck_X11_isSeen 49 rfl) rfl (by decide) g_hpI ?_
        have h6 : i = 6 := by omega
        refine g_for (fun j : Nat => ∀ m3 : Mm, (MR m3 ∧ MT m3 35 Λ e (daysP Λ hl tl σ i) ∧ FS m m3 ∧ ∀ p, 0 ≤ p → p < (j : Int) → m3 117 p = daysP Λ hl tl σ 6 0 (1 + p)) → gT l γ μX11_isSeen 4 0 0 _ _ KK ρ m3 77 [some (vR 84), some (vI (i : Int)), some (vI (j : Int))] []) (Λ 0 1).toNat ?_ (fun j hj ihj => ?_) 0 (Nat.zero_le _) _ ⟨hRi, hTi, hSi, fun p g1 g2 => absurd g2 (by omega)⟩
        · intro m3 hinv
          obtain ⟨hR3, hT3, hS3, hsq⟩ := hinv
          have hN3 := (hS3.land hM).2.1
          refine tz_iload2 (n := 78) (g_at ck_X11_isSeen 50 rfl) rfl ?_
          refine tz_aload0 (n := 79) (g_at ck_X11_isSeen 51 rfl) rfl (g_ne kd_84) ?_
          refine tz_getIw (n := 82) (kz := 2) fk_X11_305 kd_84 (g_at ck_X11_isSeen 52 rfl) rfl rfl ?_
          rw [hN3]
          refine tz_icmp_ge (n := 85) (tgt := 106) (g_at ck_X11_isSeen 53 rfl) rfl rfl (by omega) (fun h82 => ?_) (fun h82 => absurd h82 (by omega))
          refine tz_aload0 (n := 107) (g_at ck_X11_isSeen 66 rfl) rfl (g_ne kd_84) ?_
          refine tz_bipush (n := 109) (g_at ck_X11_isSeen 67 rfl) rfl rfl ?_
          refine tz_cvV1 (n := 112) (μ' := μX11_dayGoes) (cb' := 0) (sb' := 0) ml_X11_353 mo_X11_dayGoes mv_X11_dayGoes np_X11_dayGoes kd_84 (g_at ck_X11_isSeen 68 rfl) (mp_dayGoes hL hR3 hW (hS3.land hM) hT3 hσi (by omega) (Or.inr rfl) (hw_0 (by rw [hS3.1 84 (by decide)]; exact hz))) rfl rfl rfl ⟨by decide, by decide⟩ (Nat.le_of_ble_eq_true rfl) (by decide) (by decide) (fun ρ9 m109 hq => ?_)
          obtain ⟨rfl, hR2, hT109, hD109⟩ := hq
          have hT9 : MT m109 35 Λ e (daysP Λ hl tl σ (i + 1)) := hT109
          have hS9 := hS3.tr (FS.fd hD109)
          refine tz_iinc1 (n := 115) (g_at ck_X11_isSeen 69 rfl) rfl (by decide) g_hpR ?_
          refine tz_goto (tgt := 2) (g_at ck_X11_isSeen 70 rfl) rfl ?_
          refine tz_drop2 ?_
          exact ihi _ ⟨hR2, hT9, hS9, fun q g1 g2 => if e9 : κ 3 q = (i : Int) then hinv q (by omega) e9 else hok q g1 (by omega), fun _ p g1 g2 => by rw [hD109.1 117 (by decide)]; exact hsq p g1 (by omega)⟩
        · intro m3 hinv
          obtain ⟨hR3, hT3, hS3, hsq⟩ := hinv
          have hN3 := (hS3.land hM).2.1
          have hwj := hσi.2.1 (j : Int) (by omega) (by omega)
          refine tz_iload2 (n := 78) (g_at ck_X11_isSeen 50 rfl) rfl ?_
          refine tz_aload0 (n := 79) (g_at ck_X11_isSeen 51 rfl) rfl (g_ne kd_84) ?_
          refine tz_getIw (n := 82) (kz := 2) fk_X11_305 kd_84 (g_at ck_X11_isSeen 52 rfl) rfl rfl ?_
          rw [hN3]
          refine tz_icmp_ge (n := 85) (tgt := 106) (g_at ck_X11_isSeen 53 rfl) rfl rfl (by omega) (fun h82 => absurd h82 (by omega)) (fun h82 => ?_)
          refine tz_aload0 (n := 86) (g_at ck_X11_isSeen 54 rfl) rfl (g_ne kd_84) ?_
          refine tz_getAv (n := 89) (a := 117) fk_X11_117 kd_84 (ly_84_60 hL) (g_at ck_X11_isSeen 55 rfl) rfl ?_
          refine tz_iload2 (n := 90) (g_at ck_X11_isSeen 56 rfl) rfl ?_
          refine tz_aload0 (n := 91) (g_at ck_X11_isSeen 57 rfl) rfl (g_ne kd_84) ?_
          refine tz_getAv (n := 94) (a := 103) fk_X11_75 kd_84 (ly_84_43 hL) (g_at ck_X11_isSeen 58 rfl) rfl ?_
          refine tz_bipush (n := 96) (g_at ck_X11_isSeen 59 rfl) rfl rfl ?_
          refine tz_iload2 (n := 97) (g_at ck_X11_isSeen 60 rfl) rfl ?_
          refine tz_iadd (n := 98) (g_at ck_X11_isSeen 61 rfl) rfl ?_
          refine tz_iald (n := 99) kd_103 (by omega) (g_at ck_X11_isSeen 62 rfl) rfl ?_
          rw [hT3.r (k := 1 + (j : Int)) (by omega) (by omega)]
          refine tz_iastr (n := 100) kd_117 (by omega) (g_at ck_X11_isSeen 63 rfl) rfl hR3 (by omega) (fun hR3 => ?_)
          refine tz_iinc2 (n := 103) (g_at ck_X11_isSeen 64 rfl) rfl (by decide) g_hpI ?_
          refine tz_goto (tgt := 77) (g_at ck_X11_isSeen 65 rfl) rfl ?_
          refine ihj _ ⟨hR3, hT3.wrn (by decide), hS3.wr, fun p g1 g2 => ?_⟩
          rw [wr_at]
          split
          · rename_i e9; rw [e9, ← h6]
          · exact hsq p g1 (by omega)
    · intro hinv
      have hnj := hinv
      have hkj := hκ.2 (j : Int) (by omega) (by omega)
      have hsj := hKi.2 (j : Int) (by omega) (by omega)
      have hpj := hσi.2.1 (κ 1 (j : Int)) (by omega) (by omega)
      refine tz_iload2 (n := 11) (g_at ck_X11_isSeen 7 rfl) rfl ?_
      refine tz_aload0 (n := 12) (g_at ck_X11_isSeen 8 rfl) rfl (g_ne kd_84) ?_
      refine tz_getIw (n := 15) (kz := 58) fk_X11_315 kd_84 (g_at ck_X11_isSeen 9 rfl) rfl rfl ?_
      rw [hKi.1]
      refine tz_icmp_ge (n := 18) (tgt := 69) (g_at ck_X11_isSeen 10 rfl) rfl rfl (by omega) (fun h15 => absurd h15 (by omega)) (fun h15 => ?_)
      refine tz_aload0 (n := 19) (g_at ck_X11_isSeen 11 rfl) rfl (g_ne kd_84) ?_
      refine tz_getAv (n := 22) (a := 116) fk_X11_114 kd_84 (ly_84_59 hL) (g_at ck_X11_isSeen 12 rfl) rfl ?_
      refine tz_iconst (n := 23) (g_at ck_X11_isSeen 13 rfl) rfl ?_
      refine tz_iload2 (n := 24) (g_at ck_X11_isSeen 14 rfl) rfl ?_
      refine tz_imul (n := 25) (g_at ck_X11_isSeen 15 rfl) rfl ?_
      refine tz_iconst (n := 26) (g_at ck_X11_isSeen 16 rfl) rfl ?_
      refine tz_iadd (n := 27) (g_at ck_X11_isSeen 17 rfl) rfl ?_
      refine tz_iald (n := 28) kd_116 (by omega) (g_at ck_X11_isSeen 18 rfl) rfl ?_
      rw [hsj.2.2]
      refine tz_iload1 (n := 29) (g_at ck_X11_isSeen 19 rfl) rfl ?_
      refine tz_icmp_ne (n := 32) (tgt := 63) (g_at ck_X11_isSeen 20 rfl) rfl rfl (by omega) (fun h29 => ?_) (fun h29 => ?_)
      · skip
        refine tz_iinc2 (n := 66) (g_at ck_X11_isSeen 43 rfl) rfl (by decide) g_hpI ?_
        refine tz_goto (tgt := 10) (g_at ck_X11_isSeen 44 rfl) rfl ?_
        exact ihj fun q hq h9 => if e9 : q = j then absurd h9 (by rw [e9]; exact h29) else hnj q (by omega) h9
      · skip
        refine tz_aload0 (n := 33) (g_at ck_X11_isSeen 21 rfl) rfl (g_ne kd_84) ?_
        refine tz_getAv (n := 36) (a := 103) fk_X11_75 kd_84 (ly_84_43 hL) (g_at ck_X11_isSeen 22 rfl) rfl ?_
        refine tz_bipush (n := 38) (g_at ck_X11_isSeen 23 rfl) rfl rfl ?_
        refine tz_aload0 (n := 39) (g_at ck_X11_isSeen 24 rfl) rfl (g_ne kd_84) ?_
        refine tz_getAv (n := 42) (a := 116) fk_X11_114 kd_84 (ly_84_59 hL) (g_at ck_X11_isSeen 25 rfl) rfl ?_
        refine tz_iconst (n := 43) (g_at ck_X11_isSeen 26 rfl) rfl ?_
        refine tz_iload2 (n := 44) (g_at ck_X11_isSeen 27 rfl) rfl ?_
        refine tz_imul (n := 45) (g_at ck_X11_isSeen 28 rfl) rfl ?_
        refine tz_iald (n := 46) kd_116 (by omega) (g_at ck_X11_isSeen 29 rfl) rfl ?_
        rw [hsj.1]
        refine tz_iadd (n := 47) (g_at ck_X11_isSeen 30 rfl) rfl ?_
        refine tz_iald (n := 48) kd_103 (by omega) (g_at ck_X11_isSeen 31 rfl) rfl ?_
        rw [hTi.r (x := 36 + κ 1 (j : Int)) (k := 1 + κ 1 (j : Int)) (by omega) (by omega)]
        refine tz_aload0 (n := 49) (g_at ck_X11_isSeen 32 rfl) rfl (g_ne kd_84) ?_
        refine tz_getAv (n := 52) (a := 116) fk_X11_114 kd_84 (ly_84_59 hL) (g_at ck_X11_isSeen 33 rfl) rfl ?_
        refine tz_iconst (n := 53) (g_at ck_X11_isSeen 34 rfl) rfl ?_
        refine tz_iload2 (n := 54) (g_at ck_X11_isSeen 35 rfl) rfl ?_
        refine tz_imul (n := 55) (g_at ck_X11_isSeen 36 rfl) rfl ?_
        refine tz_iconst (n := 56) (g_at ck_X11_isSeen 37 rfl) rfl ?_
        refine tz_iadd (n := 57) (g_at ck_X11_isSeen 38 rfl) rfl ?_
        refine tz_iald (n := 58) kd_116 (by omega) (g_at ck_X11_isSeen 39 rfl) rfl ?_
        rw [hsj.2.1]
        refine tz_icmp_eq (n := 61) (tgt := 63) (g_at ck_X11_isSeen 40 rfl) rfl rfl (by omega) (fun h58 => ?_) (fun h58 => ?_)
        · skip
          refine tz_iinc2 (n := 66) (g_at ck_X11_isSeen 43 rfl) rfl (by decide) g_hpI ?_
          refine tz_goto (tgt := 10) (g_at ck_X11_isSeen 44 rfl) rfl ?_
          refine ihj fun q hq h9 => ?_
          by_cases e9 : q = j
          · rw [e9] at h9 ⊢
            rw [h9]
            exact h58
          · exact hnj q (by omega) h9
        · skip
          refine tz_iconst (n := 62) (g_at ck_X11_isSeen 41 rfl) rfl ?_
          exact tz_bret (g_at ck_X11_isSeen 42 rfl) rfl (by decide) (rI_mk ⟨rfl, hRi, hSi, so_0 (q := j) (by omega) (by rw [h29]; exact h58), fun h9 => absurd rfl h9⟩)
