/-! The reference: what was seen; turned. -/
def MSeen (m κ : Mm) : Prop := m 84 58 = κ 0 0 ∧ ∀ i, 0 ≤ i → i < κ 0 0 → m 116 (3 * i) = κ 1 i ∧ m 116 (3 * i + 1) = κ 2 i ∧ m 116 (3 * i + 2) = κ 3 i
/-- a day's changes, and what is soon -/
def FS (m m9 : Mm) : Prop := Fr (117 :: mDay) m m9 ∧ ∀ k, (k < 35 ∨ 70 ≤ k) → m9 103 k = m 103 k
theorem FS.rf {m : Mm} : FS m m := ⟨Fr.rf, fun _ _ => rfl⟩
theorem FS.tr {a b c : Mm} (h : FS a b) (k : FS b c) : FS a c := ⟨h.1.tr k.1, fun x hx => (k.2 x hx).trans (h.2 x hx)⟩
theorem FS.fd {a b : Mm} (h : FD 35 a b) : FS a b := ⟨h.1.sub fun x hx => List.mem_cons_of_mem _ hx, fun k hk => h.2 k (by omega)⟩
theorem FS.wr {a b : Mm} {k v : Int} (h : FS a b) : FS a (wr b 117 k v) := ⟨h.1.wr List.mem_cons_self, fun j hj => by rw [wr_ne (by decide)]; exact h.2 j hj⟩
theorem FS.k {a b : Mm} (h : FS a b) : mK a b := ⟨h.1.sub (by decide), fun k _ _ => by rw [h.1 84 (by decide)], fun k _ h2 => h.2 k (Or.inl h2)⟩
theorem FS.land {m m9 Λ : Mm} {hl tl : List Int} (h : FS m m9) (k : MLand m Λ hl tl) : MLand m9 Λ hl tl := h.k.land k
theorem MSeen.fs {m m9 κ : Mm} (h : MSeen m κ) (k : FS m m9) : MSeen m9 κ := by
  unfold MSeen at h ⊢
  rw [k.1 84 (by decide), k.1 116 (by decide)]
  exact h
theorem MSeen.k {m m9 κ : Mm} (h : MSeen m κ) (k : mK m m9) : MSeen m9 κ := by
  unfold MSeen at h ⊢
  rw [k.2.1 58 (by decide) (by decide), k.1 116 (by decide)]
  exact h
theorem so_1 {Λ κ σ : Mm} {hl tl : List Int} (h : ∀ q : Nat, q < (κ 0 0).toNat → daysP Λ hl tl σ (κ 3 q).toNat 0 (1 + κ 1 q) = κ 2 q) : soP Λ hl tl κ σ = 1 := if_pos h
theorem so_0 {Λ κ σ : Mm} {hl tl : List Int} {q : Nat} (hq : q < (κ 0 0).toNat) (h : ¬ daysP Λ hl tl σ (κ 3 q).toNat 0 (1 + κ 1 q) = κ 2 q) : soP Λ hl tl κ σ = 0 := if_neg fun h9 => h (h9 q hq)
theorem mp_isSeen {l : Launch} {γ : Gh} {ρ m : Mm} {Λ e σ κ : Mm} {hl tl : List Int} {B : Int} (hL : LY ρ) (hR : MR m) (hW : WL Λ) (hM : MLand m Λ hl tl) (hT : MT m 35 Λ e σ) (hσ : WS Λ B σ) (hB : 0 ≤ B ∧ B < 2000) (hz : m 84 51 = 0) (hK : MSeen m κ) (hκ : WK Λ κ) : gE l γ μX11_isSeen 4 0 0 (rI KK fun x ρ9 m9 => ρ = ρ9 ∧ MR m9 ∧ FS m m9 ∧ soP Λ hl tl κ σ = x ∧ (x ≠ 0 → ∀ p, 0 ≤ p → p < Λ 0 1 → m9 117 p = daysP Λ hl tl σ 6 0 (1 + p))) xN KK ρ m [vR 84] := by
  refine gE.ofw cl_X11.2 ?_ rfl rfl (Nat.le_of_ble_eq_true rfl)
  show gT l γ μX11_isSeen 4 0 0 _ _ KK ρ m 0 [some (vR 84), none, none] []
  have hn1 := hW.1
  have hn8 := hW.2.1
  have hk8 := hκ.1
  refine tz_iconst (n := 1) (g_at ck_X11_isSeen 0 rfl) rfl ?_
  refine tz_istore1 (n := 2) (g_at ck_X11_isSeen 1 rfl) rfl (by decide) g_hpR ?_
  refine g_for (fun i : Nat => ∀ m1 : Mm, (MR m1 ∧ MT m1 35 Λ e (daysP Λ hl tl σ i) ∧ FS m m1 ∧ (∀ q : Nat, q < (κ 0 0).toNat → κ 3 q < (i : Int) → daysP Λ hl tl σ (κ 3 q).toNat 0 (1 + κ 1 q) = κ 2 q) ∧ (6 < (i : Int) → ∀ p, 0 ≤ p → p < Λ 0 1 → m1 117 p = daysP Λ hl tl σ 6 0 (1 + p))) → gT l γ μX11_isSeen 4 0 0 _ _ KK ρ m1 2 [some (vR 84), some (vI (i : Int)), none] []) 21 ?_ (fun i hi ihi => ?_) 0 (Nat.zero_le _) _ ⟨hR, hT, FS.rf, fun q g1 g2 => absurd g2 (by have := (hκ.2 q (by omega) (by omega)).2.2.1; omega), fun g1 => absurd g1 (by decide)⟩
  · intro m1 hinv
    obtain ⟨hRi, hTi, hSi, hok, hsn⟩ := hinv
    refine tz_iload1 (n := 3) (g_at ck_X11_isSeen 2 rfl) rfl ?_
    refine tz_bipush (n := 5) (g_at ck_X11_isSeen 3 rfl) rfl rfl ?_
    refine tz_icmp_gt (n := 8) (tgt := 118) (g_at ck_X11_isSeen 4 rfl) rfl rfl ⟨(by omega), (by omega), (by decide), (by decide)⟩ (fun h5 => ?_) (fun h5 => absurd h5 (by omega))
    refine tz_iconst (n := 119) (g_at ck_X11_isSeen 71 rfl) rfl ?_
    exact tz_bret (g_at ck_X11_isSeen 72 rfl) rfl (by decide) (rI_mk ⟨rfl, hRi, hSi, so_1 fun q g1 => hok q g1 (by have := (hκ.2 q (by omega) (by omega)).2.2.2; omega), fun _ => hsn (by decide)⟩)
  · intro m1 hinv
    obtain ⟨hRi, hTi, hSi, hok, hsn⟩ := hinv
    have hσi := daysP_WS (hl := hl) (tl := tl) hW hσ hB.1 i
    have hKi := hK.fs hSi
    have hN := (hSi.land hM).2.1
    refine tz_iload1 (n := 3) (g_at ck_X11_isSeen 2 rfl) rfl ?_
    refine tz_bipush (n := 5) (g_at ck_X11_isSeen 3 rfl) rfl rfl ?_
    refine tz_icmp_gt (n := 8) (tgt := 118) (g_at ck_X11_isSeen 4 rfl) rfl rfl ⟨(by omega), (by omega), (by decide), (by decide)⟩ (fun h5 => absurd h5 (by omega)) (fun h5 => ?_)
    refine tz_iconst (n := 9) (g_at ck_X11_isSeen 5 rfl) rfl ?_
    refine tz_istore2 (n := 10) (g_at ck_X11_isSeen 6 rfl) rfl (by decide) g_hpI ?_
    refine g_for (fun j : Nat => (∀ q : Nat, q < j → κ 3 q = (i : Int) → daysP Λ hl tl σ (κ 3 q).toNat 0 (1 + κ 1 q) = κ 2 q) → gT l γ μX11_isSeen 4 0 0 _ _ KK ρ m1 10 [some (vR 84), some (vI (i : Int)), some (vI (j : Int))] []) (κ 0 0).toNat ?_ (fun j hj ihj => ?_) 0 (Nat.zero_le _) (fun q hq => absurd hq (Nat.not_lt_zero q))
    · intro hinv
      refine tz_iload2 (n := 11) (g_at ck_X11_isSeen 7 rfl) rfl ?_
      refine tz_aload0 (n := 12) (g_at ck_X11_isSeen 8 rfl) rfl (g_ne kd_84) ?_
      refine tz_getIw (n := 15) (kz := 58) fk_X11_315 kd_84 (g_at ck_X11_isSeen 9 rfl) rfl rfl ?_
      rw [hKi.1]
      refine tz_icmp_ge (n := 18) (tgt := 69) (g_at ck_X11_isSeen 10 rfl) rfl rfl (by omega) (fun h15 => ?_) (fun h15 => absurd h15 (by omega))
      refine tz_iload1 (n := 70) (g_at ck_X11_isSeen 45 rfl) rfl ?_
      refine tz_bipush (n := 72) (g_at ck_X11_isSeen 46 rfl) rfl rfl ?_
      refine tz_icmp_ne (n := 75) (tgt := 106) (g_at ck_X11_isSeen 47 rfl) rfl rfl ⟨(by omega), (by omega), (by decide), (by decide)⟩ (fun h72 => ?_) (fun h72 => ?_)
      · skip
        refine tz_aload0 (n := 107) (g_at ck_X11_isSeen 66 rfl) rfl (g_ne kd_84) ?_
        refine tz_bipush (n := 109) (g_at ck_X11_isSeen 67 rfl) rfl rfl ?_
        refine tz_cvV1 (n := 112) (μ' := μX11_dayGoes) (cb' := 0) (sb' := 0) ml_X11_353 mo_X11_dayGoes mv_X11_dayGoes np_X11_dayGoes kd_84 (g_at ck_X11_isSeen 68 rfl) (mp_dayGoes hL hRi hW (hSi.land hM) hTi hσi (by omega) (Or.inr rfl) (hw_0 (by rw [hSi.1 84 (by decide)]; exact hz))) rfl rfl rfl ⟨by decide, by decide⟩ (Nat.le_of_ble_eq_true rfl) (by decide) (by decide) (fun ρ9 m109 hq => ?_)
        obtain ⟨rfl, hR1, hT109, hD109⟩ := hq
        have hT9 : MT m109 35 Λ e (daysP Λ hl tl σ (i + 1)) := hT109
        have hS9 := hSi.tr (FS.fd hD109)
        refine tz_iinc1 (n := 115) (g_at ck_X11_isSeen 69 rfl) rfl (by decide) g_hpR ?_
        refine tz_goto (tgt := 2) (g_at ck_X11_isSeen 70 rfl) rfl ?_
        refine tz_drop2 ?_
        exact ihi _ ⟨hR1, hT9, hS9, fun q g1 g2 => if e9 : κ 3 q = (i : Int) then hinv q (by omega) e9 else hok q g1 (by omega), fun _ p g1 g2 => by rw [hD109.1 117 (by decide)]; exact hsn (by omega) p g1 g2⟩
      · skip
        refine tz_iconst (n := 76) (g_at ck_X11_isSeen 48 rfl) rfl ?_
        refine tz_istore2 (n := 77) (g_at ck_X11_isSeen 49 rfl) rfl (by decide) g_hpI ?_
        have h6 : i = 6 := by omega
        refine g_for (fun j : Nat => ∀ m3 : Mm, (MR m3 ∧ MT m3 35 Λ e (daysP Λ hl tl σ i) ∧ FS m m3 ∧ ∀ p, 0 ≤ p → p < (j : Int) → m3 117 p = daysP Λ hl tl σ 6 0 (1 + p)) → gT l γ μX11_isSeen 4 0 0 _ _ KK ρ m3 77 [some (vR 84), some (vI (i : Int)), some (vI (j : Int))] []) (Λ 0 1).toNat ?_ (fun j hj ihj => ?_) 0 (Nat.zero_le _) _ ⟨hRi, hTi, hSi, fun p g1 g2 => absurd g2 (by omega)⟩
        · intro m3 hinv
          obtain ⟨hR3, hT3, hS3, hsq⟩ := hinv
          have hN3 := (hS3.land hM).2.1
          refine tz_iload2 (n := 78) (g_at ck_X11_isSeen 50 rfl) rfl ?_
          refine tz_aload0 (n := 79) (g_at ck_X11_isSeen 51 rfl) rfl (g_ne kd_84) ?_
          refine tz_getIw (n := 82) (kz := 2) fk_X11_305 kd_84 (g_at ck_X11_isSeen 52 rfl) rfl rfl ?_
          rw [hN3]
          refine tz_icmp_ge (n := 85) (tgt := 106) (g_at ck_X11_isSeen 53 rfl) rfl rfl (by omega) (fun h82 => ?_) (fun h82 => absurd h82 (by omega))
          refine tz_aload0 (n := 107) (g_at ck_X11_isSeen 66 rfl) rfl (g_ne kd_84) ?_
          refine tz_bipush (n := 109) (g_at ck_X11_isSeen 67 rfl) rfl rfl ?_
          refine tz_cvV1 (n := 112) (μ' := μX11_dayGoes) (cb' := 0) (sb' := 0) ml_X11_353 mo_X11_dayGoes mv_X11_dayGoes np_X11_dayGoes kd_84 (g_at ck_X11_isSeen 68 rfl) (mp_dayGoes hL hR3 hW (hS3.land hM) hT3 hσi (by omega) (Or.inr rfl) (hw_0 (by rw [hS3.1 84 (by decide)]; exact hz))) rfl rfl rfl ⟨by decide, by decide⟩ (Nat.le_of_ble_eq_true rfl) (by decide) (by decide) (fun ρ9 m109 hq => ?_)
          obtain ⟨rfl, hR2, hT109, hD109⟩ := hq
          have hT9 : MT m109 35 Λ e (daysP Λ hl tl σ (i + 1)) := hT109
          have hS9 := hS3.tr (FS.fd hD109)
          refine tz_iinc1 (n := 115) (g_at ck_X11_isSeen 69 rfl) rfl (by decide) g_hpR ?_
          refine tz_goto (tgt := 2) (g_at ck_X11_isSeen 70 rfl) rfl ?_
          refine tz_drop2 ?_
          exact ihi _ ⟨hR2, hT9, hS9, fun q g1 g2 => if e9 : κ 3 q = (i : Int) then hinv q (by omega) e9 else hok q g1 (by omega), fun _ p g1 g2 => by rw [hD109.1 117 (by decide)]; exact hsq p g1 (by omega)⟩
        · intro m3 hinv
          obtain ⟨hR3, hT3, hS3, hsq⟩ := hinv
          have hN3 := (hS3.land hM).2.1
          have hwj := hσi.2.1 (j : Int) (by omega) (by omega)
          refine tz_iload2 (n := 78) (g_at ck_X11_isSeen 50 rfl) rfl ?_
          refine tz_aload0 (n := 79) (g_at ck_X11_isSeen 51 rfl) rfl (g_ne kd_84) ?_
          refine tz_getIw (n := 82) (kz := 2) fk_X11_305 kd_84 (g_at ck_X11_isSeen 52 rfl) rfl rfl ?_
          rw [hN3]
          refine tz_icmp_ge (n := 85) (tgt := 106) (g_at ck_X11_isSeen 53 rfl) rfl rfl (by omega) (fun h82 => absurd h82 (by omega)) (fun h82 => ?_)
          refine tz_aload0 (n := 86) (g_at ck_X11_isSeen 54 rfl) rfl (g_ne kd_84) ?_
          refine tz_getAv (n := 89) (a := 117) fk_X11_117 kd_84 (ly_84_60 hL) (g_at ck_X11_isSeen 55 rfl) rfl ?_
          refine tz_iload2 (n := 90) (g_at ck_X11_isSeen 56 rfl) rfl ?_
          refine tz_aload0 (n := 91) (g_at ck_X11_isSeen 57 rfl) rfl (g_ne kd_84) ?_
          refine tz_getAv (n := 94) (a := 103) fk_X11_75 kd_84 (ly_84_43 hL) (g_at ck_X11_isSeen 58 rfl) rfl ?_
          refine tz_bipush (n := 96) (g_at ck_X11_isSeen 59 rfl) rfl rfl ?_
          refine tz_iload2 (n := 97) (g_at ck_X11_isSeen 60 rfl) rfl ?_
          refine tz_iadd (n := 98) (g_at ck_X11_isSeen 61 rfl) rfl ?_
          refine tz_iald (n := 99) kd_103 (by omega) (g_at ck_X11_isSeen 62 rfl) rfl ?_
          rw [hT3.r (k := 1 + (j : Int)) (by omega) (by omega)]
          refine tz_iastr (n := 100) kd_117 (by omega) (g_at ck_X11_isSeen 63 rfl) rfl hR3 (by omega) (fun hR3 => ?_)
          refine tz_iinc2 (n := 103) (g_at ck_X11_isSeen 64 rfl) rfl (by decide) g_hpI ?_
          refine tz_goto (tgt := 77) (g_at ck_X11_isSeen 65 rfl) rfl ?_
          refine ihj _ ⟨hR3, hT3.wrn (by decide), hS3.wr, fun p g1 g2 => ?_⟩
          rw [wr_at]
          split
          · rename_i e9; rw [e9, ← h6]
          · exact hsq p g1 (by omega)
    · intro hinv
      have hnj := hinv
      have hkj := hκ.2 (j : Int) (by omega) (by omega)
      have hsj := hKi.2 (j : Int) (by omega) (by omega)
      have hpj := hσi.2.1 (κ 1 (j : Int)) (by omega) (by omega)
      refine tz_iload2 (n := 11) (g_at ck_X11_isSeen 7 rfl) rfl ?_
      refine tz_aload0 (n := 12) (g_at ck_X11_isSeen 8 rfl) rfl (g_ne kd_84) ?_
      refine tz_getIw (n := 15) (kz := 58) fk_X11_315 kd_84 (g_at ck_X11_isSeen 9 rfl) rfl rfl ?_
      rw [hKi.1]
      refine tz_icmp_ge (n := 18) (tgt := 69) (g_at ck_X11_isSeen 10 rfl) rfl rfl (by omega) (fun h15 => absurd h15 (by omega)) (fun h15 => ?_)
      refine tz_aload0 (n := 19) (g_at ck_X11_isSeen 11 rfl) rfl (g_ne kd_84) ?_
      refine tz_getAv (n := 22) (a := 116) fk_X11_114 kd_84 (ly_84_59 hL) (g_at ck_X11_isSeen 12 rfl) rfl ?_
      refine tz_iconst (n := 23) (g_at ck_X11_isSeen 13 rfl) rfl ?_
      refine tz_iload2 (n := 24) (g_at ck_X11_isSeen 14 rfl) rfl ?_
      refine tz_imul (n := 25) (g_at ck_X11_isSeen 15 rfl) rfl ?_
      refine tz_iconst (n := 26) (g_at ck_X11_isSeen 16 rfl) rfl ?_
      refine tz_iadd (n := 27) (g_at ck_X11_isSeen 17 rfl) rfl ?_
      refine tz_iald (n := 28) kd_116 (by omega) (g_at ck_X11_isSeen 18 rfl) rfl ?_
      rw [hsj.2.2]
      refine tz_iload1 (n := 29) (g_at ck_X11_isSeen 19 rfl) rfl ?_
      refine tz_icmp_ne (n := 32) (tgt := 63) (g_at ck_X11_isSeen 20 rfl) rfl rfl (by omega) (fun h29 => ?_) (fun h29 => ?_)
      · skip
        refine tz_iinc2 (n := 66) (g_at ck_X11_isSeen 43 rfl) rfl (by decide) g_hpI ?_
        refine tz_goto (tgt := 10) (g_at ck_X11_isSeen 44 rfl) rfl ?_
        exact ihj fun q hq h9 => if e9 : q = j then absurd h9 (by rw [e9]; exact h29) else hnj q (by omega) h9
      · skip
        refine tz_aload0 (n := 33) (g_at ck_X11_isSeen 21 rfl) rfl (g_ne kd_84) ?_
        refine tz_getAv (n := 36) (a := 103) fk_X11_75 kd_84 (ly_84_43 hL) (g_at ck_X11_isSeen 22 rfl) rfl ?_
        refine tz_bipush (n := 38) (g_at ck_X11_isSeen 23 rfl) rfl rfl ?_
        refine tz_aload0 (n := 39) (g_at ck_X11_isSeen 24 rfl) rfl (g_ne kd_84) ?_
        refine tz_getAv (n := 42) (a := 116) fk_X11_114 kd_84 (ly_84_59 hL) (g_at ck_X11_isSeen 25 rfl) rfl ?_
        refine tz_iconst (n := 43) (g_at ck_X11_isSeen 26 rfl) rfl ?_
        refine tz_iload2 (n := 44) (g_at ck_X11_isSeen 27 rfl) rfl ?_
        refine tz_imul (n := 45) (g_at ck_X11_isSeen 28 rfl) rfl ?_
        refine tz_iald (n := 46) kd_116 (by omega) (g_at ck_X11_isSeen 29 rfl) rfl ?_
        rw [hsj.1]
        refine tz_iadd (n := 47) (g_at ck_X11_isSeen 30 rfl) rfl ?_
        refine tz_iald (n := 48) kd_103 (by omega) (g_at ck_X11_isSeen 31 rfl) rfl ?_
        rw [hTi.r (x := 36 + κ 1 (j : Int)) (k := 1 + κ 1 (j : Int)) (by omega) (by omega)]
        refine tz_aload0 (n := 49) (g_at ck_X11_isSeen 32 rfl) rfl (g_ne kd_84) ?_
        refine tz_getAv (n := 52) (a := 116) fk_X11_114 kd_84 (ly_84_59 hL) (g_at ck_X11_isSeen 33 rfl) rfl ?_
        refine tz_iconst (n := 53) (g_at ck_X11_isSeen 34 rfl) rfl ?_
        refine tz_iload2 (n := 54) (g_at ck_X11_isSeen 35 rfl) rfl ?_
        refine tz_imul (n := 55) (g_at ck_X11_isSeen 36 rfl) rfl ?_
        refine tz_iconst (n := 56) (g_at ck_X11_isSeen 37 rfl) rfl ?_
        refine tz_iadd (n := 57) (g_at ck_X11_isSeen 38 rfl) rfl ?_
        refine tz_iald (n := 58) kd_116 (by omega) (g_at ck_X11_isSeen 39 rfl) rfl ?_
        rw [hsj.2.1]
        refine tz_icmp_eq (n := 61) (tgt := 63) (g_at ck_X11_isSeen 40 rfl) rfl rfl (by omega) (fun h58 => ?_) (fun h58 => ?_)
        · skip
          refine tz_iinc2 (n := 66) (g_at ck_X11_isSeen 43 rfl) rfl (by decide) g_hpI ?_
          refine tz_goto (tgt := 10) (g_at ck_X11_isSeen 44 rfl) rfl ?_
          refine ihj fun q hq h9 => ?_
          by_cases e9 : q = j
          · rw [e9] at h9 ⊢
            rw [h9]
            exact h58
          · exact hnj q (by omega) h9
        · skip
          refine tz_iconst (n := 62) (g_at ck_X11_isSeen 41 rfl) rfl ?_
          exact tz_bret (g_at ck_X11_isSeen 42 rfl) rfl (by decide) (rI_mk ⟨rfl, hRi, hSi, so_0 (q := j) (by omega) (by rw [h29]; exact h58), fun h9 => absurd rfl h9⟩)
def gsB (Λ : Mm) (B : Int → Int → Int) (g : Int) : Int := if g % 10 < Λ 3 (g / 10) then B (g / 10) (g % 10) else 0
def gfN (Λ : Mm) (B : Int → Int → Int) (n : Nat) : Int × Int := fd (fun g q => if gsB Λ B (g : Int) = 0 then q else (q.1 + 1, if q.1 = 0 then (g : Int) else q.2)) (0, -1) n
theorem gf_s {Λ : Mm} {B : Int → Int → Int} {n : Nat} : gfN Λ B (n + 1) = if gsB Λ B (n : Int) = 0 then gfN Λ B n else ((gfN Λ B n).1 + 1, if (gfN Λ B n).1 = 0 then (n : Int) else (gfN Λ B n).2) := rfl
theorem gf_1 {Λ : Mm} {B : Int → Int → Int} {n : Nat} (h : ¬ gsB Λ B (n : Int) = 0) (h1 : (gfN Λ B n).1 = 0) : gfN Λ B (n + 1) = ((gfN Λ B n).1 + 1, (n : Int)) := by rw [gf_s, if_neg h, if_pos h1]
theorem gf_2 {Λ : Mm} {B : Int → Int → Int} {n : Nat} (h : ¬ gsB Λ B (n : Int) = 0) (h1 : ¬ (gfN Λ B n).1 = 0) : gfN Λ B (n + 1) = ((gfN Λ B n).1 + 1, (gfN Λ B n).2) := by rw [gf_s, if_neg h, if_neg h1]
theorem gf_blk {Λ : Mm} {B : Int → Int → Int} {c : Nat} (hr : 0 ≤ Λ 3 (c : Int)) (h0 : gfN Λ B (10 * c) = cfN Λ B c) : ∀ k : Nat, k ≤ 10 → gfN Λ B (10 * c + k) = cfR B (c : Int) (cfN Λ B c) (min k (Λ 3 (c : Int)).toNat)
  | 0, _ => by rw [Nat.zero_min]; exact h0
  | k + 1, h => by
    have ih := gf_blk hr h0 k (by omega)
    have e : gfN Λ B (10 * c + (k + 1)) = if gsB Λ B ((10 * c + k : Nat) : Int) = 0 then gfN Λ B (10 * c + k) else ((gfN Λ B (10 * c + k)).1 + 1, if (gfN Λ B (10 * c + k)).1 = 0 then ((10 * c + k : Nat) : Int) else (gfN Λ B (10 * c + k)).2) := rfl
    have d1 : ((10 * c + k : Nat) : Int) / 10 = (c : Int) := by omega
    have d2 : ((10 * c + k : Nat) : Int) % 10 = (k : Int) := by omega
    have d3 : gsB Λ B ((10 * c + k : Nat) : Int) = if (k : Int) < Λ 3 (c : Int) then B (c : Int) (k : Int) else 0 := by unfold gsB; rw [d1, d2]
    rw [e, d3]
    by_cases hk : (k : Int) < Λ 3 (c : Int)
    · have m1 : min k (Λ 3 (c : Int)).toNat = k := by omega
      have m2 : min (k + 1) (Λ 3 (c : Int)).toNat = k + 1 := by omega
      rw [m1] at ih
      rw [m2, if_pos hk, ih]
      show _ = cfS B (c : Int) (k : Int) (cfR B (c : Int) (cfN Λ B c) k)
      unfold cfS
      rw [show ((10 * c + k : Nat) : Int) = 10 * (c : Int) + (k : Int) by omega]
    · have m1 : min k (Λ 3 (c : Int)).toNat = (Λ 3 (c : Int)).toNat := by omega
      have m2 : min (k + 1) (Λ 3 (c : Int)).toNat = (Λ 3 (c : Int)).toNat := by omega
      rw [m1] at ih
      rw [m2, if_neg hk, if_pos rfl]
      exact ih
theorem gf_cf {Λ : Mm} {B : Int → Int → Int} (hW : WL Λ) : ∀ c : Nat, c ≤ (Λ 0 0).toNat → gfN Λ B (10 * c) = cfN Λ B c
  | 0, _ => rfl
  | c + 1, h => by
    have h0 := hW.1
    have hc := hW.2.2.1 (c : Int) (by omega) (by omega)
    have ih := gf_cf (B := B) hW c (by omega)
    have k := gf_blk (c := c) hc.2.2.2.2.1 ih 10 (Nat.le_refl _)
    have m1 : min 10 (Λ 3 (c : Int)).toNat = (Λ 3 (c : Int)).toNat := by omega
    rw [m1] at k
    exact k
theorem gf_all {Λ : Mm} {B : Int → Int → Int} (hW : WL Λ) : gfN Λ B (10 * Λ 0 0).toNat = cfN Λ B (Λ 0 0).toNat := by
  have h0 := hW.1
  rw [show (10 * Λ 0 0).toNat = 10 * (Λ 0 0).toNat by omega]
  exact gf_cf hW _ (Nat.le_refl _)
theorem gf_inv {Λ : Mm} {B : Int → Int → Int} : ∀ n : Nat, n ≤ 90 → 0 ≤ (gfN Λ B n).1 ∧ (gfN Λ B n).1 ≤ n ∧ ((gfN Λ B n).1 = 0 ↔ (gfN Λ B n).2 = -1) ∧ -1 ≤ (gfN Λ B n).2 ∧ (gfN Λ B n).2 < n
  | 0, _ => by show 0 ≤ (0 : Int) ∧ (0 : Int) ≤ ((0 : Nat) : Int) ∧ ((0 : Int) = 0 ↔ (-1 : Int) = -1) ∧ (-1 : Int) ≤ -1 ∧ (-1 : Int) < ((0 : Nat) : Int); omega
  | n + 1, h => by
    have ih := gf_inv (Λ := Λ) (B := B) n (by omega)
    have e : gfN Λ B (n + 1) = if gsB Λ B (n : Int) = 0 then gfN Λ B n else ((gfN Λ B n).1 + 1, if (gfN Λ B n).1 = 0 then (n : Int) else (gfN Λ B n).2) := rfl
    rw [e]
    split
    · omega
    · by_cases e9 : (gfN Λ B n).1 = 0
      · rw [if_pos e9]
        show 0 ≤ (gfN Λ B n).1 + 1 ∧ (gfN Λ B n).1 + 1 ≤ ((n + 1 : Nat) : Int) ∧ ((gfN Λ B n).1 + 1 = 0 ↔ (n : Int) = -1) ∧ -1 ≤ (n : Int) ∧ (n : Int) < ((n + 1 : Nat) : Int)
        omega
      · rw [if_neg e9]
        show 0 ≤ (gfN Λ B n).1 + 1 ∧ (gfN Λ B n).1 + 1 ≤ ((n + 1 : Nat) : Int) ∧ ((gfN Λ B n).1 + 1 = 0 ↔ (gfN Λ B n).2 = -1) ∧ -1 ≤ (gfN Λ B n).2 ∧ (gfN Λ B n).2 < ((n + 1 : Nat) : Int)
        omega
theorem mp_isGuess {l : Launch} {γ : Gh} {ρ m : Mm} {g : Int} {κ : Mm} {s : Int → Int} {Λ : Mm} {hl tl : List Int} (hL : LY ρ) (hR : MR m) (hW : WL Λ) (hM : MLand m Λ hl tl) (hs : MRow m s) (hσ : WS Λ 0 (sig0 s)) (hz : m 84 51 = 0) (hK : MSeen m κ) (hκ : WK Λ κ) (hg : 0 ≤ g ∧ g < 10 * Λ 0 0) : gE l γ μX11_isGuess 6 0 0 (rI KK fun x ρ9 m9 => ρ = ρ9 ∧ MR m9 ∧ FS m m9 ∧ gsB Λ (tnB Λ hl tl κ s) g = x ∧ (x ≠ 0 → ∀ p, 0 ≤ p → p < Λ 0 1 → m9 117 p = lkT Λ hl tl s (g / 10) (g % 10) 0 (1 + p))) xN KK ρ m [vR 84, vI g] := by
  refine gE.ofw cl_X11.2 ?_ rfl rfl (Nat.le_of_ble_eq_true rfl)
  show gT l γ μX11_isGuess 6 0 0 _ _ KK ρ m 0 [some (vR 84), some (vI g), none] []
  have hn1 := hW.1
  have hn8 := hW.2.1
  have hcw := hW.2.2.1 (g / 10) (by omega) (by omega)
  have r87 := (hM.2.2.1 (g / 10) (by omega) (by omega)).2.2
  have hsc := sig0_WS_c hσ (c := (g / 10)) (by omega)
  refine tz_iload1 (n := 1) (g_at ck_X11_isGuess 0 rfl) rfl ?_
  refine tz_bipush (n := 3) (g_at ck_X11_isGuess 1 rfl) rfl rfl ?_
  refine tz_idiv (n := 4) (g_at ck_X11_isGuess 2 rfl) rfl (by omega) ?_
  rw [bDiv_nn (by omega) (by decide)]
  refine tz_istore2 (n := 5) (g_at ck_X11_isGuess 3 rfl) rfl (by decide) g_hpI ?_
  refine tz_iload1 (n := 6) (g_at ck_X11_isGuess 4 rfl) rfl ?_
  refine tz_bipush (n := 8) (g_at ck_X11_isGuess 5 rfl) rfl rfl ?_
  refine tz_irem (n := 9) (g_at ck_X11_isGuess 6 rfl) rfl (by omega) ?_
  rw [bRem_nn (by omega) (by decide)]
  refine tz_aload0 (n := 10) (g_at ck_X11_isGuess 7 rfl) rfl (g_ne kd_84) ?_
  refine tz_getAv (n := 13) (a := 87) fk_X11_23 kd_84 (ly_84_7 hL) (g_at ck_X11_isGuess 8 rfl) rfl ?_
  refine tz_iload2 (n := 14) (g_at ck_X11_isGuess 9 rfl) rfl ?_
  refine tz_iald (n := 15) kd_87 (by omega) (g_at ck_X11_isGuess 10 rfl) rfl ?_
  rw [r87]
  refine tz_icmp_ge (n := 18) (tgt := 34) (g_at ck_X11_isGuess 11 rfl) rfl rfl (by omega) (fun h15 => ?_) (fun h15 => ?_)
  · skip
    refine tz_iconst (n := 35) (g_at ck_X11_isGuess 22 rfl) rfl ?_
    exact tz_bret (g_at ck_X11_isGuess 23 rfl) rfl (by decide) (rI_mk ⟨rfl, hR, FS.rf, if_neg (by omega), fun h9 => absurd rfl h9⟩)
  · skip
    refine tz_aload0 (n := 19) (g_at ck_X11_isGuess 12 rfl) rfl (g_ne kd_84) ?_
    refine tz_getAv (n := 22) (a := 103) fk_X11_75 kd_84 (ly_84_43 hL) (g_at ck_X11_isGuess 13 rfl) rfl ?_
    refine tz_bipush (n := 24) (g_at ck_X11_isGuess 14 rfl) rfl rfl ?_
    refine tz_iload2 (n := 25) (g_at ck_X11_isGuess 15 rfl) rfl ?_
    refine tz_iadd (n := 26) (g_at ck_X11_isGuess 16 rfl) rfl ?_
    refine tz_iald (n := 27) kd_103 (by omega) (g_at ck_X11_isGuess 17 rfl) rfl ?_
    rw [hs (17 + (g / 10)) (by omega) (by omega)]
    refine tz_iload1 (n := 28) (g_at ck_X11_isGuess 18 rfl) rfl ?_
    refine tz_bipush (n := 30) (g_at ck_X11_isGuess 19 rfl) rfl rfl ?_
    refine tz_irem (n := 31) (g_at ck_X11_isGuess 20 rfl) rfl (by omega) ?_
    rw [bRem_nn (by omega) (by decide)]
    refine tz_icmp_ne (n := 34) (tgt := 36) (g_at ck_X11_isGuess 21 rfl) rfl rfl (by omega) (fun h31 => ?_) (fun h31 => ?_)
    · skip
      refine tz_aload0 (n := 37) (g_at ck_X11_isGuess 24 rfl) rfl (g_ne kd_84) ?_
      refine tz_cvV0 (n := 40) (μ' := μX11_tries) (cb' := 0) (sb' := 0) ml_X11_356 mo_X11_tries mv_X11_tries np_X11_tries kd_84 (g_at ck_X11_isGuess 25 rfl) (mp_tries (Λ := Λ) hL hR hs) rfl rfl rfl ⟨by decide, by decide⟩ (Nat.le_of_ble_eq_true rfl) (by decide) (by decide) (fun ρ9 m37 hq => ?_)
      obtain ⟨rfl, hR1, hT37, hD37⟩ := hq
      refine tz_aload0 (n := 41) (g_at ck_X11_isGuess 26 rfl) rfl (g_ne kd_84) ?_
      refine tz_getAv (n := 44) (a := 103) fk_X11_75 kd_84 (ly_84_43 hL) (g_at ck_X11_isGuess 27 rfl) rfl ?_
      refine tz_bipush (n := 46) (g_at ck_X11_isGuess 28 rfl) rfl rfl ?_
      refine tz_iload2 (n := 47) (g_at ck_X11_isGuess 29 rfl) rfl ?_
      refine tz_iadd (n := 48) (g_at ck_X11_isGuess 30 rfl) rfl ?_
      rw [show 52 + (g / 10) = 35 + (17 + (g / 10)) by omega]
      refine tz_iload1 (n := 49) (g_at ck_X11_isGuess 31 rfl) rfl ?_
      refine tz_bipush (n := 51) (g_at ck_X11_isGuess 32 rfl) rfl rfl ?_
      refine tz_irem (n := 52) (g_at ck_X11_isGuess 33 rfl) rfl (by omega) ?_
      rw [bRem_nn (by omega) (by decide)]
      refine tz_iastr (n := 53) kd_103 (by omega) (g_at ck_X11_isGuess 34 rfl) rfl hR1 (by omega) (fun hR2 => ?_)
      have hS9 : FS m (wr m37 103 (35 + (17 + (g / 10))) (g % 10)) := FS.fd (hD37.wr (by decide) fun _ => by omega)
      refine tz_aload0 (n := 54) (g_at ck_X11_isGuess 35 rfl) rfl (g_ne kd_84) ?_
      refine tz_cvI0 (n := 57) (μ' := μX11_isSeen) (cb' := 0) (sb' := 0) ml_X11_465 mo_X11_isSeen mv_X11_isSeen np_X11_isSeen kd_84 (g_at ck_X11_isGuess 36 rfl) (mp_isSeen hL hR2 hW ((hM.fr hD37.1 mDay_91).fr (Fr.rf.wr (L := [103]) (by decide)) (by decide)) (MT_row hT37 (by omega)) (WS_arm hW hσ (by omega) (by omega)) (by decide) (by rw [wr_ne (by decide), hD37.1 84 (by decide)]; exact hz) (hK.fs hS9) hκ) rfl rfl rfl ⟨by decide, by decide⟩ (Nat.le_of_ble_eq_true rfl) (by decide) (by decide) (fun x54 ρ9 m54 hq => ?_)
      obtain ⟨rfl, hR3, hS54, hx54, hs54⟩ := hq
      exact tz_bret (g_at ck_X11_isGuess 37 rfl) rfl (by have h9 := soP_01 (Λ := Λ) (hl := hl) (tl := tl) (κ := κ) (σ := wr (sig0 s) 0 (17 + (g / 10)) (g % 10)); rw [← hx54]; exact h9) (rI_mk ⟨rfl, hR3, hS9.tr hS54, ((if_pos (by omega)).trans (if_neg h31)).trans hx54, hs54⟩)
    · skip
      refine tz_iconst (n := 35) (g_at ck_X11_isGuess 22 rfl) rfl ?_
      exact tz_bret (g_at ck_X11_isGuess 23 rfl) rfl (by decide) (rI_mk ⟨rfl, hR, FS.rf, (if_pos (by omega)).trans (if_pos h31), fun h9 => absurd rfl h9⟩)
theorem mp_turned {l : Launch} {γ : Gh} {ρ m : Mm} {w : Int} (hw : -2147483648 ≤ w ∧ w < 2147483648) {κ : Mm} {s : Int → Int} {Λ : Mm} {hl tl : List Int} (hL : LY ρ) (hR : MR m) (hW : WL Λ) (hM : MLand m Λ hl tl) (hs : MRow m s) (hσ : WS Λ 0 (sig0 s)) (hz : m 84 51 = 0) (hK : MSeen m κ) (hκ : WK Λ κ) : gE l γ μX11_turned 7 0 0 (rI KK fun x ρ9 m9 => ρ = ρ9 ∧ MR m9 ∧ mK m m9 ∧ m9 84 0 = cdW w 2 ∧ (cdW w 2 = 0 → (if w = 2 then soP Λ hl tl κ (sig0 s) else if w = 0 then (cfN Λ (tnB Λ hl tl κ s) (Λ 0 0).toNat).1 else (cfN Λ (tnB Λ hl tl κ s) (Λ 0 0).toNat).2) = x)) xN KK ρ m [vR 84, vI w] := by
  refine gE.ofw cl_X11.2 ?_ rfl rfl (Nat.le_of_ble_eq_true rfl)
  show gT l γ μX11_turned 7 0 0 _ _ KK ρ m 0 [some (vR 84), some (vI w), none, none, none] []
  have hn1 := hW.1
  have hn8 := hW.2.1
  refine tz_aload0 (n := 1) (g_at ck_X11_turned 0 rfl) rfl (g_ne kd_84) ?_
  refine tz_iconst (n := 2) (g_at ck_X11_turned 1 rfl) rfl ?_
  refine tz_putIr (n := 5) (kz := 0) fk_X11_132 kd_84 (g_at ck_X11_turned 2 rfl) rfl hR ⟨(by decide), (by decide)⟩ rfl (fun hR1 => ?_)
  obtain ⟨m0, e0⟩ : ∃ m0, m0 = wr m 84 0 0 := ⟨_, rfl⟩
  rw [← e0] at hR1 ⊢
  have hk0 : mK m m0 := by rw [e0]; exact mK.w0
  have hM0 := hk0.land hM
  have hs0 := hk0.row hs
  have hz0 : m0 84 51 = 0 := hk0.w51.trans hz
  have h00 : m0 84 0 = 0 := by rw [e0, wr_same]
  have hw0 := hw_0 hz0
  refine tz_aload0 (n := 6) (g_at ck_X11_turned 3 rfl) rfl (g_ne kd_84) ?_
  refine tz_iload1 (n := 7) (g_at ck_X11_turned 4 rfl) rfl ?_
  refine tz_iconst (n := 8) (g_at ck_X11_turned 5 rfl) rfl ?_
  refine tz_cvI2 (n := 11) (μ' := μX11_isWhat) (cb' := 0) (sb' := 0) ml_X11_396 mo_X11_isWhat mv_X11_isWhat np_X11_isWhat kd_84 (g_at ck_X11_turned 6 rfl) (mp_isWhat hw (by decide) hL hR1 h00) rfl rfl rfl ⟨by decide, by decide⟩ (Nat.le_of_ble_eq_true rfl) (by decide) (by decide) (fun x8 ρ9 m8 hq => ?_)
  obtain ⟨rfl, hR2, hq8⟩ := hq
  refine tz_if_ne (n := 14) (tgt := 16) (g_at ck_X11_turned 7 rfl) rfl rfl (by rcases hq8.b01 with h9 | h9 <;> omega) (fun h11 => ?_) (fun h11 => ?_)
  · skip
    obtain ⟨hc0, rfl⟩ := hq8.ok h11
    have hi0 := cdW_i hc0
    have hK0 := hK.k hk0
    refine tz_iload1 (n := 17) (g_at ck_X11_turned 10 rfl) rfl ?_
    refine tz_iconst (n := 18) (g_at ck_X11_turned 11 rfl) rfl ?_
    refine tz_icmp_ne (n := 21) (tgt := 38) (g_at ck_X11_turned 12 rfl) rfl rfl ⟨hw.1, hw.2, by decide, by decide⟩ (fun h18 => ?_) (fun h18 => ?_)
    · skip
      refine tz_iconst (n := 39) (g_at ck_X11_turned 22 rfl) rfl ?_
      refine tz_istore2 (n := 40) (g_at ck_X11_turned 23 rfl) rfl (by decide) g_hpI ?_
      refine tz_iconst (n := 41) (g_at ck_X11_turned 24 rfl) rfl ?_
      refine tz_istore3 (n := 42) (g_at ck_X11_turned 25 rfl) rfl (by decide) g_hpI ?_
      refine tz_iconst (n := 43) (g_at ck_X11_turned 26 rfl) rfl ?_
      refine tz_istore4 (n := 45) (g_at ck_X11_turned 27 rfl) rfl (by decide) g_hpI ?_
      refine g_for (fun i : Nat => ∀ m1 : Mm, (MR m1 ∧ FS m0 m1) → gT l γ μX11_turned 7 0 0 _ _ KK ρ m1 45 [some (vR 84), some (vI w), some (vI (gfN Λ (tnB Λ hl tl κ s) i).1), some (vI (gfN Λ (tnB Λ hl tl κ s) i).2), some (vI (i : Int))] []) (10 * Λ 0 0).toNat ?_ (fun i hi ihi => ?_) 0 (Nat.zero_le _) _ ⟨hR2, FS.rf⟩
      · intro m1 hinv
        obtain ⟨hRi, hSi⟩ := hinv
        have hN := (hSi.land hM0).1
        have gall := gf_all (B := tnB Λ hl tl κ s) hW
        refine tz_iload4 (n := 47) (g_at ck_X11_turned 28 rfl) rfl ?_
        refine tz_bipush (n := 49) (g_at ck_X11_turned 29 rfl) rfl rfl ?_
        refine tz_aload0 (n := 50) (g_at ck_X11_turned 30 rfl) rfl (g_ne kd_84) ?_
        refine tz_getIw (n := 53) (kz := 1) fk_X11_302 kd_84 (g_at ck_X11_turned 31 rfl) rfl rfl ?_
        refine tz_imul (n := 54) (g_at ck_X11_turned 32 rfl) rfl ?_
        rw [hN]
        refine tz_icmp_ge (n := 57) (tgt := 86) (g_at ck_X11_turned 33 rfl) rfl rfl (by omega) (fun h54 => ?_) (fun h54 => absurd h54 (by omega))
        refine tz_iload1 (n := 87) (g_at ck_X11_turned 47 rfl) rfl ?_
        refine tz_if_ne (n := 90) (tgt := 94) (g_at ck_X11_turned 48 rfl) rfl rfl hw (fun h87 => ?_) (fun h87 => ?_)
        · skip
          refine tz_iload3 (n := 95) (g_at ck_X11_turned 51 rfl) rfl ?_
          exact tz_iret (g_at ck_X11_turned 52 rfl) rfl (rI_mk ⟨rfl, hRi, hk0.tr (hSi).k, by rw [(hSi).1 84 (by decide), h00, hc0], fun _ => by rw [if_neg h18, if_neg h87, ← gall]⟩)
        · skip
          refine tz_iload2 (n := 91) (g_at ck_X11_turned 49 rfl) rfl ?_
          refine tz_goto (tgt := 95) (g_at ck_X11_turned 50 rfl) rfl ?_
          exact tz_iret (g_at ck_X11_turned 52 rfl) rfl (rI_mk ⟨rfl, hRi, hk0.tr (hSi).k, by rw [(hSi).1 84 (by decide), h00, hc0], fun _ => by rw [if_neg h18, if_pos h87, ← gall]⟩)
      · intro m1 hinv
        obtain ⟨hRi, hSi⟩ := hinv
        have hN := (hSi.land hM0).1
        have hgi := gf_inv (Λ := Λ) (B := (tnB Λ hl tl κ s)) i (by omega)
        refine tz_iload4 (n := 47) (g_at ck_X11_turned 28 rfl) rfl ?_
        refine tz_bipush (n := 49) (g_at ck_X11_turned 29 rfl) rfl rfl ?_
        refine tz_aload0 (n := 50) (g_at ck_X11_turned 30 rfl) rfl (g_ne kd_84) ?_
        refine tz_getIw (n := 53) (kz := 1) fk_X11_302 kd_84 (g_at ck_X11_turned 31 rfl) rfl rfl ?_
        refine tz_imul (n := 54) (g_at ck_X11_turned 32 rfl) rfl ?_
        rw [hN]
        refine tz_icmp_ge (n := 57) (tgt := 86) (g_at ck_X11_turned 33 rfl) rfl rfl (by omega) (fun h54 => absurd h54 (by omega)) (fun h54 => ?_)
        refine tz_aload0 (n := 58) (g_at ck_X11_turned 34 rfl) rfl (g_ne kd_84) ?_
        refine tz_iload4 (n := 60) (g_at ck_X11_turned 35 rfl) rfl ?_
        refine tz_cvI1 (n := 63) (μ' := μX11_isGuess) (cb' := 0) (sb' := 0) ml_X11_468 mo_X11_isGuess mv_X11_isGuess np_X11_isGuess kd_84 (g_at ck_X11_turned 36 rfl) (mp_isGuess hL hRi hW (hSi.land hM0) (hSi.k.row hs0) hσ (by rw [hSi.1 84 (by decide)]; exact hz0) (hK0.fs hSi) hκ (by omega)) rfl rfl rfl ⟨by decide, by decide⟩ (Nat.le_of_ble_eq_true rfl) (by decide) (by decide) (fun x60 ρ9 m60 hq => ?_)
        obtain ⟨rfl, hR3, hS60, hx60, hs60⟩ := hq
        have hS9 := hSi.tr hS60
        have t01 : x60 = 0 ∨ x60 = 1 := by rw [← hx60]; unfold gsB; split; exact tnB_01; exact Or.inl rfl
        refine tz_if_ne (n := 66) (tgt := 69) (g_at ck_X11_turned 37 rfl) rfl rfl (by omega) (fun h63 => ?_) (fun h63 => ?_)
        · skip
          refine tz_iinc2 (n := 72) (g_at ck_X11_turned 39 rfl) rfl (by decide) g_hpI ?_
          refine tz_iload3 (n := 73) (g_at ck_X11_turned 40 rfl) rfl ?_
          refine tz_iconst (n := 74) (g_at ck_X11_turned 41 rfl) rfl ?_
          refine tz_icmp_ne (n := 77) (tgt := 80) (g_at ck_X11_turned 42 rfl) rfl rfl (by omega) (fun h74 => ?_) (fun h74 => ?_)
          · skip
            refine tz_iinc4 (n := 83) (g_at ck_X11_turned 45 rfl) rfl (by decide) g_hpI ?_
            refine tz_goto (tgt := 45) (g_at ck_X11_turned 46 rfl) rfl ?_
            have e9 : gfN Λ (tnB Λ hl tl κ s) (i + 1) = ((gfN Λ (tnB Λ hl tl κ s) i).1 + 1, (gfN Λ (tnB Λ hl tl κ s) i).2) := gf_2 (fun h9 => h63 (by rw [← hx60]; exact h9)) (fun h9 => h74 (hgi.2.2.1.mp h9))
            rw [e9] at ihi
            exact ihi _ ⟨hR3, hS9⟩
          · skip
            refine tz_iload4 (n := 79) (g_at ck_X11_turned 43 rfl) rfl ?_
            refine tz_istore3 (n := 80) (g_at ck_X11_turned 44 rfl) rfl (by decide) g_hpI ?_
            refine tz_iinc4 (n := 83) (g_at ck_X11_turned 45 rfl) rfl (by decide) g_hpI ?_
            refine tz_goto (tgt := 45) (g_at ck_X11_turned 46 rfl) rfl ?_
            have e9 : gfN Λ (tnB Λ hl tl κ s) (i + 1) = ((gfN Λ (tnB Λ hl tl κ s) i).1 + 1, (i : Int)) := gf_1 (fun h9 => h63 (by rw [← hx60]; exact h9)) (hgi.2.2.1.mpr h74)
            rw [e9] at ihi
            exact ihi _ ⟨hR3, hS9⟩
        · skip
          refine tz_goto (tgt := 80) (g_at ck_X11_turned 38 rfl) rfl ?_
          refine tz_iinc4 (n := 83) (g_at ck_X11_turned 45 rfl) rfl (by decide) g_hpI ?_
          refine tz_goto (tgt := 45) (g_at ck_X11_turned 46 rfl) rfl ?_
          have e9 : gfN Λ (tnB Λ hl tl κ s) (i + 1) = (gfN Λ (tnB Λ hl tl κ s) i) := if_pos (by rw [hx60]; exact h63)
          rw [e9] at ihi
          exact ihi _ ⟨hR3, hS9⟩
    · skip
      refine tz_aload0 (n := 22) (g_at ck_X11_turned 13 rfl) rfl (g_ne kd_84) ?_
      refine tz_cvV0 (n := 25) (μ' := μX11_tries) (cb' := 0) (sb' := 0) ml_X11_356 mo_X11_tries mv_X11_tries np_X11_tries kd_84 (g_at ck_X11_turned 14 rfl) (mp_tries (Λ := Λ) hL hR2 hs0) rfl rfl rfl ⟨by decide, by decide⟩ (Nat.le_of_ble_eq_true rfl) (by decide) (by decide) (fun ρ9 m22 hq => ?_)
      obtain ⟨rfl, hR4, hT22, hD22⟩ := hq
      refine tz_aload0 (n := 26) (g_at ck_X11_turned 15 rfl) rfl (g_ne kd_84) ?_
      refine tz_cvI0 (n := 29) (μ' := μX11_isSeen) (cb' := 0) (sb' := 0) ml_X11_465 mo_X11_isSeen mv_X11_isSeen np_X11_isSeen kd_84 (g_at ck_X11_turned 16 rfl) (mp_isSeen hL hR4 hW (hM0.fr hD22.1 mDay_91) hT22 hσ (by decide) (by rw [hD22.1 84 (by decide)]; exact hz0) (hK0.fs (FS.fd hD22)) hκ) rfl rfl rfl ⟨by decide, by decide⟩ (Nat.le_of_ble_eq_true rfl) (by decide) (by decide) (fun x26 ρ9 m26 hq => ?_)
      obtain ⟨rfl, hR5, hS26, hx26, hs26⟩ := hq
      have hS9 := (FS.fd hD22).tr hS26
      have t01 := soP_01 (Λ := Λ) (hl := hl) (tl := tl) (κ := κ) (σ := sig0 s)
      rw [hx26] at t01
      refine tz_if_eq (n := 32) (tgt := 36) (g_at ck_X11_turned 17 rfl) rfl rfl (by omega) (fun h29 => ?_) (fun h29 => ?_)
      · skip
        refine tz_iconst (n := 37) (g_at ck_X11_turned 20 rfl) rfl ?_
        exact tz_iret (g_at ck_X11_turned 21 rfl) rfl (rI_mk ⟨rfl, hR5, hk0.tr (hS9).k, by rw [(hS9).1 84 (by decide), h00, hc0], fun _ => by rw [if_pos h18, hx26]; omega⟩)
      · skip
        refine tz_iconst (n := 33) (g_at ck_X11_turned 18 rfl) rfl ?_
        refine tz_goto (tgt := 37) (g_at ck_X11_turned 19 rfl) rfl ?_
        exact tz_iret (g_at ck_X11_turned 21 rfl) rfl (rI_mk ⟨rfl, hR5, hk0.tr (hS9).k, by rw [(hS9).1 84 (by decide), h00, hc0], fun _ => by rw [if_pos h18, hx26]; omega⟩)
  · skip
    refine tz_iconst (n := 15) (g_at ck_X11_turned 8 rfl) rfl ?_
    exact tz_iret (g_at ck_X11_turned 9 rfl) rfl (rI_mk ⟨rfl, hR2, by rw [(hq8.no h11).2]; exact hk0.tr mK.w0, by rw [(hq8.no h11).2, wr_same], fun h9 => absurd h9 (by rw [show (0:Int) = 0 from rfl]; exact (hq8.no h11).1)⟩)
