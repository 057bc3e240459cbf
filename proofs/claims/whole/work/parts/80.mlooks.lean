/-! The reference: look. -/
def msk (f : Int → Int) (p : Int) (n : Nat) : Int := fd (fun k v => bOr v (bShl 1 (f (8 * (k : Int) + p)))) 0 n
theorem msk_e {f g : Int → Int} {p : Int} {n : Nat} (h : ∀ k : Nat, k < n → f (8 * (k : Int) + p) = g (8 * (k : Int) + p)) : msk f p n = msk g p n := by
  unfold msk
  exact fd_congr fun i v hi => by rw [h i hi]
theorem msk_s {f : Int → Int} {p : Int} {n : Nat} : msk f p (n + 1) = bOr (msk f p n) (bShl 1 (f (8 * (n : Int) + p))) := rfl
theorem adP_at {τ : Mm} {f : Int → Int} {p : Int} (hp : 0 ≤ p) : ∀ n : Nat, adP τ f n p = if p < (n : Int) then bOr (f p) (bShl 1 (τ 0 (1 + p))) else f p
  | 0 => by rw [if_neg (by omega)]; rfl
  | n + 1 => by
    have ih := adP_at (τ := τ) (f := f) hp n
    have e : adP τ f (n + 1) p = up (adP τ f n) (n : Int) (bOr (adP τ f n (n : Int)) (bShl 1 (τ 0 (1 + (n : Int))))) p := rfl
    rw [e]
    unfold up
    by_cases h : p = (n : Int)
    · have ih2 := adP_at (τ := τ) (f := f) (p := (n : Int)) (by omega) n
      rw [if_neg (by omega)] at ih2
      rw [if_pos h, ih2, if_pos (by omega), h]
    · rw [if_neg h, ih]
      by_cases h2 : p < (n : Int)
      · rw [if_pos h2, if_pos (by omega)]
      · rw [if_neg h2, if_neg (by omega)]
def lqN (Λ : Mm) (hl tl : List Int) (κ : Mm) (s : Int → Int) (n : Nat) : Int → Int := fd (fun g f => if gsB Λ (tnB Λ hl tl κ s) (g : Int) = 0 then f else adP (lkT Λ hl tl s ((g : Int) / 10) ((g : Int) % 10)) f (Λ 0 1).toNat) (fun _ => 0) n
theorem lg_s {Λ κ : Mm} {hl tl : List Int} {s : Int → Int} {n : Nat} : lqN Λ hl tl κ s (n + 1) = if gsB Λ (tnB Λ hl tl κ s) (n : Int) = 0 then lqN Λ hl tl κ s n else adP (lkT Λ hl tl s ((n : Int) / 10) ((n : Int) % 10)) (lqN Λ hl tl κ s n) (Λ 0 1).toNat := rfl
theorem lg_blk {Λ κ : Mm} {hl tl : List Int} {s : Int → Int} {c : Nat} (hr : 0 ≤ Λ 3 (c : Int)) (h0 : lqN Λ hl tl κ s (10 * c) = lkN Λ hl tl κ s c) : ∀ k : Nat, k ≤ 10 → lqN Λ hl tl κ s (10 * c + k) = lkR Λ hl tl κ s (c : Int) (lkN Λ hl tl κ s c) (min k (Λ 3 (c : Int)).toNat)
  | 0, _ => by rw [Nat.zero_min]; exact h0
  | k + 1, h => by
    have ih := lg_blk hr h0 k (by omega)
    have d1 : ((10 * c + k : Nat) : Int) / 10 = (c : Int) := by omega
    have d2 : ((10 * c + k : Nat) : Int) % 10 = (k : Int) := by omega
    have d3 : gsB Λ (tnB Λ hl tl κ s) ((10 * c + k : Nat) : Int) = if (k : Int) < Λ 3 (c : Int) then tnB Λ hl tl κ s (c : Int) (k : Int) else 0 := by unfold gsB; rw [d1, d2]
    rw [show 10 * c + (k + 1) = 10 * c + k + 1 from rfl, lg_s, d3, d1, d2]
    by_cases hk : (k : Int) < Λ 3 (c : Int)
    · have m1 : min k (Λ 3 (c : Int)).toNat = k := by omega
      have m2 : min (k + 1) (Λ 3 (c : Int)).toNat = k + 1 := by omega
      rw [m1] at ih
      rw [m2, if_pos hk, ih]
      rfl
    · have m1 : min k (Λ 3 (c : Int)).toNat = (Λ 3 (c : Int)).toNat := by omega
      have m2 : min (k + 1) (Λ 3 (c : Int)).toNat = (Λ 3 (c : Int)).toNat := by omega
      rw [m1] at ih
      rw [m2, if_neg hk, if_pos rfl]
      exact ih
theorem lg_lk {Λ κ : Mm} {hl tl : List Int} {s : Int → Int} (hW : WL Λ) : ∀ c : Nat, c ≤ (Λ 0 0).toNat → lqN Λ hl tl κ s (10 * c) = lkN Λ hl tl κ s c
  | 0, _ => rfl
  | c + 1, h => by
    have h0 := hW.1
    have hc := hW.2.2.1 (c : Int) (by omega) (by omega)
    have ih := lg_lk (κ := κ) (hl := hl) (tl := tl) (s := s) hW c (by omega)
    have k := lg_blk (c := c) hc.2.2.2.2.1 ih 10 (Nat.le_refl _)
    have m1 : min 10 (Λ 3 (c : Int)).toNat = (Λ 3 (c : Int)).toNat := by omega
    rw [m1] at k
    exact k
theorem lg_all {Λ κ : Mm} {hl tl : List Int} {s : Int → Int} (hW : WL Λ) : lqN Λ hl tl κ s (10 * Λ 0 0).toNat = lkN Λ hl tl κ s (Λ 0 0).toNat := by
  have h0 := hW.1
  rw [show (10 * Λ 0 0).toNat = 10 * (Λ 0 0).toNat by omega]
  exact lg_lk hW _ (Nat.le_refl _)
theorem gs_in {Λ : Mm} {B : Int → Int → Int} {g : Int} (h : ¬ gsB Λ B g = 0) : g % 10 < Λ 3 (g / 10) := by
  unfold gsB at h
  split at h
  · assumption
  · exact absurd rfl h
theorem lkT_W {Λ : Mm} {hl tl : List Int} {s : Int → Int} {c r : Int} (hW : WL Λ) (hσ : WS Λ 0 (sig0 s)) (hc : 0 ≤ c ∧ c < Λ 0 0) (hr : 0 ≤ r ∧ r < Λ 3 c) : WS Λ (0 + 9 * (6 : Nat)) (lkT Λ hl tl s c r) := daysP_WS hW (WS_arm hW hσ hc hr) (Int.le_refl 0) 6
theorem lg_rg {Λ κ : Mm} {hl tl : List Int} {s : Int → Int} {p : Int} (hW : WL Λ) (hσ : WS Λ 0 (sig0 s)) (hp : 0 ≤ p ∧ p < Λ 0 1) : ∀ n : Nat, (n : Int) ≤ 10 * Λ 0 0 → 0 ≤ lqN Λ hl tl κ s n p ∧ lqN Λ hl tl κ s n p < 512
  | 0, _ => by show 0 ≤ (0 : Int) ∧ (0 : Int) < 512; decide
  | n + 1, h => by
    have h0 := hW.1
    have ih := lg_rg (κ := κ) (hl := hl) (tl := tl) hW hσ hp n (by omega)
    rw [lg_s]
    by_cases e : gsB Λ (tnB Λ hl tl κ s) (n : Int) = 0
    · rw [if_pos e]; exact ih
    · have h1 := gs_in e
      have h2 := (lkT_W (hl := hl) (tl := tl) (c := (n : Int) / 10) (r := (n : Int) % 10) hW hσ (by omega) (by omega)).2.1 p hp.1 hp.2
      rw [if_neg e, adP_at hp.1, if_pos (by omega)]
      exact bOr_512 ih (by omega)
theorem gf_up {Λ : Mm} {B : Int → Int → Int} (hW : WL Λ) {n : Nat} (hn : (n : Int) < 10 * Λ 0 0) (hk : (n : Int) % 10 < Λ 3 ((n : Int) / 10)) : (gfN Λ B n).1 ≤ 44 := by
  have h0 := hW.1
  have hc := hW.2.2.1 ((n : Int) / 10) (by omega) (by omega)
  have e : n = 10 * (n / 10) + n % 10 := by omega
  have ec : ((n / 10 : Nat) : Int) = (n : Int) / 10 := by omega
  have k := gf_blk (B := B) (c := n / 10) (by rw [ec]; omega) (gf_cf hW (n / 10) (by omega)) (n % 10) (by omega)
  rw [← e] at k
  have k1 := cfR_up (B := B) (c := ((n / 10 : Nat) : Int)) (k := 5 * ((n / 10 : Nat) : Int)) (cfN_up (B := B) hW (n / 10) (by omega)) (by omega) (min (n % 10) (Λ 3 ((n / 10 : Nat) : Int)).toNat) (by rw [ec]; omega)
  rw [k]
  have m1 : min (n % 10) (Λ 3 ((n / 10 : Nat) : Int)).toNat ≤ 4 := by rw [ec]; omega
  omega
theorem bm_512 {v : Int} (h : 0 ≤ v ∧ v < 512) : bitsM v = bcJ v ∧ 0 ≤ bcJ v ∧ bcJ v ≤ 9 := by
  have h1 := bitsM_bc v.toNat (by omega)
  have h2 := bcJ_9 v.toNat (by omega)
  rw [show ((v.toNat : Nat) : Int) = v by omega] at h1 h2
  exact ⟨h1, h2⟩
/-- the memory when looking: as mK, the object whole -/
def FK (m m9 : Mm) : Prop := mK m m9 ∧ m9 84 = m 84
theorem FK.rf {m : Mm} : FK m m := ⟨mK.rf, rfl⟩
theorem FK.tr {a b c : Mm} (h : FK a b) (k : FK b c) : FK a c := ⟨h.1.tr k.1, k.2.trans h.2⟩
theorem FK.fs {a b : Mm} (h : FS a b) : FK a b := ⟨h.k, h.1 84 (by decide)⟩
theorem FK.w {a b : Mm} {k v : Int} (h : FK a b) : FK a (wr b 118 k v) := ⟨h.1.wr (by decide) (fun h9 => absurd h9 (by decide)) (fun h9 => absurd h9 (by decide)), (wr_ne (by decide)).trans h.2⟩
theorem mp_look {l : Launch} {γ : Gh} {ρ m : Mm} {w : Int} (hw : -2147483648 ≤ w ∧ w < 2147483648) {κ : Mm} {s : Int → Int} {Λ : Mm} {hl tl : List Int} (hL : LY ρ) (hR : MR m) (hW : WL Λ) (hM : MLand m Λ hl tl) (hs : MRow m s) (hσ : WS Λ 0 (sig0 s)) (hz : m 84 51 = 0) (hK : MSeen m κ) (hκ : WK Λ κ) : gE l γ μX11_look 7 0 0 (rI KK fun x ρ9 m9 => ρ = ρ9 ∧ MR m9 ∧ mK m m9 ∧ m9 84 0 = cdW w 1 ∧ (cdW w 1 = 0 → (if w = 0 then (bzN (fun p => bcJ (lkN Λ hl tl κ s (Λ 0 0).toNat p)) (Λ 0 1).toNat).1 else (bzN (fun p => bcJ (lkN Λ hl tl κ s (Λ 0 0).toNat p)) (Λ 0 1).toNat).2) = x)) xN KK ρ m [vR 84, vI w] := by
  refine gE.ofw cl_X11.2 ?_ rfl rfl (Nat.le_of_ble_eq_true rfl)
  show gT l γ μX11_look 7 0 0 _ _ KK ρ m 0 [some (vR 84), some (vI w), none, none, none, none, none, none] []
  have hn1 := hW.1
  have hn8 := hW.2.1
  refine tz_aload0 (n := 1) (g_at ck_X11_look 0 rfl) rfl (g_ne kd_84) ?_
  refine tz_iconst (n := 2) (g_at ck_X11_look 1 rfl) rfl ?_
  refine tz_putIr (n := 5) (kz := 0) fk_X11_132 kd_84 (g_at ck_X11_look 2 rfl) rfl hR ⟨(by decide), (by decide)⟩ rfl (fun hR1 => ?_)
  obtain ⟨m0, e0⟩ : ∃ m0, m0 = wr m 84 0 0 := ⟨_, rfl⟩
  rw [← e0] at hR1 ⊢
  have hk0 : mK m m0 := by rw [e0]; exact mK.w0
  have hM0 := hk0.land hM
  have hs0 := hk0.row hs
  have hz0 : m0 84 51 = 0 := hk0.w51.trans hz
  have h00 : m0 84 0 = 0 := by rw [e0, wr_same]
  have hw0 := hw_0 hz0
  refine tz_aload0 (n := 6) (g_at ck_X11_look 3 rfl) rfl (g_ne kd_84) ?_
  refine tz_iload1 (n := 7) (g_at ck_X11_look 4 rfl) rfl ?_
  refine tz_iconst (n := 8) (g_at ck_X11_look 5 rfl) rfl ?_
  refine tz_cvI2 (n := 11) (μ' := μX11_isWhat) (cb' := 0) (sb' := 0) ml_X11_396 mo_X11_isWhat mv_X11_isWhat np_X11_isWhat kd_84 (g_at ck_X11_look 6 rfl) (mp_isWhat hw (by decide) hL hR1 h00) rfl rfl rfl ⟨by decide, by decide⟩ (Nat.le_of_ble_eq_true rfl) (by decide) (by decide) (fun x8 ρ9 m8 hq => ?_)
  obtain ⟨rfl, hR2, hq8⟩ := hq
  refine tz_if_ne (n := 14) (tgt := 16) (g_at ck_X11_look 7 rfl) rfl rfl (by rcases hq8.b01 with h9 | h9 <;> omega) (fun h11 => ?_) (fun h11 => ?_)
  · skip
    obtain ⟨hc0, rfl⟩ := hq8.ok h11
    have hi0 := cdW_i hc0
    have hK0 := hK.k hk0
    refine tz_iconst (n := 17) (g_at ck_X11_look 10 rfl) rfl ?_
    refine tz_istore2 (n := 18) (g_at ck_X11_look 11 rfl) rfl (by decide) g_hpI ?_
    refine tz_iconst (n := 19) (g_at ck_X11_look 12 rfl) rfl ?_
    refine tz_istore3 (n := 20) (g_at ck_X11_look 13 rfl) rfl (by decide) g_hpI ?_
    refine g_for (fun i : Nat => ∀ m1 : Mm, (MR m1 ∧ FK m0 m1 ∧ ∀ p, 0 ≤ p → p < Λ 0 1 → msk (m1 118) p (gfN Λ (tnB Λ hl tl κ s) i).1.toNat = (lqN Λ hl tl κ s i) p) → gT l γ μX11_look 7 0 0 _ _ KK ρ m1 20 [some (vR 84), some (vI w), some (vI (gfN Λ (tnB Λ hl tl κ s) i).1), some (vI (i : Int)), none, none, none, none] []) (10 * Λ 0 0).toNat ?_ (fun i hi ihi => ?_) 0 (Nat.zero_le _) _ ⟨hR2, FK.rf, fun _ _ _ => rfl⟩
    · intro m1 hinv
      obtain ⟨hRi, hFi, hmk⟩ := hinv
      have hN := (hFi.1.land hM0).1
      have hNp := hM0.2.1
      have hFd := hFi
      have lall := lg_all (κ := κ) (hl := hl) (tl := tl) (s := s) hW
      have hgd := gf_inv (Λ := Λ) (B := (tnB Λ hl tl κ s)) (10 * Λ 0 0).toNat (by omega)
      have hmd := hmk
      rw [lall] at hmd
      have hg45 := cfN_up (B := (tnB Λ hl tl κ s)) hW (Λ 0 0).toNat (Nat.le_refl _)
      rw [← gf_all hW] at hg45
      refine tz_iload3 (n := 21) (g_at ck_X11_look 14 rfl) rfl ?_
      refine tz_bipush (n := 23) (g_at ck_X11_look 15 rfl) rfl rfl ?_
      refine tz_aload0 (n := 24) (g_at ck_X11_look 16 rfl) rfl (g_ne kd_84) ?_
      refine tz_getIw (n := 27) (kz := 1) fk_X11_302 kd_84 (g_at ck_X11_look 17 rfl) rfl rfl ?_
      refine tz_imul (n := 28) (g_at ck_X11_look 18 rfl) rfl ?_
      rw [hN]
      refine tz_icmp_ge (n := 31) (tgt := 88) (g_at ck_X11_look 19 rfl) rfl rfl (by omega) (fun h28 => ?_) (fun h28 => absurd h28 (by omega))
      refine tz_iconst (n := 89) (g_at ck_X11_look 48 rfl) rfl ?_
      refine tz_istore3 (n := 90) (g_at ck_X11_look 49 rfl) rfl (by decide) g_hpI ?_
      refine tz_iconst (n := 91) (g_at ck_X11_look 50 rfl) rfl ?_
      refine tz_istore4 (n := 93) (g_at ck_X11_look 51 rfl) rfl (by decide) g_hpI ?_
      refine tz_iconst (n := 94) (g_at ck_X11_look 52 rfl) rfl ?_
      refine tz_istore5 (n := 96) (g_at ck_X11_look 53 rfl) rfl (by decide) g_hpI ?_
      refine g_for (fun j : Nat => gT l γ μX11_look 7 0 0 _ _ KK ρ m1 96 [some (vR 84), some (vI w), some (vI (gfN Λ (tnB Λ hl tl κ s) (10 * Λ 0 0).toNat).1), some (vI (bzN (fun p => bcJ (lkN Λ hl tl κ s (Λ 0 0).toNat p)) j).1), some (vI (bzN (fun p => bcJ (lkN Λ hl tl κ s (Λ 0 0).toNat p)) j).2), some (vI (j : Int)), none, none] []) (Λ 0 1).toNat ?_ (fun j hj ihj => ?_) 0 (Nat.zero_le _)
      · skip
        refine tz_iload5 (n := 98) (g_at ck_X11_look 54 rfl) rfl ?_
        refine tz_aload0 (n := 99) (g_at ck_X11_look 55 rfl) rfl (g_ne kd_84) ?_
        refine tz_getIw (n := 102) (kz := 2) fk_X11_305 kd_84 (g_at ck_X11_look 56 rfl) rfl rfl ?_
        rw [hFd.2, hNp]
        refine tz_icmp_ge (n := 105) (tgt := 172) (g_at ck_X11_look 57 rfl) rfl rfl (by omega) (fun h102 => ?_) (fun h102 => absurd h102 (by omega))
        refine tz_iload1 (n := 173) (g_at ck_X11_look 92 rfl) rfl ?_
        refine tz_if_ne (n := 176) (tgt := 180) (g_at ck_X11_look 93 rfl) rfl rfl hw (fun h173 => ?_) (fun h173 => ?_)
        · skip
          refine tz_iload4 (n := 182) (g_at ck_X11_look 96 rfl) rfl ?_
          exact tz_iret (g_at ck_X11_look 97 rfl) rfl (rI_mk ⟨rfl, hRi, hk0.tr hFd.1, by rw [hFd.2, h00, hc0], fun _ => if_neg h173⟩)
        · skip
          refine tz_iload3 (n := 177) (g_at ck_X11_look 94 rfl) rfl ?_
          refine tz_goto (tgt := 182) (g_at ck_X11_look 95 rfl) rfl ?_
          exact tz_iret (g_at ck_X11_look 97 rfl) rfl (rI_mk ⟨rfl, hRi, hk0.tr hFd.1, by rw [hFd.2, h00, hc0], fun _ => if_pos h173⟩)
      · skip
        have hlr := lg_rg (κ := κ) (hl := hl) (tl := tl) hW hσ (p := (j : Int)) (by omega) (10 * Λ 0 0).toNat (by omega)
        rw [lall] at hlr
        have hbm := bm_512 hlr
        have hml := hmd (j : Int) (by omega) (by omega)
        have hbr := bzN_r32 (f := (fun p => bcJ (lkN Λ hl tl κ s (Λ 0 0).toNat p))) (fun c => bcJ_rg _) j
        have hle9 : (fun p => bcJ (lkN Λ hl tl κ s (Λ 0 0).toNat p)) (j : Int) ≤ (bzN (fun p => bcJ (lkN Λ hl tl κ s (Λ 0 0).toNat p)) j).2 → (fun p => bcJ (lkN Λ hl tl κ s (Λ 0 0).toNat p)) (j : Int) ≤ (bzN (fun p => bcJ (lkN Λ hl tl κ s (Λ 0 0).toNat p)) j).2 := id
        have hlt9 : ¬ (fun p => bcJ (lkN Λ hl tl κ s (Λ 0 0).toNat p)) (j : Int) ≤ (bzN (fun p => bcJ (lkN Λ hl tl κ s (Λ 0 0).toNat p)) j).2 → ¬ (fun p => bcJ (lkN Λ hl tl κ s (Λ 0 0).toNat p)) (j : Int) ≤ (bzN (fun p => bcJ (lkN Λ hl tl κ s (Λ 0 0).toNat p)) j).2 := id
        refine tz_iload5 (n := 98) (g_at ck_X11_look 54 rfl) rfl ?_
        refine tz_aload0 (n := 99) (g_at ck_X11_look 55 rfl) rfl (g_ne kd_84) ?_
        refine tz_getIw (n := 102) (kz := 2) fk_X11_305 kd_84 (g_at ck_X11_look 56 rfl) rfl rfl ?_
        rw [hFd.2, hNp]
        refine tz_icmp_ge (n := 105) (tgt := 172) (g_at ck_X11_look 57 rfl) rfl rfl (by omega) (fun h102 => absurd h102 (by omega)) (fun h102 => ?_)
        refine tz_iconst (n := 106) (g_at ck_X11_look 58 rfl) rfl ?_
        refine tz_istore6 (n := 108) (g_at ck_X11_look 59 rfl) rfl (by decide) g_hpI ?_
        refine tz_iconst (n := 109) (g_at ck_X11_look 60 rfl) rfl ?_
        refine tz_istore7 (n := 111) (g_at ck_X11_look 61 rfl) rfl (by decide) g_hpI ?_
        refine g_for (fun k : Nat => gT l γ μX11_look 7 0 0 _ _ KK ρ m1 111 [some (vR 84), some (vI w), some (vI (gfN Λ (tnB Λ hl tl κ s) (10 * Λ 0 0).toNat).1), some (vI (bzN (fun p => bcJ (lkN Λ hl tl κ s (Λ 0 0).toNat p)) j).1), some (vI (bzN (fun p => bcJ (lkN Λ hl tl κ s (Λ 0 0).toNat p)) j).2), some (vI (j : Int)), some (vI (msk (m1 118) (j : Int) k)), some (vI (k : Int))] []) (gfN Λ (tnB Λ hl tl κ s) (10 * Λ 0 0).toNat).1.toNat ?_ (fun k hk ihk => ?_) 0 (Nat.zero_le _)
        · skip
          refine tz_iload7 (n := 113) (g_at ck_X11_look 62 rfl) rfl ?_
          refine tz_iload2 (n := 114) (g_at ck_X11_look 63 rfl) rfl ?_
          skip
          refine tz_icmp_ge (n := 117) (tgt := 143) (g_at ck_X11_look 64 rfl) rfl rfl (by omega) (fun h114 => ?_) (fun h114 => absurd h114 (by omega))
          refine tz_iload6 (n := 145) (g_at ck_X11_look 80 rfl) rfl ?_
          refine tz_csI1 (n := 148) (μ' := μX11_bits) (cb' := 0) (sb' := 0) ml_X11_329 mo_X11_bits ms_X11_bits np_X11_bits (g_at ck_X11_look 81 rfl) (mp_bits hRi) rfl rfl ⟨by decide, by decide⟩ (Nat.le_of_ble_eq_true rfl) (by decide) (by decide) (fun x145 ρ9 m145 hq => ?_)
          obtain ⟨rfl, hR3, rfl, rfl⟩ := hq
          rw [hml, hbm.1]
          refine tz_iload4 (n := 150) (g_at ck_X11_look 82 rfl) rfl ?_
          refine tz_icmp_gt (n := 153) (tgt := 156) (g_at ck_X11_look 83 rfl) rfl rfl (by omega) (fun h150 => ?_) (fun h150 => ?_)
          · skip
            refine tz_iload5 (n := 158) (g_at ck_X11_look 85 rfl) rfl ?_
            refine tz_istore3 (n := 159) (g_at ck_X11_look 86 rfl) rfl (by decide) g_hpI ?_
            refine tz_iload6 (n := 161) (g_at ck_X11_look 87 rfl) rfl ?_
            refine tz_csI1 (n := 164) (μ' := μX11_bits) (cb' := 0) (sb' := 0) ml_X11_329 mo_X11_bits ms_X11_bits np_X11_bits (g_at ck_X11_look 88 rfl) (mp_bits hR3) rfl rfl ⟨by decide, by decide⟩ (Nat.le_of_ble_eq_true rfl) (by decide) (by decide) (fun x161 ρ9 m161 hq => ?_)
            obtain ⟨rfl, hR4, rfl, rfl⟩ := hq
            rw [hbm.1]
            refine tz_istore4 (n := 166) (g_at ck_X11_look 89 rfl) rfl (by decide) g_hpI ?_
            refine tz_iinc5 (n := 169) (g_at ck_X11_look 90 rfl) rfl (by decide) g_hpI ?_
            refine tz_goto (tgt := 96) (g_at ck_X11_look 91 rfl) rfl ?_
            refine tz_drop6 ?_
            refine tz_drop7 ?_
            have e9 : (bzN (fun p => bcJ (lkN Λ hl tl κ s (Λ 0 0).toNat p)) (j + 1)) = ((j : Int), (fun p => bcJ (lkN Λ hl tl κ s (Λ 0 0).toNat p)) (j : Int)) := if_neg (hlt9 (by show ¬ bcJ _ ≤ _; omega))
            rw [e9] at ihj
            exact ihj
          · skip
            refine tz_goto (tgt := 166) (g_at ck_X11_look 84 rfl) rfl ?_
            refine tz_iinc5 (n := 169) (g_at ck_X11_look 90 rfl) rfl (by decide) g_hpI ?_
            refine tz_goto (tgt := 96) (g_at ck_X11_look 91 rfl) rfl ?_
            refine tz_drop6 ?_
            refine tz_drop7 ?_
            have e9 : (bzN (fun p => bcJ (lkN Λ hl tl κ s (Λ 0 0).toNat p)) (j + 1)) = (bzN (fun p => bcJ (lkN Λ hl tl κ s (Λ 0 0).toNat p)) j) := if_pos (hle9 (by show bcJ _ ≤ _; omega))
            rw [e9] at ihj
            exact ihj
        · skip
          refine tz_iload7 (n := 113) (g_at ck_X11_look 62 rfl) rfl ?_
          refine tz_iload2 (n := 114) (g_at ck_X11_look 63 rfl) rfl ?_
          skip
          refine tz_icmp_ge (n := 117) (tgt := 143) (g_at ck_X11_look 64 rfl) rfl rfl (by omega) (fun h114 => absurd h114 (by omega)) (fun h114 => ?_)
          refine tz_iload6 (n := 119) (g_at ck_X11_look 65 rfl) rfl ?_
          refine tz_iconst (n := 120) (g_at ck_X11_look 66 rfl) rfl ?_
          refine tz_aload0 (n := 121) (g_at ck_X11_look 67 rfl) rfl (g_ne kd_84) ?_
          refine tz_getAv (n := 124) (a := 118) fk_X11_120 kd_84 (ly_84_61 hL) (g_at ck_X11_look 68 rfl) rfl ?_
          refine tz_bipush (n := 126) (g_at ck_X11_look 69 rfl) rfl rfl ?_
          refine tz_iload7 (n := 128) (g_at ck_X11_look 70 rfl) rfl ?_
          refine tz_imul (n := 129) (g_at ck_X11_look 71 rfl) rfl ?_
          refine tz_iload5 (n := 131) (g_at ck_X11_look 72 rfl) rfl ?_
          refine tz_iadd (n := 132) (g_at ck_X11_look 73 rfl) rfl ?_
          refine tz_iald (n := 133) kd_118 (by omega) (g_at ck_X11_look 74 rfl) rfl ?_
          refine tz_ishl (n := 134) (g_at ck_X11_look 75 rfl) rfl ?_
          refine tz_ior (n := 135) (g_at ck_X11_look 76 rfl) rfl ?_
          refine tz_istore6 (n := 137) (g_at ck_X11_look 77 rfl) rfl (by decide) g_hpI ?_
          refine tz_iinc7 (n := 140) (g_at ck_X11_look 78 rfl) rfl (by decide) g_hpI ?_
          refine tz_goto (tgt := 111) (g_at ck_X11_look 79 rfl) rfl ?_
          exact ihk
    · intro m1 hinv
      obtain ⟨hRi, hFi, hmk⟩ := hinv
      have hN := (hFi.1.land hM0).1
      have hgi := gf_inv (Λ := Λ) (B := (tnB Λ hl tl κ s)) i (by omega)
      refine tz_iload3 (n := 21) (g_at ck_X11_look 14 rfl) rfl ?_
      refine tz_bipush (n := 23) (g_at ck_X11_look 15 rfl) rfl rfl ?_
      refine tz_aload0 (n := 24) (g_at ck_X11_look 16 rfl) rfl (g_ne kd_84) ?_
      refine tz_getIw (n := 27) (kz := 1) fk_X11_302 kd_84 (g_at ck_X11_look 17 rfl) rfl rfl ?_
      refine tz_imul (n := 28) (g_at ck_X11_look 18 rfl) rfl ?_
      rw [hN]
      refine tz_icmp_ge (n := 31) (tgt := 88) (g_at ck_X11_look 19 rfl) rfl rfl (by omega) (fun h28 => absurd h28 (by omega)) (fun h28 => ?_)
      refine tz_aload0 (n := 32) (g_at ck_X11_look 20 rfl) rfl (g_ne kd_84) ?_
      refine tz_iload3 (n := 33) (g_at ck_X11_look 21 rfl) rfl ?_
      refine tz_cvI1 (n := 36) (μ' := μX11_isGuess) (cb' := 0) (sb' := 0) ml_X11_468 mo_X11_isGuess mv_X11_isGuess np_X11_isGuess kd_84 (g_at ck_X11_look 22 rfl) (mp_isGuess hL hRi hW (hFi.1.land hM0) (hFi.1.row hs0) hσ (by rw [hFi.2]; exact hz0) (hK0.k hFi.1) hκ (by omega)) rfl rfl rfl ⟨by decide, by decide⟩ (Nat.le_of_ble_eq_true rfl) (by decide) (by decide) (fun x33 ρ9 m33 hq => ?_)
      obtain ⟨rfl, hR5, hS33, hx33, hs33⟩ := hq
      have t01 : x33 = 0 ∨ x33 = 1 := by rw [← hx33]; unfold gsB; split; exact tnB_01; exact Or.inl rfl
      refine tz_if_ne (n := 39) (tgt := 42) (g_at ck_X11_look 23 rfl) rfl rfl (by omega) (fun h36 => ?_) (fun h36 => ?_)
      · skip
        have hgs : ¬ gsB Λ (tnB Λ hl tl κ s) (i : Int) = 0 := fun h9 => h36 (by rw [← hx33]; exact h9)
        have hgn := gs_in hgs
        have hgu := gf_up (B := (tnB Λ hl tl κ s)) hW (n := i) (by omega) hgn
        have e7 : lqN Λ hl tl κ s (i + 1) = adP (lkT Λ hl tl s ((i : Int) / 10) ((i : Int) % 10)) (lqN Λ hl tl κ s i) (Λ 0 1).toNat := if_neg hgs
        have e8 : (gfN Λ (tnB Λ hl tl κ s) (i + 1)).1 = (gfN Λ (tnB Λ hl tl κ s) i).1 + 1 := by rw [gf_s, if_neg hgs]
        have hsn := hs33 h36
        have e84c : m33 84 = m0 84 := (hS33.1 84 (by decide)).trans hFi.2
        have hNp := hM0.2.1
        refine tz_iconst (n := 43) (g_at ck_X11_look 25 rfl) rfl ?_
        refine tz_istore4 (n := 45) (g_at ck_X11_look 26 rfl) rfl (by decide) g_hpI ?_
        refine g_for (fun j : Nat => ∀ m2 : Mm, (MR m2 ∧ FK m0 m2 ∧ m2 117 = m33 117 ∧ (∀ k, k < 8 * (gfN Λ (tnB Λ hl tl κ s) i).1 → m2 118 k = m1 118 k) ∧ ∀ p, 0 ≤ p → p < (j : Int) → m2 118 (8 * (gfN Λ (tnB Λ hl tl κ s) i).1 + p) = lkT Λ hl tl s ((i : Int) / 10) ((i : Int) % 10) 0 (1 + p)) → gT l γ μX11_look 7 0 0 _ _ KK ρ m2 45 [some (vR 84), some (vI w), some (vI (gfN Λ (tnB Λ hl tl κ s) i).1), some (vI (i : Int)), some (vI (j : Int)), none, none, none] []) (Λ 0 1).toNat ?_ (fun j hj ihj => ?_) 0 (Nat.zero_le _) _ ⟨hR5, hFi.tr (FK.fs hS33), rfl, fun k _ => by rw [hS33.1 118 (by decide)], fun p g1 g2 => absurd g2 (by omega)⟩
        · intro m2 hinv
          obtain ⟨hR2, hF2, h117, hol, hnw⟩ := hinv
          refine tz_iload4 (n := 47) (g_at ck_X11_look 27 rfl) rfl ?_
          refine tz_aload0 (n := 48) (g_at ck_X11_look 28 rfl) rfl (g_ne kd_84) ?_
          refine tz_getIw (n := 51) (kz := 2) fk_X11_305 kd_84 (g_at ck_X11_look 29 rfl) rfl rfl ?_
          rw [hF2.2, hNp]
          refine tz_icmp_ge (n := 54) (tgt := 79) (g_at ck_X11_look 30 rfl) rfl rfl (by omega) (fun h51 => ?_) (fun h51 => absurd h51 (by omega))
          refine tz_iinc2 (n := 82) (g_at ck_X11_look 45 rfl) rfl (by decide) g_hpI ?_
          refine tz_iinc3 (n := 85) (g_at ck_X11_look 46 rfl) rfl (by decide) g_hpI ?_
          refine tz_goto (tgt := 20) (g_at ck_X11_look 47 rfl) rfl ?_
          refine tz_drop4 ?_
          refine gT_eq (ihi _ ⟨hR2, hF2, fun p g1 g2 => ?_⟩) rfl (by rw [e8]; rfl)
          rw [e8, e7, show ((gfN Λ (tnB Λ hl tl κ s) i).1 + 1).toNat = (gfN Λ (tnB Λ hl tl κ s) i).1.toNat + 1 by omega, msk_s, adP_at g1, if_pos (by omega), ← hmk p g1 g2]
          have e6 := hnw p g1 (by omega)
          rw [show 8 * (((gfN Λ (tnB Λ hl tl κ s) i).1.toNat : Nat) : Int) + p = 8 * (gfN Λ (tnB Λ hl tl κ s) i).1 + p by omega, e6]
          exact congrArg (fun z9 => bOr z9 _) (msk_e fun k hk => hol _ (by omega))
        · intro m2 hinv
          obtain ⟨hR2, hF2, h117, hol, hnw⟩ := hinv
          have hwt := (lkT_W (hl := hl) (tl := tl) (c := (i : Int) / 10) (r := (i : Int) % 10) hW hσ (by omega) (by omega)).2.1 (j : Int) (by omega) (by omega)
          refine tz_iload4 (n := 47) (g_at ck_X11_look 27 rfl) rfl ?_
          refine tz_aload0 (n := 48) (g_at ck_X11_look 28 rfl) rfl (g_ne kd_84) ?_
          refine tz_getIw (n := 51) (kz := 2) fk_X11_305 kd_84 (g_at ck_X11_look 29 rfl) rfl rfl ?_
          rw [hF2.2, hNp]
          refine tz_icmp_ge (n := 54) (tgt := 79) (g_at ck_X11_look 30 rfl) rfl rfl (by omega) (fun h51 => absurd h51 (by omega)) (fun h51 => ?_)
          refine tz_aload0 (n := 55) (g_at ck_X11_look 31 rfl) rfl (g_ne kd_84) ?_
          refine tz_getAv (n := 58) (a := 118) fk_X11_120 kd_84 (ly_84_61 hL) (g_at ck_X11_look 32 rfl) rfl ?_
          refine tz_bipush (n := 60) (g_at ck_X11_look 33 rfl) rfl rfl ?_
          refine tz_iload2 (n := 61) (g_at ck_X11_look 34 rfl) rfl ?_
          refine tz_imul (n := 62) (g_at ck_X11_look 35 rfl) rfl ?_
          refine tz_iload4 (n := 64) (g_at ck_X11_look 36 rfl) rfl ?_
          refine tz_iadd (n := 65) (g_at ck_X11_look 37 rfl) rfl ?_
          refine tz_aload0 (n := 66) (g_at ck_X11_look 38 rfl) rfl (g_ne kd_84) ?_
          refine tz_getAv (n := 69) (a := 117) fk_X11_117 kd_84 (ly_84_60 hL) (g_at ck_X11_look 39 rfl) rfl ?_
          refine tz_iload4 (n := 71) (g_at ck_X11_look 40 rfl) rfl ?_
          refine tz_iald (n := 72) kd_117 (by omega) (g_at ck_X11_look 41 rfl) rfl ?_
          rw [h117, hsn _ (by omega) (by omega)]
          refine tz_iastr (n := 73) kd_118 (by omega) (g_at ck_X11_look 42 rfl) rfl hR2 (by omega) (fun hR6 => ?_)
          refine tz_iinc4 (n := 76) (g_at ck_X11_look 43 rfl) rfl (by decide) g_hpI ?_
          refine tz_goto (tgt := 45) (g_at ck_X11_look 44 rfl) rfl ?_
          refine ihj _ ⟨hR6, hF2.w, (wr_ne (by decide)).trans h117, fun k g1 => ?_, fun p g1 g2 => ?_⟩
          · rw [wr_at, if_neg (by omega)]; exact hol k g1
          · rw [wr_at]
            split
            · rename_i e9; rw [show p = (j : Int) by omega]
            · exact hnw p g1 (by omega)
      · skip
        refine tz_goto (tgt := 82) (g_at ck_X11_look 24 rfl) rfl ?_
        refine tz_iinc3 (n := 85) (g_at ck_X11_look 46 rfl) rfl (by decide) g_hpI ?_
        refine tz_goto (tgt := 20) (g_at ck_X11_look 47 rfl) rfl ?_
        have e8 : gfN Λ (tnB Λ hl tl κ s) (i + 1) = (gfN Λ (tnB Λ hl tl κ s) i) := if_pos (by rw [hx33]; exact h36)
        have e7 : lqN Λ hl tl κ s (i + 1) = (lqN Λ hl tl κ s i) := if_pos (by rw [hx33]; exact h36)
        rw [e8, e7] at ihi
        exact ihi _ ⟨hR5, hFi.tr (FK.fs hS33), fun p g1 g2 => by rw [hS33.1 118 (by decide)]; exact hmk p g1 g2⟩
  · skip
    refine tz_iconst (n := 15) (g_at ck_X11_look 8 rfl) rfl ?_
    exact tz_iret (g_at ck_X11_look 9 rfl) rfl (rI_mk ⟨rfl, hR2, by rw [(hq8.no h11).2]; exact hk0.tr mK.w0, by rw [(hq8.no h11).2, wr_same], fun h9 => absurd h9 (by rw [show (0:Int) = 0 from rfl]; exact (hq8.no h11).1)⟩)
