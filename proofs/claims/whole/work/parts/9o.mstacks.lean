/-! The machine in the reference: its two stacks. -/
def CdC (m : Mm) (b : Int) (W : List Int) : Prop := m 84 28 = b + (W.length : Int) ∧ ∀ i : Nat, (h : i < W.length) → m 99 (b + (i : Int)) = W[i]
def stk (m : Mm) : List Int → Prop
  | [] => True
  | x :: S => m 100 (S.length : Int) = x ∧ stk m S
def StC (m : Mm) (S : List Int) : Prop := m 84 31 = (S.length : Int) ∧ stk m S
theorem stk.c {m m9 : Mm} (e : m9 100 = m 100) : ∀ {S : List Int}, stk m S → stk m9 S
  | [], _ => trivial
  | _ :: _, h => ⟨by rw [e]; exact h.1, stk.c e h.2⟩
theorem stk.w {m : Mm} {k v : Int} : ∀ {S : List Int}, stk m S → (S.length : Int) ≤ k → stk (wr m 100 k v) S
  | [], _, _ => trivial
  | _ :: S, h, hk => ⟨by rw [wr_at, if_neg (by simp at hk; omega)]; exact h.1, stk.w h.2 (by simp at hk; omega)⟩
theorem CdC.x {m m9 : Mm} {b : Int} {W : List Int} {L ks : List Int} (h : CdC m b W) (k : FX L ks m m9) (h1 : (28 : Int) ∉ ks) (h2 : (99 : Int) ∉ L) : CdC m9 b W := ⟨(k.2 28 h1).trans h.1, fun i hi => by rw [k.1 99 h2]; exact h.2 i hi⟩
theorem StC.x {m m9 : Mm} {S : List Int} {L ks : List Int} (h : StC m S) (k : FX L ks m m9) (h1 : (31 : Int) ∉ ks) (h2 : (100 : Int) ∉ L) : StC m9 S := ⟨(k.2 31 h1).trans h.1, h.2.c (k.1 100 h2)⟩
theorem CdC.put {m m9 : Mm} {b v : Int} {W : List Int} (h : CdC m b W) (e1 : m9 84 28 = m 84 28 + 1) (e2 : m9 99 = up (m 99) (m 84 28) v) : CdC m9 b (W ++ [v]) := by
  refine ⟨by rw [e1, h.1, List.length_append, List.length_cons, List.length_nil]; omega, fun i hi => ?_⟩
  rw [e2, h.1]
  rw [List.length_append, List.length_cons, List.length_nil] at hi
  by_cases e : i = W.length
  · subst e
    rw [up_at]
    simp
  · rw [up_ne (by omega), List.getElem_append_left (by omega)]
    exact h.2 i (by omega)
def puM (m : Mm) (v : Int) : Mm := wr (wr m 99 (m 84 28) v) 84 28 (m 84 28 + 1)
def wtM (m : Mm) (v : Int) : Mm := wr (wr m 100 (m 84 31) v) 84 31 (m 84 31 + 1)
theorem CdC.pu {m : Mm} {b v : Int} {W : List Int} (h : CdC m b W) : CdC (puM m v) b (W ++ [v]) := h.put (by unfold puM; rw [wr_same]) (by unfold puM; rw [wr_ne (by decide), wr_up])
theorem StC.pu {m : Mm} {v : Int} {S : List Int} (h : StC m S) : StC (puM m v) S := h.x (L := [84, 99]) (ks := [28]) ((FX.rf.w (by decide) (fun h9 => absurd h9 (by decide))).w (by decide) (fun _ => by decide)) (by decide) (by decide)
theorem FX.pu {m : Mm} {v : Int} : FX [84, 99] [28] m (puM m v) := (FX.rf.w (by decide) (fun h9 => absurd h9 (by decide))).w (by decide) (fun _ => by decide)
theorem FX.wt {m : Mm} {v : Int} : FX [84, 100] [31] m (wtM m v) := (FX.rf.w (by decide) (fun h9 => absurd h9 (by decide))).w (by decide) (fun _ => by decide)
theorem CdC.wt {m : Mm} {b v : Int} {W : List Int} (h : CdC m b W) : CdC (wtM m v) b W := h.x FX.wt (by decide) (by decide)
theorem StC.wt {m : Mm} {v : Int} {S : List Int} (h : StC m S) : StC (wtM m v) (v :: S) := by
  unfold wtM
  refine ⟨by rw [wr_same, h.1, List.length_cons]; omega, ?_, ?_⟩
  · rw [wr_ne (by decide), h.1, wr_same]
  · exact stk.c (m := wr m 100 (m 84 31) v) (by rw [wr_ne (by decide)]) (h.2.w (by rw [h.1]; exact Int.le_refl _))
theorem StC.pop {m m9 : Mm} {x : Int} {S : List Int} (h : StC m (x :: S)) (e1 : m9 84 31 = m 84 31 - 1) (e2 : m9 100 = m 100) : StC m9 S := ⟨by rw [e1, h.1, List.length_cons]; omega, h.2.2.c e2⟩
def below (b : Int) (m m9 : Mm) : Prop := ∀ j, j < b → m9 99 j = m 99 j
theorem below.rf {b : Int} {m : Mm} : below b m m := fun _ _ => rfl
theorem below.tr {b : Int} {x y z : Mm} (h : below b x y) (k : below b y z) : below b x z := fun j hj => (k j hj).trans (h j hj)
theorem below.pu {b v : Int} {m : Mm} (h : b ≤ m 84 28) : below b m (puM m v) := fun j hj => by
  unfold puM
  rw [wr_ne (by decide), wr_at, if_neg (by omega)]
theorem below.x {b : Int} {m m9 : Mm} {L ks : List Int} (k : FX L ks m m9) (h2 : (99 : Int) ∉ L) : below b m m9 := fun j _ => by rw [k.1 99 h2]
def opI (a : Int) : Int := if 14 ≤ a then 1 else 0
theorem opI_1 (a : Int) : (opI a = 0 ↔ a < 14) ∧ 0 ≤ opI a ∧ opI a ≤ 1 := by
  unfold opI
  split <;> omega
theorem stg_rg (x : Int) : 1 ≤ stg x ∧ stg x ≤ 6 := by
  unfold stg
  repeat' split
  all_goals omega
def okS3 (S : List Int) : Prop := ∀ x ∈ S, (3 ≤ x ∧ x ≤ 11) ∨ x = 14
theorem okS3.t {x : Int} {S : List Int} (h : okS3 (x :: S)) : okS3 S := fun y hy => h y (List.mem_cons_of_mem _ hy)
theorem dr_ok {v : Int} : ∀ (S W : List Int), okS3 S → okS3 (dr v W S).2
  | [], _, h => h
  | x :: S, W, h => by
    by_cases hx : 14 ≤ x ∨ stg x < v
    · have e : dr v W (x :: S) = (W, x :: S) := if_pos hx
      rw [e]; exact h
    · rw [dr_1 hx]
      exact dr_ok S _ h.t
theorem mp_puts {l : Launch} {γ : Gh} {ρ m : Mm} {v : Int} (hL : LY ρ) (hR : MR m) (ht : 0 ≤ m 84 28 ∧ m 84 28 < 1400) (hv : -2147483648 ≤ v ∧ v < 2147483648) : gE l γ μX11_puts 0 0 0 (rV KK fun ρ9 m9 => ρ = ρ9 ∧ MR m9 ∧ puM m v = m9) xN KK ρ m [vR 84, vI v] := by
  refine gE.ofw cl_X11.2 ?_ rfl rfl (Nat.le_of_ble_eq_true rfl)
  show gT l γ μX11_puts 0 0 0 _ _ KK ρ m 0 [some (vR 84), some (vI v)] []
  refine tz_aload0 (n := 1) (g_at ck_X11_puts 0 rfl) rfl (g_ne kd_84) ?_
  refine tz_getAv (n := 4) (a := 99) fk_X11_62 kd_84 (ly_84_39 hL) (g_at ck_X11_puts 1 rfl) rfl ?_
  refine tz_aload0 (n := 5) (g_at ck_X11_puts 2 rfl) rfl (g_ne kd_84) ?_
  refine tz_getIw (n := 8) (kz := 28) fk_X11_201 kd_84 (g_at ck_X11_puts 3 rfl) rfl rfl ?_
  refine tz_iload1 (n := 9) (g_at ck_X11_puts 4 rfl) rfl ?_
  refine tz_iastr (n := 10) kd_99 (by omega) (g_at ck_X11_puts 5 rfl) rfl hR ⟨hv.1, hv.2⟩ (fun hR1 => ?_)
  refine tz_aload0 (n := 11) (g_at ck_X11_puts 6 rfl) rfl (g_ne kd_84) ?_
  refine tz_dupR (n := 12) (g_at ck_X11_puts 7 rfl) rfl ?_
  refine tz_getIw (n := 15) (kz := 28) fk_X11_201 kd_84 (g_at ck_X11_puts 8 rfl) rfl rfl ?_
  rw [wr_ne (show (84 : Int) ≠ 99 by decide)]
  refine tz_iconst (n := 16) (g_at ck_X11_puts 9 rfl) rfl ?_
  refine tz_iadd (n := 17) (g_at ck_X11_puts 10 rfl) rfl ?_
  refine tz_putIr (n := 20) (kz := 28) fk_X11_201 kd_84 (g_at ck_X11_puts 11 rfl) rfl hR1 ⟨(by omega), (by omega)⟩ rfl (fun hR2 => ?_)
  exact tz_vret (g_at ck_X11_puts 12 rfl) rfl (rV_mk ⟨rfl, hR2, rfl⟩)
theorem mp_waitsFor {l : Launch} {γ : Gh} {ρ m : Mm} {v : Int} (hL : LY ρ) (hR : MR m) (ht : 0 ≤ m 84 31 ∧ m 84 31 < 950) (hv : -2147483648 ≤ v ∧ v < 2147483648) : gE l γ μX11_waitsFor 0 0 0 (rV KK fun ρ9 m9 => ρ = ρ9 ∧ MR m9 ∧ wtM m v = m9) xN KK ρ m [vR 84, vI v] := by
  refine gE.ofw cl_X11.2 ?_ rfl rfl (Nat.le_of_ble_eq_true rfl)
  show gT l γ μX11_waitsFor 0 0 0 _ _ KK ρ m 0 [some (vR 84), some (vI v)] []
  refine tz_aload0 (n := 1) (g_at ck_X11_waitsFor 0 rfl) rfl (g_ne kd_84) ?_
  refine tz_getAv (n := 4) (a := 100) fk_X11_65 kd_84 (ly_84_40 hL) (g_at ck_X11_waitsFor 1 rfl) rfl ?_
  refine tz_aload0 (n := 5) (g_at ck_X11_waitsFor 2 rfl) rfl (g_ne kd_84) ?_
  refine tz_getIw (n := 8) (kz := 31) fk_X11_204 kd_84 (g_at ck_X11_waitsFor 3 rfl) rfl rfl ?_
  refine tz_iload1 (n := 9) (g_at ck_X11_waitsFor 4 rfl) rfl ?_
  refine tz_iastr (n := 10) kd_100 (by omega) (g_at ck_X11_waitsFor 5 rfl) rfl hR ⟨hv.1, hv.2⟩ (fun hR1 => ?_)
  refine tz_aload0 (n := 11) (g_at ck_X11_waitsFor 6 rfl) rfl (g_ne kd_84) ?_
  refine tz_dupR (n := 12) (g_at ck_X11_waitsFor 7 rfl) rfl ?_
  refine tz_getIw (n := 15) (kz := 31) fk_X11_204 kd_84 (g_at ck_X11_waitsFor 8 rfl) rfl rfl ?_
  rw [wr_ne (show (84 : Int) ≠ 100 by decide)]
  refine tz_iconst (n := 16) (g_at ck_X11_waitsFor 9 rfl) rfl ?_
  refine tz_iadd (n := 17) (g_at ck_X11_waitsFor 10 rfl) rfl ?_
  refine tz_putIr (n := 20) (kz := 31) fk_X11_204 kd_84 (g_at ck_X11_waitsFor 11 rfl) rfl hR1 ⟨(by omega), (by omega)⟩ rfl (fun hR2 => ?_)
  exact tz_vret (g_at ck_X11_waitsFor 12 rfl) rfl (rV_mk ⟨rfl, hR2, rfl⟩)
theorem mp_isOpen {l : Launch} {γ : Gh} {ρ m : Mm} {a : Int} (hR : MR m) (ha : 0 ≤ a ∧ a ≤ 14) : gE l γ μX11_isOpen 0 0 0 (rI KK fun x ρ9 m9 => ρ = ρ9 ∧ MR m9 ∧ opI a = x ∧ m = m9) xN KK ρ m [vI a] := by
  refine gE.ofw cl_X11.2 ?_ rfl rfl (Nat.le_of_ble_eq_true rfl)
  show gT l γ μX11_isOpen 0 0 0 _ _ KK ρ m 0 [some (vI a)] []
  refine tz_iload0 (n := 1) (g_at ck_X11_isOpen 0 rfl) rfl ?_
  refine tz_bipush (n := 3) (g_at ck_X11_isOpen 1 rfl) rfl rfl ?_
  refine tz_icmp_lt (n := 6) (tgt := 10) (g_at ck_X11_isOpen 2 rfl) rfl rfl (by omega) (fun h3 => ?_) (fun h3 => ?_)
  · skip
    refine tz_iconst (n := 11) (g_at ck_X11_isOpen 5 rfl) rfl ?_
    exact tz_bret (g_at ck_X11_isOpen 6 rfl) rfl (by decide) (rI_mk ⟨rfl, hR, if_neg (by omega), rfl⟩)
  · skip
    refine tz_iconst (n := 7) (g_at ck_X11_isOpen 3 rfl) rfl ?_
    refine tz_goto (tgt := 11) (g_at ck_X11_isOpen 4 rfl) rfl ?_
    exact tz_bret (g_at ck_X11_isOpen 6 rfl) rfl (by decide) (rI_mk ⟨rfl, hR, if_pos (by omega), rfl⟩)
theorem mp_strength {l : Launch} {γ : Gh} {ρ m : Mm} {a : Int} (hR : MR m) (ha : 0 ≤ a ∧ a ≤ 14) : gE l γ μX11_strength 0 0 0 (rI KK fun x ρ9 m9 => ρ = ρ9 ∧ MR m9 ∧ stg a = x ∧ m = m9) xN KK ρ m [vI a] := by
  refine gE.ofw cl_X11.2 ?_ rfl rfl (Nat.le_of_ble_eq_true rfl)
  show gT l γ μX11_strength 0 0 0 _ _ KK ρ m 0 [some (vI a)] []
  refine tz_iload0 (n := 1) (g_at ck_X11_strength 0 rfl) rfl ?_
  refine tz_iconst (n := 2) (g_at ck_X11_strength 1 rfl) rfl ?_
  refine tz_icmp_ne (n := 5) (tgt := 9) (g_at ck_X11_strength 2 rfl) rfl rfl (by omega) (fun h2 => ?_) (fun h2 => ?_)
  · skip
    refine tz_iload0 (n := 10) (g_at ck_X11_strength 5 rfl) rfl ?_
    refine tz_iconst (n := 11) (g_at ck_X11_strength 6 rfl) rfl ?_
    refine tz_icmp_ne (n := 14) (tgt := 18) (g_at ck_X11_strength 7 rfl) rfl rfl (by omega) (fun h11 => ?_) (fun h11 => ?_)
    · skip
      refine tz_iload0 (n := 19) (g_at ck_X11_strength 10 rfl) rfl ?_
      refine tz_iconst (n := 20) (g_at ck_X11_strength 11 rfl) rfl ?_
      refine tz_icmp_ne (n := 23) (tgt := 27) (g_at ck_X11_strength 12 rfl) rfl rfl (by omega) (fun h20 => ?_) (fun h20 => ?_)
      · skip
        refine tz_iload0 (n := 28) (g_at ck_X11_strength 15 rfl) rfl ?_
        refine tz_bipush (n := 30) (g_at ck_X11_strength 16 rfl) rfl rfl ?_
        refine tz_icmp_eq (n := 33) (tgt := 39) (g_at ck_X11_strength 17 rfl) rfl rfl (by omega) (fun h30 => ?_) (fun h30 => ?_)
        · skip
          refine tz_iconst (n := 40) (g_at ck_X11_strength 21 rfl) rfl ?_
          refine tz_goto (tgt := 61) (g_at ck_X11_strength 22 rfl) rfl ?_
          exact tz_iret (g_at ck_X11_strength 32 rfl) rfl (rI_mk ⟨rfl, hR, (if_neg (by omega)).trans ((if_neg (by omega)).trans ((if_neg (by omega)).trans (if_pos (by omega)))), rfl⟩)
        · skip
          refine tz_iload0 (n := 34) (g_at ck_X11_strength 18 rfl) rfl ?_
          refine tz_bipush (n := 36) (g_at ck_X11_strength 19 rfl) rfl rfl ?_
          refine tz_icmp_ne (n := 39) (tgt := 43) (g_at ck_X11_strength 20 rfl) rfl rfl (by omega) (fun h36 => ?_) (fun h36 => ?_)
          · skip
            refine tz_iload0 (n := 44) (g_at ck_X11_strength 23 rfl) rfl ?_
            refine tz_bipush (n := 46) (g_at ck_X11_strength 24 rfl) rfl rfl ?_
            refine tz_icmp_eq (n := 49) (tgt := 55) (g_at ck_X11_strength 25 rfl) rfl rfl (by omega) (fun h46 => ?_) (fun h46 => ?_)
            · skip
              refine tz_iconst (n := 56) (g_at ck_X11_strength 29 rfl) rfl ?_
              refine tz_goto (tgt := 61) (g_at ck_X11_strength 30 rfl) rfl ?_
              exact tz_iret (g_at ck_X11_strength 32 rfl) rfl (rI_mk ⟨rfl, hR, (if_neg (by omega)).trans ((if_neg (by omega)).trans ((if_neg (by omega)).trans ((if_neg (by omega)).trans (if_pos (by omega))))), rfl⟩)
            · skip
              refine tz_iload0 (n := 50) (g_at ck_X11_strength 26 rfl) rfl ?_
              refine tz_bipush (n := 52) (g_at ck_X11_strength 27 rfl) rfl rfl ?_
              refine tz_icmp_ne (n := 55) (tgt := 59) (g_at ck_X11_strength 28 rfl) rfl rfl (by omega) (fun h52 => ?_) (fun h52 => ?_)
              · skip
                refine tz_bipush (n := 61) (g_at ck_X11_strength 31 rfl) rfl rfl ?_
                exact tz_iret (g_at ck_X11_strength 32 rfl) rfl (rI_mk ⟨rfl, hR, (if_neg (by omega)).trans ((if_neg (by omega)).trans ((if_neg (by omega)).trans ((if_neg (by omega)).trans (if_neg (by omega))))), rfl⟩)
              · skip
                refine tz_iconst (n := 56) (g_at ck_X11_strength 29 rfl) rfl ?_
                refine tz_goto (tgt := 61) (g_at ck_X11_strength 30 rfl) rfl ?_
                exact tz_iret (g_at ck_X11_strength 32 rfl) rfl (rI_mk ⟨rfl, hR, (if_neg (by omega)).trans ((if_neg (by omega)).trans ((if_neg (by omega)).trans ((if_neg (by omega)).trans (if_pos (by omega))))), rfl⟩)
          · skip
            refine tz_iconst (n := 40) (g_at ck_X11_strength 21 rfl) rfl ?_
            refine tz_goto (tgt := 61) (g_at ck_X11_strength 22 rfl) rfl ?_
            exact tz_iret (g_at ck_X11_strength 32 rfl) rfl (rI_mk ⟨rfl, hR, (if_neg (by omega)).trans ((if_neg (by omega)).trans ((if_neg (by omega)).trans (if_pos (by omega)))), rfl⟩)
      · skip
        refine tz_iconst (n := 24) (g_at ck_X11_strength 13 rfl) rfl ?_
        refine tz_goto (tgt := 61) (g_at ck_X11_strength 14 rfl) rfl ?_
        exact tz_iret (g_at ck_X11_strength 32 rfl) rfl (rI_mk ⟨rfl, hR, (if_neg (by omega)).trans ((if_neg (by omega)).trans (if_pos (by omega))), rfl⟩)
    · skip
      refine tz_iconst (n := 15) (g_at ck_X11_strength 8 rfl) rfl ?_
      refine tz_goto (tgt := 61) (g_at ck_X11_strength 9 rfl) rfl ?_
      exact tz_iret (g_at ck_X11_strength 32 rfl) rfl (rI_mk ⟨rfl, hR, (if_neg (by omega)).trans (if_pos (by omega)), rfl⟩)
  · skip
    refine tz_iconst (n := 6) (g_at ck_X11_strength 3 rfl) rfl ?_
    refine tz_goto (tgt := 61) (g_at ck_X11_strength 4 rfl) rfl ?_
    exact tz_iret (g_at ck_X11_strength 32 rfl) rfl (rI_mk ⟨rfl, hR, if_pos (by omega), rfl⟩)
theorem mp_drops {l : Launch} {γ : Gh} {ρ m : Mm} {v b : Int} {W S : List Int} (hL : LY ρ) (hR : MR m) (hC : CdC m b W) (hS : StC m S) (hb : 0 ≤ b ∧ b + (W.length : Int) + (S.length : Int) ≤ 1399) (hs7 : S.length ≤ 900) (ho : okS3 S) (hv : 0 ≤ v ∧ v ≤ 6) : gE l γ μX11_drops 1 0 0 (rV KK fun ρ9 m9 => ρ = ρ9 ∧ MR m9 ∧ FX [84, 99] [28, 31] m m9 ∧ below b m m9 ∧ CdC m9 b (dr v W S).1 ∧ StC m9 (dr v W S).2) xN KK ρ m [vR 84, vI v] := by
  refine gE.ofw cl_X11.2 ?_ rfl rfl (Nat.le_of_ble_eq_true rfl)
  show gT l γ μX11_drops 1 0 0 _ _ KK ρ m 0 [some (vR 84), some (vI v)] []
  refine g_for (fun i : Nat => ∀ m1 : Mm, (MR m1 ∧ FX [84, 99] [28, 31] m m1 ∧ below b m m1 ∧ ∃ W1 S1 : List Int, CdC m1 b W1 ∧ StC m1 S1 ∧ dr v W1 S1 = dr v W S ∧ S1.length + i = S.length ∧ W1.length + S1.length = W.length + S.length ∧ okS3 S1) → gT l γ μX11_drops 1 0 0 _ _ KK ρ m1 0 [some (vR 84), some (vI v)] []) S.length ?_ (fun i hi ihi => ?_) 0 (Nat.zero_le _) _ ⟨hR, FX.rf, below.rf, W, S, hC, hS, rfl, rfl, rfl, ho⟩
  · intro m1 hinv
    obtain ⟨hR1, hX1, hb1, W1, S1, hC1, hS1, hd1, hl1, hl2, ho1⟩ := hinv
    have e0 : S1 = [] := List.eq_nil_of_length_eq_zero (by omega)
    subst e0
    have hw0 : m1 84 31 = 0 := hS1.1
    refine tz_aload0 (n := 1) (g_at ck_X11_drops 0 rfl) rfl (g_ne kd_84) ?_
    refine tz_getIw (n := 4) (kz := 31) fk_X11_204 kd_84 (g_at ck_X11_drops 1 rfl) rfl rfl ?_
    rw [hw0]
    refine tz_if_le (n := 7) (tgt := 68) (g_at ck_X11_drops 2 rfl) rfl rfl (by omega) (fun h4 => ?_) (fun h4 => absurd h4 (by omega))
    exact tz_vret (g_at ck_X11_drops 36 rfl) rfl (rV_mk ⟨rfl, hR1, hX1, hb1, by rw [← hd1, show dr v W1 [] = (W1, []) from rfl]; exact hC1, by rw [← hd1, show dr v W1 [] = (W1, []) from rfl]; exact hS1⟩)
  · intro m1 hinv
    obtain ⟨hR1, hX1, hb1, W1, S1, hC1, hS1, hd1, hl1, hl2, ho1⟩ := hinv
    obtain ⟨x, S2, eS⟩ : ∃ x S2, S1 = x :: S2 := by cases S1 with | nil => exact absurd hl1 (by simp; omega) | cons x S2 => exact ⟨x, S2, rfl⟩
    subst eS
    have hwl : m1 84 31 = (S2.length : Int) + 1 := by rw [hS1.1, List.length_cons]; omega
    have hx1 : m1 100 (S2.length : Int) = x := hS1.2.1
    have hxr := ho1 x List.mem_cons_self
    have hsr := stg_rg x
    have hl3 : S2.length + 1 + i = S.length := by rw [List.length_cons] at hl1; exact hl1
    have hl4 : W1.length + (S2.length + 1) = W.length + S.length := by rw [List.length_cons] at hl2; exact hl2
    have hoi := opI_1 x
    have ht1 := hC1.1
    refine tz_aload0 (n := 1) (g_at ck_X11_drops 0 rfl) rfl (g_ne kd_84) ?_
    refine tz_getIw (n := 4) (kz := 31) fk_X11_204 kd_84 (g_at ck_X11_drops 1 rfl) rfl rfl ?_
    rw [hwl]
    refine tz_if_le (n := 7) (tgt := 68) (g_at ck_X11_drops 2 rfl) rfl rfl (by omega) (fun h4 => absurd h4 (by omega)) (fun h4 => ?_)
    refine tz_aload0 (n := 8) (g_at ck_X11_drops 3 rfl) rfl (g_ne kd_84) ?_
    refine tz_getAv (n := 11) (a := 100) fk_X11_65 kd_84 (ly_84_40 hL) (g_at ck_X11_drops 4 rfl) rfl ?_
    refine tz_aload0 (n := 12) (g_at ck_X11_drops 5 rfl) rfl (g_ne kd_84) ?_
    refine tz_getIw (n := 15) (kz := 31) fk_X11_204 kd_84 (g_at ck_X11_drops 6 rfl) rfl rfl ?_
    rw [hwl]
    refine tz_iconst (n := 16) (g_at ck_X11_drops 7 rfl) rfl ?_
    refine tz_isub (n := 17) (g_at ck_X11_drops 8 rfl) rfl ?_
    rw [show (S2.length : Int) + 1 - 1 = (S2.length : Int) by omega]
    refine tz_iald (n := 18) kd_100 (by omega) (g_at ck_X11_drops 9 rfl) rfl ?_
    rw [hx1]
    refine tz_csI1 (n := 21) (μ' := μX11_isOpen) (cb' := 0) (sb' := 0) ml_X11_207 mo_X11_isOpen ms_X11_isOpen np_X11_isOpen (g_at ck_X11_drops 10 rfl) (mp_isOpen hR1 (by omega)) rfl rfl ⟨by decide, by decide⟩ (Nat.le_of_ble_eq_true rfl) (by decide) (by decide) (fun x18 ρ9 m18 hq => ?_)
    obtain ⟨rfl, hR1, rfl, rfl⟩ := hq
    refine tz_if_ne (n := 24) (tgt := 68) (g_at ck_X11_drops 11 rfl) rfl rfl (by omega) (fun h21 => ?_) (fun h21 => ?_)
    · skip
      exact tz_vret (g_at ck_X11_drops 36 rfl) rfl (rV_mk ⟨rfl, hR1, hX1, hb1, by rw [← hd1, show dr v W1 (x :: S2) = (W1, x :: S2) from if_pos (Or.inl (by omega))]; exact hC1, by rw [← hd1, show dr v W1 (x :: S2) = (W1, x :: S2) from if_pos (Or.inl (by omega))]; exact hS1⟩)
    · skip
      refine tz_aload0 (n := 25) (g_at ck_X11_drops 12 rfl) rfl (g_ne kd_84) ?_
      refine tz_getAv (n := 28) (a := 100) fk_X11_65 kd_84 (ly_84_40 hL) (g_at ck_X11_drops 13 rfl) rfl ?_
      refine tz_aload0 (n := 29) (g_at ck_X11_drops 14 rfl) rfl (g_ne kd_84) ?_
      refine tz_getIw (n := 32) (kz := 31) fk_X11_204 kd_84 (g_at ck_X11_drops 15 rfl) rfl rfl ?_
      rw [hwl]
      refine tz_iconst (n := 33) (g_at ck_X11_drops 16 rfl) rfl ?_
      refine tz_isub (n := 34) (g_at ck_X11_drops 17 rfl) rfl ?_
      rw [show (S2.length : Int) + 1 - 1 = (S2.length : Int) by omega]
      refine tz_iald (n := 35) kd_100 (by omega) (g_at ck_X11_drops 18 rfl) rfl ?_
      rw [hx1]
      refine tz_csI1 (n := 38) (μ' := μX11_strength) (cb' := 0) (sb' := 0) ml_X11_210 mo_X11_strength ms_X11_strength np_X11_strength (g_at ck_X11_drops 19 rfl) (mp_strength hR1 (by omega)) rfl rfl ⟨by decide, by decide⟩ (Nat.le_of_ble_eq_true rfl) (by decide) (by decide) (fun x35 ρ9 m35 hq => ?_)
      obtain ⟨rfl, hR2, rfl, rfl⟩ := hq
      refine tz_iload1 (n := 39) (g_at ck_X11_drops 20 rfl) rfl ?_
      refine tz_icmp_lt (n := 42) (tgt := 68) (g_at ck_X11_drops 21 rfl) rfl rfl (by omega) (fun h39 => ?_) (fun h39 => ?_)
      · skip
        exact tz_vret (g_at ck_X11_drops 36 rfl) rfl (rV_mk ⟨rfl, hR2, hX1, hb1, by rw [← hd1, show dr v W1 (x :: S2) = (W1, x :: S2) from if_pos (Or.inr (by omega))]; exact hC1, by rw [← hd1, show dr v W1 (x :: S2) = (W1, x :: S2) from if_pos (Or.inr (by omega))]; exact hS1⟩)
      · skip
        refine tz_aload0 (n := 43) (g_at ck_X11_drops 22 rfl) rfl (g_ne kd_84) ?_
        refine tz_dupR (n := 44) (g_at ck_X11_drops 23 rfl) rfl ?_
        refine tz_getIw (n := 47) (kz := 31) fk_X11_204 kd_84 (g_at ck_X11_drops 24 rfl) rfl rfl ?_
        rw [hwl]
        refine tz_iconst (n := 48) (g_at ck_X11_drops 25 rfl) rfl ?_
        refine tz_isub (n := 49) (g_at ck_X11_drops 26 rfl) rfl ?_
        rw [show (S2.length : Int) + 1 - 1 = (S2.length : Int) by omega]
        refine tz_putIr (n := 52) (kz := 31) fk_X11_204 kd_84 (g_at ck_X11_drops 27 rfl) rfl hR2 (by omega) rfl (fun hR3 => ?_)
        refine tz_aload0 (n := 53) (g_at ck_X11_drops 28 rfl) rfl (g_ne kd_84) ?_
        refine tz_aload0 (n := 54) (g_at ck_X11_drops 29 rfl) rfl (g_ne kd_84) ?_
        refine tz_getAv (n := 57) (a := 100) fk_X11_65 kd_84 (ly_84_40 hL) (g_at ck_X11_drops 30 rfl) rfl ?_
        refine tz_aload0 (n := 58) (g_at ck_X11_drops 31 rfl) rfl (g_ne kd_84) ?_
        refine tz_getIw (n := 61) (kz := 31) fk_X11_204 kd_84 (g_at ck_X11_drops 32 rfl) rfl rfl ?_
        rw [wr_same]
        refine tz_iald (n := 62) kd_100 (by omega) (g_at ck_X11_drops 33 rfl) rfl ?_
        rw [wr_ne (show (100 : Int) ≠ 84 by decide), hx1]
        refine tz_cvV1 (n := 65) (μ' := μX11_puts) (cb' := 0) (sb' := 0) ml_X11_213 mo_X11_puts mv_X11_puts np_X11_puts kd_84 (g_at ck_X11_drops 34 rfl) (mp_puts hL hR3 (by rw [wr_at, if_neg (by decide)]; omega) (by omega)) rfl rfl rfl ⟨by decide, by decide⟩ (Nat.le_of_ble_eq_true rfl) (by decide) (by decide) (fun ρ9 m62 hq => ?_)
        obtain ⟨rfl, hR4, rfl⟩ := hq
        refine tz_goto (tgt := 0) (g_at ck_X11_drops 35 rfl) rfl ?_
        exact ihi _ ⟨hR4, (hX1.w (by decide) (fun _ => by decide)).tr (FX.pu.sub (by decide) (by decide)), hb1.tr ((below.x (L := [84]) (ks := [31]) (FX.rf.w (by decide) (fun _ => by decide)) (by decide)).tr (below.pu (by rw [wr_at, if_neg (by decide)]; omega))), W1 ++ [x], S2, (hC1.x (L := [84]) (ks := [31]) (FX.rf.w (by decide) (fun _ => by decide)) (by decide) (by decide)).pu, (hS1.pop (by rw [wr_same, hwl]; omega) (by rw [wr_ne (by decide)])).pu, by rw [← hd1, dr_1 (by omega)], by omega, by rw [List.length_append, List.length_cons, List.length_nil]; omega, ho1.t⟩
