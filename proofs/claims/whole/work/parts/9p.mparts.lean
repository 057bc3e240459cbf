/-! The machine in the reference: parts, depth. -/
def ZM (ρ m : Mm) (t : Int → Int) (n b : Int) (z : MZ) : Prop := GS ρ m t n (zs z) ∧ CdC m b (zW z) ∧ StC m (zS z) ∧ m 84 32 = zD z ∧ (∀ i, 0 ≤ i → i < 9 → m 101 i = zT z i) ∧ m 84 29 = 0 ∧ m 84 30 = 4
def opn : List Int → Int
  | [] => 0
  | x :: S => (if x = 14 then 1 else 0) + opn S
def ZI (n b : Int) (z : MZ) : Prop := (0 ≤ b ∧ n ≤ 700) ∧ (0 ≤ zD z ∧ zD z ≤ 6) ∧ okS3 (zS z) ∧ (∀ i, zT z i = 0 ∨ zT z i = 1) ∧ (b + ((zW z).length : Int) + ((zS z).length : Int) + 2 ≤ 2 * n ∧ ((zS z).length : Int) ≤ n) ∧ ((zs z).1 = 1 → b + ((zW z).length : Int) + ((zS z).length : Int) + 2 ≤ 2 * sP (zs z) ∧ ((zS z).length : Int) ≤ sP (zs z) ∧ opn (zS z) = zD z - 1)
def ZX (b : Int) (m m9 : Mm) : Prop := FX [84, 99, 100, 101] [13, 14, 17, 18, 19, 20, 21, 22, 28, 31, 32] m m9 ∧ below b m m9
theorem ZX.rf {b : Int} {m : Mm} : ZX b m m := ⟨FX.rf, below.rf⟩
theorem ZX.tr {b : Int} {x y z : Mm} (h : ZX b x y) (k : ZX b y z) : ZX b x z := ⟨h.1.tr k.1, h.2.tr k.2⟩
theorem ZX.x {b : Int} {m m9 : Mm} {L ks : List Int} (k : FX L ks m m9) (h1 : ∀ x ∈ L, x ∈ ([84, 99, 100, 101] : List Int)) (h2 : ∀ x ∈ ks, x ∈ ([13, 14, 17, 18, 19, 20, 21, 22, 28, 31, 32] : List Int)) (h3 : (99 : Int) ∉ L) : ZX b m m9 := ⟨k.sub h1 h2, below.x k h3⟩
theorem ZX.pu {b v : Int} {m : Mm} (h : b ≤ m 84 28) : ZX b m (puM m v) := ⟨FX.pu.sub (by decide) (by decide), below.pu h⟩
section
variable {ρ ρ9 m m9 : Mm} {t : Int → Int} {n b : Int} {z : MZ}
theorem ZM.gs (h : ZM ρ m t n b z) : GS ρ m t n (zs z) := h.1
/-- only the tokens moved -/
theorem ZM.s (h : ZM ρ m t n b z) {s : PS} {ks : List Int} (hG : GS ρ9 m9 t n s) (k : FX [84] ks m m9) (hk : ∀ x ∈ ks, x < 28) : ZM ρ9 m9 t n b (mz s (zW z) (zS z) (zD z) (zT z)) := by
  have nk : ∀ x, 28 ≤ x → x ∉ ks := fun x hx h9 => by have := hk x h9; omega
  exact ⟨hG, h.2.1.x k (nk _ (by decide)) (by decide), h.2.2.1.x k (nk _ (by decide)) (by decide), (k.2 32 (nk _ (by decide))).trans h.2.2.2.1, by rw [k.1 101 (by decide)]; exact h.2.2.2.2.1, (k.2 29 (nk _ (by decide))).trans h.2.2.2.2.2.1, (k.2 30 (nk _ (by decide))).trans h.2.2.2.2.2.2⟩
theorem ZM.pu (h : ZM ρ m t n b z) {v : Int} (hR : MR (puM m v)) : ZM ρ (puM m v) t n b (mz (zs z) (zW z ++ [v]) (zS z) (zD z) (zT z)) := by
  have k : FX [84, 99] [28] m (puM m v) := FX.pu
  exact ⟨h.1.x hR rfl k (by decide) (by decide), h.2.1.pu, h.2.2.1.pu, (k.2 32 (by decide)).trans h.2.2.2.1, by rw [k.1 101 (by decide)]; exact h.2.2.2.2.1, (k.2 29 (by decide)).trans h.2.2.2.2.2.1, (k.2 30 (by decide)).trans h.2.2.2.2.2.2⟩
theorem ZM.wt (h : ZM ρ m t n b z) {v : Int} (hR : MR (wtM m v)) : ZM ρ (wtM m v) t n b (psh v z) := by
  have k : FX [84, 100] [31] m (wtM m v) := FX.wt
  exact ⟨h.1.x hR rfl k (by decide) (by decide), h.2.1.wt, h.2.2.1.wt, (k.2 32 (by decide)).trans h.2.2.2.1, by rw [k.1 101 (by decide)]; exact h.2.2.2.2.1, (k.2 29 (by decide)).trans h.2.2.2.2.2.1, (k.2 30 (by decide)).trans h.2.2.2.2.2.2⟩
theorem ZM.drp (h : ZM ρ m t n b z) {v : Int} (hR : MR m9) (k : FX [84, 99] [28, 31] m m9) (h1 : CdC m9 b (dr v (zW z) (zS z)).1) (h2 : StC m9 (dr v (zW z) (zS z)).2) : ZM ρ m9 t n b (drZ v z) := ⟨h.1.x hR rfl k (by decide) (by decide), h1, h2, (k.2 32 (by decide)).trans h.2.2.2.1, by rw [k.1 101 (by decide)]; exact h.2.2.2.2.1, (k.2 29 (by decide)).trans h.2.2.2.2.2.1, (k.2 30 (by decide)).trans h.2.2.2.2.2.2⟩
theorem ZM.ts (h : ZM ρ m t n b z) {v : Int} (hR : MR (wr m 101 (zD z) v)) (hd : 0 ≤ zD z) : ZM ρ (wr m 101 (zD z) v) t n b (tsZ v z) := by
  have k : FX [101] [] m (wr m 101 (zD z) v) := FX.rf.w (by decide) (fun h9 => absurd h9 (by decide))
  refine ⟨h.1.x hR rfl k (by decide) (by decide), h.2.1.x k (by decide) (by decide), h.2.2.1.x k (by decide) (by decide), (k.2 32 (by decide)).trans h.2.2.2.1, fun i i1 i2 => ?_, (k.2 29 (by decide)).trans h.2.2.2.2.2.1, (k.2 30 (by decide)).trans h.2.2.2.2.2.2⟩
  rw [wr_at]
  show _ = up (zT z) (zD z) v i
  by_cases e : i = zD z
  · rw [if_pos e, e, up_at]
  · rw [if_neg e, up_ne e]
    exact h.2.2.2.2.1 i i1 i2
theorem nx_lt (hB : BY t) (h : GS ρ m t n (zs z)) (g : (zs z).1 = 1) (hk : tK t n (sP (zs z)) ≠ 0) : sP (zs z) + 1 ≤ tQ t n (sP (zs z)) ∧ tQ t n (sP (zs z)) ≤ n := by
  have k := (h.g g).2.1
  have r := tk_rg (t := t) (n := n) hB k
  have := r.2.2.2 hk
  omega
/-- a token behind which one more waits -/
theorem ZI.pn (h : ZI n b z) (g : (zs z).1 = 1) {a : Int} (ha : 3 ≤ a ∧ a ≤ 11) (hk : sP (zs z) + 1 ≤ tQ t n (sP (zs z)) ∧ tQ t n (sP (zs z)) ≤ n) : ZI n b (nxZ t n (psh a z)) := by
  obtain ⟨h1, h2, h3, h4, h5, h6⟩ := h
  have k := h6 g
  refine ⟨h1, h2, fun x hx => ?_, h4, ?_, fun _ => ?_⟩
  · rcases List.mem_cons.mp hx with rfl | hx
    · exact Or.inl ha
    · exact h3 x hx
  · show b + ((zW z).length : Int) + ((a :: zS z).length : Int) + 2 ≤ 2 * n ∧ ((a :: zS z).length : Int) ≤ n
    rw [List.length_cons]
    omega
  · show b + ((zW z).length : Int) + ((a :: zS z).length : Int) + 2 ≤ 2 * tQ t n (sP (zs z)) ∧ ((a :: zS z).length : Int) ≤ tQ t n (sP (zs z)) ∧ opn (a :: zS z) = zD z - 1
    rw [List.length_cons]
    refine ⟨by omega, by omega, ?_⟩
    show (if a = 14 then 1 else 0) + opn (zS z) = zD z - 1
    rw [if_neg (by omega)]
    omega
theorem opn_dr {v : Int} : ∀ (S W : List Int), opn (dr v W S).2 = opn S
  | [], _ => rfl
  | x :: S, W => by
    by_cases hx : 14 ≤ x ∨ stg x < v
    · have e : dr v W (x :: S) = (W, x :: S) := if_pos hx
      rw [e]
    · rw [dr_1 hx, opn_dr S]
      show opn S = (if x = 14 then 1 else 0) + opn S
      rw [if_neg (by omega)]
      omega
theorem ZI.drp (h : ZI n b z) {v : Int} : ZI n b (drZ v z) := by
  obtain ⟨h1, h2, h3, h4, h5, h6⟩ := h
  have l := dr_len (v := v) (zS z) (zW z)
  refine ⟨h1, h2, dr_ok _ _ h3, h4, ?_, fun g => ?_⟩
  · show b + ((dr v (zW z) (zS z)).1.length : Int) + ((dr v (zW z) (zS z)).2.length : Int) + 2 ≤ 2 * n ∧ ((dr v (zW z) (zS z)).2.length : Int) ≤ n
    omega
  · have k := h6 g
    show b + ((dr v (zW z) (zS z)).1.length : Int) + ((dr v (zW z) (zS z)).2.length : Int) + 2 ≤ 2 * sP (zs z) ∧ ((dr v (zW z) (zS z)).2.length : Int) ≤ sP (zs z) ∧ opn (dr v (zW z) (zS z)).2 = zD z - 1
    rw [opn_dr]
    omega
theorem ZI.ts (h : ZI n b z) {v : Int} (hv : v = 0 ∨ v = 1) : ZI n b (tsZ v z) := by
  obtain ⟨h1, h2, h3, h4, h5, h6⟩ := h
  refine ⟨h1, h2, h3, fun i => ?_, h5, h6⟩
  show up (zT z) (zD z) v i = 0 ∨ up (zT z) (zD z) v i = 1
  by_cases e : i = zD z
  · rw [e, up_at]; exact hv
  · rw [up_ne e]; exact h4 i
theorem ZI.fl (h : ZI n b z) {k : Int} : ZI n b (flZ t n k z) := ⟨h.1, h.2.1, h.2.2.1, h.2.2.2.1, h.2.2.2.2.1, fun g => absurd g (by show ¬ (0 : Int) = 1; decide)⟩
theorem ZI.pt (h : ZI n b z) (hB : BY t) (hG : GS ρ m t n (zs z)) : ZI n b (prt t n z) ∧ ((prt t n z).1.1 = 1 → sP (zs z) + 1 ≤ sP (zs (prt t n z)) ∨ (zs z).1 = 0) := by
  unfold prt
  by_cases g : (zs z).1 = 1
  · rw [if_pos g]
    have nl := fun hk => nx_lt hB hG g hk
    have h' := h
    obtain ⟨h1, h2, h3, h4, h5, h6⟩ := h
    have k := h6 g
    have gen : ∀ (s : PS) (x y : Int), tK t n (sP (zs z)) ≠ 0 → (s.1 = 1 → s = nx9 t n (zs z)) → ZI n b (mz s (zW z ++ [x, y]) (zS z) (zD z) (zT z)) ∧ (s.1 = 1 → sP (zs z) + 1 ≤ sP s ∨ (zs z).1 = 0) := fun s x y hk hs => by
      have q := nl hk
      refine ⟨⟨h1, h2, h3, h4, ?_, fun gg => ?_⟩, fun gg => ?_⟩
      · show b + ((zW z ++ [x, y]).length : Int) + ((zS z).length : Int) + 2 ≤ 2 * n ∧ ((zS z).length : Int) ≤ n
        rw [List.length_append, List.length_cons, List.length_cons, List.length_nil]
        omega
      · have e : sP s = tQ t n (sP (zs z)) := by rw [hs gg]; rfl
        show b + ((zW z ++ [x, y]).length : Int) + ((zS z).length : Int) + 2 ≤ 2 * sP s ∧ ((zS z).length : Int) ≤ sP s ∧ opn (zS z) = zD z - 1
        rw [e, List.length_append, List.length_cons, List.length_cons, List.length_nil]
        omega
      · have e : sP s = tQ t n (sP (zs z)) := by rw [hs gg]; rfl
        rw [e]
        exact Or.inl q.1
    by_cases c2 : tK t n (sP (zs z)) = 2
    · rw [if_pos c2]
      refine gen _ _ _ (by omega) fun gg => ?_
      by_cases c : 4 < tQ t n (sP (zs z)) - tA t n (sP (zs z))
      · rw [if_pos c] at gg; exact absurd gg fl_n
      · rw [if_neg c]
    · rw [if_neg c2]
      by_cases c1 : tK t n (sP (zs z)) = 1
      · rw [if_pos c1]
        refine gen _ _ _ (by omega) fun gg => ?_
        by_cases c : 0 ≤ kwN t n (sP (zs z)) ∧ kwN t n (sP (zs z)) ≤ 4
        · rw [if_pos c]
        · rw [if_neg c] at gg; exact absurd gg fl_n
      · rw [if_neg c1]
        exact ⟨h'.fl, fun gg => absurd gg fl_n⟩
  · rw [if_neg g]
    exact ⟨h, fun gg => absurd gg g⟩
end
theorem ZM.re {ρ m : Mm} {t : Int → Int} {n b : Int} {s : PS} {S : List Int} {d : Int} {T : Int → Int} (W : List Int) (x y : Int) (h : ZM ρ m t n b (mz s ((W ++ [x]) ++ [y]) S d T)) : ZM ρ m t n b (mz s (W ++ [x, y]) S d T) := by
  rw [show W ++ [x, y] = (W ++ [x]) ++ [y] by rw [List.append_assoc]; rfl]
  exact h
theorem mp_part {l : Launch} {γ : Gh} {ρ m : Mm} {t : Int → Int} {n b : Int} {z : MZ} (hB : BY t) (hn : 0 ≤ n ∧ n ≤ 700) (hZ : ZM ρ m t n b z) (hI : ZI n b z) : gE l γ μX11_part 3 0 0 (rV KK fun ρ9 m9 => q23 ρ ρ9 ∧ MR m9 ∧ ZM ρ9 m9 t n b (prt t n z) ∧ ZX b m m9) xN KK ρ m [vR 84] := by
  refine gE.ofw cl_X11.2 ?_ rfl rfl (Nat.le_of_ble_eq_true rfl)
  show gT l γ μX11_part 3 0 0 _ _ KK ρ m 0 [some (vR 84), none] []
  have hG := hZ.1
  have hR := hG.1
  have hL := hG.2.1
  have hbb := hG.b
  have hgd := gd9_1 (m 84 13)
  have hi1 := hI.1
  have hi5 := hI.2.2.2.2.1
  refine tz_aload0 (n := 1) (g_at ck_X11_part 0 rfl) rfl (g_ne kd_84) ?_
  refine tz_cvI0 (n := 4) (μ' := μX11_isGood) (cb' := 0) (sb' := 0) ml_X11_191 mo_X11_isGood mv_X11_isGood np_X11_isGood kd_84 (g_at ck_X11_part 1 rfl) (mp_isGood hR) rfl rfl rfl ⟨by decide, by decide⟩ (Nat.le_of_ble_eq_true rfl) (by decide) (by decide) (fun x1 ρ9 m1 hq => ?_)
  obtain ⟨rfl, hR1, rfl, rfl⟩ := hq
  refine tz_if_ne (n := 7) (tgt := 8) (g_at ck_X11_part 2 rfl) rfl rfl (by omega) (fun h4 => ?_) (fun h4 => ?_)
  · skip
    have hg : (zs z).1 = 1 := hbb.1.mpr (by omega)
    have hgg := hG.g hg
    have hK := hgg.1
    have hr9 := tk_rg (t := t) hB hgg.2.1
    have hso := so9_1 (tK t n (sP (zs z)))
    have hi6 := hI.2.2.2.2.2 hg
    have ht28 := hZ.2.1.1
    have hq1 : tK t n (sP (zs z)) ≠ 0 → sP (zs z) + 1 ≤ tQ t n (sP (zs z)) ∧ tQ t n (sP (zs z)) ≤ n := nx_lt hB hG hg
    refine tz_aload0 (n := 9) (g_at ck_X11_part 4 rfl) rfl (g_ne kd_84) ?_
    refine tz_getIw (n := 12) (kz := 18) fk_X11_165 kd_84 (g_at ck_X11_part 5 rfl) rfl rfl ?_
    rw [hK.2.2.2.2.2.1]
    refine tz_iconst (n := 13) (g_at ck_X11_part 6 rfl) rfl ?_
    refine tz_icmp_ne (n := 16) (tgt := 45) (g_at ck_X11_part 7 rfl) rfl rfl (by omega) (fun h13 => ?_) (fun h13 => ?_)
    · skip
      have h2n : ¬ tK t n (sP (zs z)) = 2 := fun h9 => h13 (hso.2.1.mpr h9)
      refine tz_aload0 (n := 46) (g_at ck_X11_part 23 rfl) rfl (g_ne kd_84) ?_
      refine tz_getIw (n := 49) (kz := 18) fk_X11_165 kd_84 (g_at ck_X11_part 24 rfl) rfl rfl ?_
      rw [hK.2.2.2.2.2.1]
      refine tz_iconst (n := 50) (g_at ck_X11_part 25 rfl) rfl ?_
      refine tz_icmp_ne (n := 53) (tgt := 92) (g_at ck_X11_part 26 rfl) rfl rfl (by omega) (fun h50 => ?_) (fun h50 => ?_)
      · skip
        have h1n : ¬ tK t n (sP (zs z)) = 1 := fun h9 => h50 (hso.1.mpr h9)
        refine tz_aload0 (n := 93) (g_at ck_X11_part 48 rfl) rfl (g_ne kd_84) ?_
        refine tz_iconst (n := 94) (g_at ck_X11_part 49 rfl) rfl ?_
        refine tz_cvV1 (n := 97) (μ' := μX11_wrong) (cb' := 0) (sb' := 0) ml_X11_198 mo_X11_wrong mv_X11_wrong np_X11_wrong kd_84 (g_at ck_X11_part 50 rfl) (mp_wrong hB hn hG hg (by decide)) rfl rfl rfl ⟨by decide, by decide⟩ (Nat.le_of_ble_eq_true rfl) (by decide) (by decide) (fun ρ9 m94 hq => ?_)
        obtain ⟨rfl, hR2, hG94, hX94⟩ := hq
        have hfz := hG94.fl0
        have hZw := hZ.s hG94 hX94 (by decide)
        have hgx := gd9_1 (m94 84 13)
        refine tz_aload0 (n := 98) (g_at ck_X11_part 51 rfl) rfl (g_ne kd_84) ?_
        refine tz_cvI0 (n := 101) (μ' := μX11_isGood) (cb' := 0) (sb' := 0) ml_X11_191 mo_X11_isGood mv_X11_isGood np_X11_isGood kd_84 (g_at ck_X11_part 52 rfl) (mp_isGood hR2) rfl rfl rfl ⟨by decide, by decide⟩ (Nat.le_of_ble_eq_true rfl) (by decide) (by decide) (fun x98 ρ9 m98 hq => ?_)
        obtain ⟨rfl, hR3, rfl, rfl⟩ := hq
        refine tz_if_eq (n := 104) (tgt := 108) (g_at ck_X11_part 53 rfl) rfl rfl (by omega) (fun h101 => ?_) (fun h101 => absurd h101 (by omega))
        exact tz_vret (g_at ck_X11_part 56 rfl) rfl (rV_mk ⟨q23.rf, hR3, by rw [show prt t n z = flZ t n 1 z by unfold prt; rw [if_pos hg, if_neg (by omega), if_neg (by omega)]]; exact hZ.s hG94 hX94 (by decide), ZX.x hX94 (by decide) (by decide) (by decide)⟩)
      · skip
        have h1k : tK t n (sP (zs z)) = 1 := hso.1.mp h50
        have hq9 := hq1 (by omega)
        refine tz_aload0 (n := 54) (g_at ck_X11_part 27 rfl) rfl (g_ne kd_84) ?_
        refine tz_cvI0 (n := 57) (μ' := μX11_knownWord) (cb' := 0) (sb' := 0) ml_X11_216 mo_X11_knownWord mv_X11_knownWord np_X11_knownWord kd_84 (g_at ck_X11_part 28 rfl) (mp_knownWord hB hn hG hg) rfl rfl rfl ⟨by decide, by decide⟩ (Nat.le_of_ble_eq_true rfl) (by decide) (by decide) (fun x54 ρ9 m54 hq => ?_)
        obtain ⟨rfl, hR4, hk54, rfl⟩ := hq
        have hkr := hk54.rg
        have ekw := isKw_u hk54
        refine tz_istore1 (n := 58) (g_at ck_X11_part 29 rfl) rfl (by decide) g_hpR ?_
        refine tz_iload1 (n := 59) (g_at ck_X11_part 30 rfl) rfl ?_
        refine tz_aload0 (n := 60) (g_at ck_X11_part 31 rfl) rfl (g_ne kd_84) ?_
        refine tz_getIw (n := 63) (kz := 29) fk_X11_220 kd_84 (g_at ck_X11_part 32 rfl) rfl rfl ?_
        rw [hZ.2.2.2.2.2.1]
        refine tz_icmp_lt (n := 66) (tgt := 74) (g_at ck_X11_part 33 rfl) rfl rfl (by omega) (fun h63 => ?_) (fun h63 => ?_)
        · skip
          refine tz_aload0 (n := 75) (g_at ck_X11_part 38 rfl) rfl (g_ne kd_84) ?_
          refine tz_iconst (n := 76) (g_at ck_X11_part 39 rfl) rfl ?_
          refine tz_cvV1 (n := 79) (μ' := μX11_wrong) (cb' := 0) (sb' := 0) ml_X11_198 mo_X11_wrong mv_X11_wrong np_X11_wrong kd_84 (g_at ck_X11_part 40 rfl) (mp_wrong hB hn hG hg (by decide)) rfl rfl rfl ⟨by decide, by decide⟩ (Nat.le_of_ble_eq_true rfl) (by decide) (by decide) (fun ρ9 m76 hq => ?_)
          obtain ⟨rfl, hR5, hG76, hX76⟩ := hq
          have hfz := hG76.fl0
          have hZw := hZ.s hG76 hX76 (by decide)
          have hta0 : m76 84 28 = b + ((zW z).length : Int) := hZw.2.1.1
          refine tz_aload0 (n := 80) (g_at ck_X11_part 41 rfl) rfl (g_ne kd_84) ?_
          refine tz_iconst (n := 81) (g_at ck_X11_part 42 rfl) rfl ?_
          refine tz_cvV1 (n := 84) (μ' := μX11_puts) (cb' := 0) (sb' := 0) ml_X11_213 mo_X11_puts mv_X11_puts np_X11_puts kd_84 (g_at ck_X11_part 43 rfl) (mp_puts hL hR5 (by omega) (by omega)) rfl rfl rfl ⟨by decide, by decide⟩ (Nat.le_of_ble_eq_true rfl) (by decide) (by decide) (fun ρ9 m81 hq => ?_)
          obtain ⟨rfl, hR6, rfl⟩ := hq
          have hzp := ZM.pu (z := mz (fl9 t n 3 (zs z)) (zW z) (zS z) (zD z) (zT z)) hZw hR6
          have hta : (puM m76 2) 84 28 = b + ((zW z).length : Int) + 1 := by unfold puM; rw [wr_same, hta0]
          refine tz_aload0 (n := 85) (g_at ck_X11_part 44 rfl) rfl (g_ne kd_84) ?_
          refine tz_iload1 (n := 86) (g_at ck_X11_part 45 rfl) rfl ?_
          rw [ekw]
          rw [ekw] at hkr
          refine tz_cvV1 (n := 89) (μ' := μX11_puts) (cb' := 0) (sb' := 0) ml_X11_213 mo_X11_puts mv_X11_puts np_X11_puts kd_84 (g_at ck_X11_part 46 rfl) (mp_puts hL hR6 (by rw [hta]; omega) (by omega)) rfl rfl rfl ⟨by decide, by decide⟩ (Nat.le_of_ble_eq_true rfl) (by decide) (by decide) (fun ρ9 m86 hq => ?_)
          obtain ⟨rfl, hR7, rfl⟩ := hq
          have hz86 := (hzp.pu hR7).re (zW z) _ _
          refine tz_goto (tgt := 97) (g_at ck_X11_part 47 rfl) rfl ?_
          have hGp := hz86.1
          have hgx := gd9_1 ((puM (puM m76 2) (kwN t n (sP (zs z)))) 84 13)
          have hfx : (puM (puM m76 2) (kwN t n (sP (zs z)))) 84 13 ≠ 0 := hGp.fl0
          refine tz_aload0 (n := 98) (g_at ck_X11_part 51 rfl) rfl (g_ne kd_84) ?_
          refine tz_cvI0 (n := 101) (μ' := μX11_isGood) (cb' := 0) (sb' := 0) ml_X11_191 mo_X11_isGood mv_X11_isGood np_X11_isGood kd_84 (g_at ck_X11_part 52 rfl) (mp_isGood hR7) rfl rfl rfl ⟨by decide, by decide⟩ (Nat.le_of_ble_eq_true rfl) (by decide) (by decide) (fun x98 ρ9 m98 hq => ?_)
          obtain ⟨rfl, hR8, rfl, rfl⟩ := hq
          refine tz_if_eq (n := 104) (tgt := 108) (g_at ck_X11_part 53 rfl) rfl rfl (by omega) (fun h101 => ?_) (fun h101 => absurd h101 (by omega))
          exact tz_vret (g_at ck_X11_part 56 rfl) rfl (rV_mk ⟨q23.rf, hR8, by rw [show prt t n z = mz (fl9 t n 3 (zs z)) (zW z ++ [2, kwN t n (sP (zs z))]) (zS z) (zD z) (zT z) by unfold prt; rw [if_pos hg, if_neg (by omega), if_pos h1k, if_neg (by omega)]]; exact hz86, ((ZX.x hX76 (by decide) (by decide) (by decide)).tr (ZX.pu (by omega))).tr (ZX.pu (by omega))⟩)
        · skip
          refine tz_iload1 (n := 67) (g_at ck_X11_part 34 rfl) rfl ?_
          refine tz_aload0 (n := 68) (g_at ck_X11_part 35 rfl) rfl (g_ne kd_84) ?_
          refine tz_getIw (n := 71) (kz := 30) fk_X11_223 kd_84 (g_at ck_X11_part 36 rfl) rfl rfl ?_
          rw [hZ.2.2.2.2.2.2]
          refine tz_icmp_le (n := 74) (tgt := 79) (g_at ck_X11_part 37 rfl) rfl rfl (by omega) (fun h71 => ?_) (fun h71 => ?_)
          · skip
            have hta0 : m 84 28 = b + ((zW z).length : Int) := ht28
            refine tz_aload0 (n := 80) (g_at ck_X11_part 41 rfl) rfl (g_ne kd_84) ?_
            refine tz_iconst (n := 81) (g_at ck_X11_part 42 rfl) rfl ?_
            refine tz_cvV1 (n := 84) (μ' := μX11_puts) (cb' := 0) (sb' := 0) ml_X11_213 mo_X11_puts mv_X11_puts np_X11_puts kd_84 (g_at ck_X11_part 43 rfl) (mp_puts hL hR4 (by omega) (by omega)) rfl rfl rfl ⟨by decide, by decide⟩ (Nat.le_of_ble_eq_true rfl) (by decide) (by decide) (fun ρ9 m81 hq => ?_)
            obtain ⟨rfl, hR9, rfl⟩ := hq
            have hzp := hZ.pu hR9
            have hta : (puM m 2) 84 28 = b + ((zW z).length : Int) + 1 := by unfold puM; rw [wr_same, hta0]
            refine tz_aload0 (n := 85) (g_at ck_X11_part 44 rfl) rfl (g_ne kd_84) ?_
            refine tz_iload1 (n := 86) (g_at ck_X11_part 45 rfl) rfl ?_
            rw [ekw]
            rw [ekw] at hkr
            refine tz_cvV1 (n := 89) (μ' := μX11_puts) (cb' := 0) (sb' := 0) ml_X11_213 mo_X11_puts mv_X11_puts np_X11_puts kd_84 (g_at ck_X11_part 46 rfl) (mp_puts hL hR9 (by rw [hta]; omega) (by omega)) rfl rfl rfl ⟨by decide, by decide⟩ (Nat.le_of_ble_eq_true rfl) (by decide) (by decide) (fun ρ9 m86 hq => ?_)
            obtain ⟨rfl, hR10, rfl⟩ := hq
            have hz86 := (hzp.pu hR10).re (zW z) _ _
            refine tz_goto (tgt := 97) (g_at ck_X11_part 47 rfl) rfl ?_
            have hGp := hz86.1
            have hgx := gd9_1 ((puM (puM m 2) (kwN t n (sP (zs z)))) 84 13)
            have hfx : (puM (puM m 2) (kwN t n (sP (zs z)))) 84 13 = 0 := (hGp.g hg).2.2.1
            refine tz_aload0 (n := 98) (g_at ck_X11_part 51 rfl) rfl (g_ne kd_84) ?_
            refine tz_cvI0 (n := 101) (μ' := μX11_isGood) (cb' := 0) (sb' := 0) ml_X11_191 mo_X11_isGood mv_X11_isGood np_X11_isGood kd_84 (g_at ck_X11_part 52 rfl) (mp_isGood hR10) rfl rfl rfl ⟨by decide, by decide⟩ (Nat.le_of_ble_eq_true rfl) (by decide) (by decide) (fun x98 ρ9 m98 hq => ?_)
            obtain ⟨rfl, hR11, rfl, rfl⟩ := hq
            refine tz_if_eq (n := 104) (tgt := 108) (g_at ck_X11_part 53 rfl) rfl rfl (by omega) (fun h101 => absurd h101 (by omega)) (fun h101 => ?_)
            refine tz_aload0 (n := 105) (g_at ck_X11_part 54 rfl) rfl (g_ne kd_84) ?_
            refine tz_cvV0 (n := 108) (μ' := μX11_goes) (cb' := 0) (sb' := 0) ml_X11_195 mo_X11_goes mv_X11_goes np_X11_goes kd_84 (g_at ck_X11_part 55 rfl) (mp_goes hL hR11 hB hn (show 0 ≤ tQ t n (sP (zs z)) ∧ tQ t n (sP (zs z)) ≤ n by omega) hGp.2.2.1 hGp.2.2.2.1 (hGp.g hg).1.2.2.1) rfl rfl rfl ⟨by decide, by decide⟩ (Nat.le_of_ble_eq_true rfl) (by decide) (by decide) (fun ρ9 m105 hq => ?_)
            obtain ⟨w105, rfl, hR12, hX105, hK105⟩ := hq
            have hq105 : q23 ρ (wr ρ 84 23 w105) := q23.w
            have hG105 := hGp.nx hg hB hR12 hq105 hX105 (by decide) (by decide) hK105
            exact tz_vret (g_at ck_X11_part 56 rfl) rfl (rV_mk ⟨hq105, hR12, by rw [show prt t n z = mz (nx9 t n (zs z)) (zW z ++ [2, kwN t n (sP (zs z))]) (zS z) (zD z) (zT z) by unfold prt; rw [if_pos hg, if_neg (by omega), if_pos h1k, if_pos (by omega)]]; exact hz86.s hG105 hX105 (by decide), ((ZX.pu (by omega)).tr (ZX.pu (by omega))).tr (ZX.x hX105 (by decide) (by decide) (by decide))⟩)
          · skip
            refine tz_aload0 (n := 75) (g_at ck_X11_part 38 rfl) rfl (g_ne kd_84) ?_
            refine tz_iconst (n := 76) (g_at ck_X11_part 39 rfl) rfl ?_
            refine tz_cvV1 (n := 79) (μ' := μX11_wrong) (cb' := 0) (sb' := 0) ml_X11_198 mo_X11_wrong mv_X11_wrong np_X11_wrong kd_84 (g_at ck_X11_part 40 rfl) (mp_wrong hB hn hG hg (by decide)) rfl rfl rfl ⟨by decide, by decide⟩ (Nat.le_of_ble_eq_true rfl) (by decide) (by decide) (fun ρ9 m76 hq => ?_)
            obtain ⟨rfl, hR13, hG76, hX76⟩ := hq
            have hfz := hG76.fl0
            have hZw := hZ.s hG76 hX76 (by decide)
            have hta0 : m76 84 28 = b + ((zW z).length : Int) := hZw.2.1.1
            refine tz_aload0 (n := 80) (g_at ck_X11_part 41 rfl) rfl (g_ne kd_84) ?_
            refine tz_iconst (n := 81) (g_at ck_X11_part 42 rfl) rfl ?_
            refine tz_cvV1 (n := 84) (μ' := μX11_puts) (cb' := 0) (sb' := 0) ml_X11_213 mo_X11_puts mv_X11_puts np_X11_puts kd_84 (g_at ck_X11_part 43 rfl) (mp_puts hL hR13 (by omega) (by omega)) rfl rfl rfl ⟨by decide, by decide⟩ (Nat.le_of_ble_eq_true rfl) (by decide) (by decide) (fun ρ9 m81 hq => ?_)
            obtain ⟨rfl, hR14, rfl⟩ := hq
            have hzp := ZM.pu (z := mz (fl9 t n 3 (zs z)) (zW z) (zS z) (zD z) (zT z)) hZw hR14
            have hta : (puM m76 2) 84 28 = b + ((zW z).length : Int) + 1 := by unfold puM; rw [wr_same, hta0]
            refine tz_aload0 (n := 85) (g_at ck_X11_part 44 rfl) rfl (g_ne kd_84) ?_
            refine tz_iload1 (n := 86) (g_at ck_X11_part 45 rfl) rfl ?_
            rw [ekw]
            rw [ekw] at hkr
            refine tz_cvV1 (n := 89) (μ' := μX11_puts) (cb' := 0) (sb' := 0) ml_X11_213 mo_X11_puts mv_X11_puts np_X11_puts kd_84 (g_at ck_X11_part 46 rfl) (mp_puts hL hR14 (by rw [hta]; omega) (by omega)) rfl rfl rfl ⟨by decide, by decide⟩ (Nat.le_of_ble_eq_true rfl) (by decide) (by decide) (fun ρ9 m86 hq => ?_)
            obtain ⟨rfl, hR15, rfl⟩ := hq
            have hz86 := (hzp.pu hR15).re (zW z) _ _
            refine tz_goto (tgt := 97) (g_at ck_X11_part 47 rfl) rfl ?_
            have hGp := hz86.1
            have hgx := gd9_1 ((puM (puM m76 2) (kwN t n (sP (zs z)))) 84 13)
            have hfx : (puM (puM m76 2) (kwN t n (sP (zs z)))) 84 13 ≠ 0 := hGp.fl0
            refine tz_aload0 (n := 98) (g_at ck_X11_part 51 rfl) rfl (g_ne kd_84) ?_
            refine tz_cvI0 (n := 101) (μ' := μX11_isGood) (cb' := 0) (sb' := 0) ml_X11_191 mo_X11_isGood mv_X11_isGood np_X11_isGood kd_84 (g_at ck_X11_part 52 rfl) (mp_isGood hR15) rfl rfl rfl ⟨by decide, by decide⟩ (Nat.le_of_ble_eq_true rfl) (by decide) (by decide) (fun x98 ρ9 m98 hq => ?_)
            obtain ⟨rfl, hR16, rfl, rfl⟩ := hq
            refine tz_if_eq (n := 104) (tgt := 108) (g_at ck_X11_part 53 rfl) rfl rfl (by omega) (fun h101 => ?_) (fun h101 => absurd h101 (by omega))
            exact tz_vret (g_at ck_X11_part 56 rfl) rfl (rV_mk ⟨q23.rf, hR16, by rw [show prt t n z = mz (fl9 t n 3 (zs z)) (zW z ++ [2, kwN t n (sP (zs z))]) (zS z) (zD z) (zT z) by unfold prt; rw [if_pos hg, if_neg (by omega), if_pos h1k, if_neg (by omega)]]; exact hz86, ((ZX.x hX76 (by decide) (by decide) (by decide)).tr (ZX.pu (by omega))).tr (ZX.pu (by omega))⟩)
    · skip
      have h2k : tK t n (sP (zs z)) = 2 := hso.2.1.mp h13
      have hv9 := tv_rg h2k
      have hq9 := hq1 (by omega)
      refine tz_aload0 (n := 17) (g_at ck_X11_part 8 rfl) rfl (g_ne kd_84) ?_
      refine tz_getIw (n := 20) (kz := 20) fk_X11_175 kd_84 (g_at ck_X11_part 9 rfl) rfl rfl ?_
      rw [hK.2.2.2.2.1]
      refine tz_iconst (n := 21) (g_at ck_X11_part 10 rfl) rfl ?_
      refine tz_icmp_le (n := 24) (tgt := 29) (g_at ck_X11_part 11 rfl) rfl rfl (by omega) (fun h21 => ?_) (fun h21 => ?_)
      · skip
        have hta0 : m 84 28 = b + ((zW z).length : Int) := ht28
        refine tz_aload0 (n := 30) (g_at ck_X11_part 15 rfl) rfl (g_ne kd_84) ?_
        refine tz_iconst (n := 31) (g_at ck_X11_part 16 rfl) rfl ?_
        refine tz_cvV1 (n := 34) (μ' := μX11_puts) (cb' := 0) (sb' := 0) ml_X11_213 mo_X11_puts mv_X11_puts np_X11_puts kd_84 (g_at ck_X11_part 17 rfl) (mp_puts hL hR1 (by omega) (by omega)) rfl rfl rfl ⟨by decide, by decide⟩ (Nat.le_of_ble_eq_true rfl) (by decide) (by decide) (fun ρ9 m31 hq => ?_)
        obtain ⟨rfl, hR17, rfl⟩ := hq
        have hzp := hZ.pu hR17
        have hta : (puM m 1) 84 28 = b + ((zW z).length : Int) + 1 := by unfold puM; rw [wr_same, hta0]
        refine tz_aload0 (n := 35) (g_at ck_X11_part 18 rfl) rfl (g_ne kd_84) ?_
        refine tz_aload0 (n := 36) (g_at ck_X11_part 19 rfl) rfl (g_ne kd_84) ?_
        refine tz_getIw (n := 39) (kz := 21) fk_X11_159 kd_84 (g_at ck_X11_part 20 rfl) rfl rfl ?_
        rw [show (puM m 1) 84 21 = tV t n (sP (zs z)) by rw [FX.pu.2 21 (by decide)]; exact hK.2.2.2.2.2.2.1 h2k]
        refine tz_cvV1 (n := 42) (μ' := μX11_puts) (cb' := 0) (sb' := 0) ml_X11_213 mo_X11_puts mv_X11_puts np_X11_puts kd_84 (g_at ck_X11_part 21 rfl) (mp_puts hL hR17 (by rw [hta]; omega) (by omega)) rfl rfl rfl ⟨by decide, by decide⟩ (Nat.le_of_ble_eq_true rfl) (by decide) (by decide) (fun ρ9 m39 hq => ?_)
        obtain ⟨rfl, hR18, rfl⟩ := hq
        have hz39 := (hzp.pu hR18).re (zW z) _ _
        refine tz_goto (tgt := 97) (g_at ck_X11_part 22 rfl) rfl ?_
        have hGp := hz39.1
        have hgx := gd9_1 ((puM (puM m 1) (tV t n (sP (zs z)))) 84 13)
        have hfx : (puM (puM m 1) (tV t n (sP (zs z)))) 84 13 = 0 := (hGp.g hg).2.2.1
        refine tz_aload0 (n := 98) (g_at ck_X11_part 51 rfl) rfl (g_ne kd_84) ?_
        refine tz_cvI0 (n := 101) (μ' := μX11_isGood) (cb' := 0) (sb' := 0) ml_X11_191 mo_X11_isGood mv_X11_isGood np_X11_isGood kd_84 (g_at ck_X11_part 52 rfl) (mp_isGood hR18) rfl rfl rfl ⟨by decide, by decide⟩ (Nat.le_of_ble_eq_true rfl) (by decide) (by decide) (fun x98 ρ9 m98 hq => ?_)
        obtain ⟨rfl, hR19, rfl, rfl⟩ := hq
        refine tz_if_eq (n := 104) (tgt := 108) (g_at ck_X11_part 53 rfl) rfl rfl (by omega) (fun h101 => absurd h101 (by omega)) (fun h101 => ?_)
        refine tz_aload0 (n := 105) (g_at ck_X11_part 54 rfl) rfl (g_ne kd_84) ?_
        refine tz_cvV0 (n := 108) (μ' := μX11_goes) (cb' := 0) (sb' := 0) ml_X11_195 mo_X11_goes mv_X11_goes np_X11_goes kd_84 (g_at ck_X11_part 55 rfl) (mp_goes hL hR19 hB hn (show 0 ≤ tQ t n (sP (zs z)) ∧ tQ t n (sP (zs z)) ≤ n by omega) hGp.2.2.1 hGp.2.2.2.1 (hGp.g hg).1.2.2.1) rfl rfl rfl ⟨by decide, by decide⟩ (Nat.le_of_ble_eq_true rfl) (by decide) (by decide) (fun ρ9 m105 hq => ?_)
        obtain ⟨w105, rfl, hR20, hX105, hK105⟩ := hq
        have hq105 : q23 ρ (wr ρ 84 23 w105) := q23.w
        have hG105 := hGp.nx hg hB hR20 hq105 hX105 (by decide) (by decide) hK105
        exact tz_vret (g_at ck_X11_part 56 rfl) rfl (rV_mk ⟨hq105, hR20, by rw [show prt t n z = mz (nx9 t n (zs z)) (zW z ++ [1, tV t n (sP (zs z))]) (zS z) (zD z) (zT z) by unfold prt; rw [if_pos hg, if_pos h2k, if_neg (by omega)]]; exact hz39.s hG105 hX105 (by decide), ((ZX.pu (by omega)).tr (ZX.pu (by omega))).tr (ZX.x hX105 (by decide) (by decide) (by decide))⟩)
      · skip
        refine tz_aload0 (n := 25) (g_at ck_X11_part 12 rfl) rfl (g_ne kd_84) ?_
        refine tz_iconst (n := 26) (g_at ck_X11_part 13 rfl) rfl ?_
        refine tz_cvV1 (n := 29) (μ' := μX11_wrong) (cb' := 0) (sb' := 0) ml_X11_198 mo_X11_wrong mv_X11_wrong np_X11_wrong kd_84 (g_at ck_X11_part 14 rfl) (mp_wrong hB hn hG hg (by decide)) rfl rfl rfl ⟨by decide, by decide⟩ (Nat.le_of_ble_eq_true rfl) (by decide) (by decide) (fun ρ9 m26 hq => ?_)
        obtain ⟨rfl, hR21, hG26, hX26⟩ := hq
        have hfz := hG26.fl0
        have hZw := hZ.s hG26 hX26 (by decide)
        have hta0 : m26 84 28 = b + ((zW z).length : Int) := hZw.2.1.1
        refine tz_aload0 (n := 30) (g_at ck_X11_part 15 rfl) rfl (g_ne kd_84) ?_
        refine tz_iconst (n := 31) (g_at ck_X11_part 16 rfl) rfl ?_
        refine tz_cvV1 (n := 34) (μ' := μX11_puts) (cb' := 0) (sb' := 0) ml_X11_213 mo_X11_puts mv_X11_puts np_X11_puts kd_84 (g_at ck_X11_part 17 rfl) (mp_puts hL hR21 (by omega) (by omega)) rfl rfl rfl ⟨by decide, by decide⟩ (Nat.le_of_ble_eq_true rfl) (by decide) (by decide) (fun ρ9 m31 hq => ?_)
        obtain ⟨rfl, hR22, rfl⟩ := hq
        have hzp := ZM.pu (z := mz (fl9 t n 2 (zs z)) (zW z) (zS z) (zD z) (zT z)) hZw hR22
        have hta : (puM m26 1) 84 28 = b + ((zW z).length : Int) + 1 := by unfold puM; rw [wr_same, hta0]
        refine tz_aload0 (n := 35) (g_at ck_X11_part 18 rfl) rfl (g_ne kd_84) ?_
        refine tz_aload0 (n := 36) (g_at ck_X11_part 19 rfl) rfl (g_ne kd_84) ?_
        refine tz_getIw (n := 39) (kz := 21) fk_X11_159 kd_84 (g_at ck_X11_part 20 rfl) rfl rfl ?_
        rw [show (puM m26 1) 84 21 = tV t n (sP (zs z)) by rw [FX.pu.2 21 (by decide), hX26.2 21 (by decide)]; exact hK.2.2.2.2.2.2.1 h2k]
        refine tz_cvV1 (n := 42) (μ' := μX11_puts) (cb' := 0) (sb' := 0) ml_X11_213 mo_X11_puts mv_X11_puts np_X11_puts kd_84 (g_at ck_X11_part 21 rfl) (mp_puts hL hR22 (by rw [hta]; omega) (by omega)) rfl rfl rfl ⟨by decide, by decide⟩ (Nat.le_of_ble_eq_true rfl) (by decide) (by decide) (fun ρ9 m39 hq => ?_)
        obtain ⟨rfl, hR23, rfl⟩ := hq
        have hz39 := (hzp.pu hR23).re (zW z) _ _
        refine tz_goto (tgt := 97) (g_at ck_X11_part 22 rfl) rfl ?_
        have hGp := hz39.1
        have hgx := gd9_1 ((puM (puM m26 1) (tV t n (sP (zs z)))) 84 13)
        have hfx : (puM (puM m26 1) (tV t n (sP (zs z)))) 84 13 ≠ 0 := hGp.fl0
        refine tz_aload0 (n := 98) (g_at ck_X11_part 51 rfl) rfl (g_ne kd_84) ?_
        refine tz_cvI0 (n := 101) (μ' := μX11_isGood) (cb' := 0) (sb' := 0) ml_X11_191 mo_X11_isGood mv_X11_isGood np_X11_isGood kd_84 (g_at ck_X11_part 52 rfl) (mp_isGood hR23) rfl rfl rfl ⟨by decide, by decide⟩ (Nat.le_of_ble_eq_true rfl) (by decide) (by decide) (fun x98 ρ9 m98 hq => ?_)
        obtain ⟨rfl, hR24, rfl, rfl⟩ := hq
        refine tz_if_eq (n := 104) (tgt := 108) (g_at ck_X11_part 53 rfl) rfl rfl (by omega) (fun h101 => ?_) (fun h101 => absurd h101 (by omega))
        exact tz_vret (g_at ck_X11_part 56 rfl) rfl (rV_mk ⟨q23.rf, hR24, by rw [show prt t n z = mz (fl9 t n 2 (zs z)) (zW z ++ [1, tV t n (sP (zs z))]) (zS z) (zD z) (zT z) by unfold prt; rw [if_pos hg, if_pos h2k, if_pos (by omega)]]; exact hz39, ((ZX.x hX26 (by decide) (by decide) (by decide)).tr (ZX.pu (by omega))).tr (ZX.pu (by omega))⟩)
  · skip
    exact tz_vret (g_at ck_X11_part 3 rfl) rfl (rV_mk ⟨q23.rf, hR1, by rw [show prt t n z = z from if_neg (by omega)]; exact hZ, ZX.rf⟩)
