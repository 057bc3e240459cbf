/-! The reference reads: a line. -/
theorem ln_s {t : Int → Int} {n sp : Int} {z : LZ} : (ln9 t n sp z).1 = if (lA9 t n sp z).1.1 = 1 then sg9 t n 59 (lA9 t n sp z).1 else (lA9 t n sp z).1 := by
  unfold ln9
  split <;> rfl
theorem ln_k {t : Int → Int} {n sp : Int} {z : LZ} (h : (ln9 t n sp z).1.1 = 1) : (lA9 t n sp z).1.1 = 1 ∧ tK t n (sP (lA9 t n sp z).1) = 59 ∧ ln9 t n sp z = (nx9 t n (lA9 t n sp z).1, (lA9 t n sp z).2.1, (lA9 t n sp z).2.2) := by
  unfold ln9 at h ⊢
  by_cases g : (lA9 t n sp z).1.1 = 1
  · rw [if_pos g] at h ⊢
    have h' : (sg9 t n 59 (lA9 t n sp z).1).1 = 1 := h
    unfold sg9 at h'
    by_cases k : tK t n (sP (lA9 t n sp z).1) = 59
    · refine ⟨g, k, ?_⟩
      unfold sg9
      rw [if_pos k]
    · rw [if_neg k] at h'; exact absurd h' fl_n
  · rw [if_neg g] at h; exact absurd h g
theorem mp_line {l : Launch} {γ : Gh} {ρ m : Mm} {t : Int → Int} {n sp : Int} {s : PS} {ν : Mm} {Q : Int → List Int} (hB : BY t) (hn : 0 ≤ n ∧ n ≤ 700) (hG : GS ρ m t n s) (hg : s.1 = 1) (hN : NM m ν) (hw : WN ν) (hr1 : RU m 26 (Q (sp + 6))) (hr2 : RU m 27 (Q (sp + 9))) (htop : 0 ≤ m 84 28 ∧ m 84 28 ≤ 2 * sP s) (h101 : ∀ i, 0 ≤ i → i < 9 → m 101 i = 0 ∨ m 101 i = 1) : gE l γ μX11_line 6 0 0 (rV KK fun ρ9 m9 => q23 ρ ρ9 ∧ MR m9 ∧ GS ρ9 m9 t n (ln9 t n sp (s, ν, Q)).1 ∧ ((ln9 t n sp (s, ν, Q)).1.1 = 1 → LK m9 t n sp (sP s + 1) (ln9 t n sp (s, ν, Q))) ∧ FX [84, 93, 94, 95, 96, 97, 98, 99, 100, 101, 102] [13, 14, 17, 18, 19, 20, 21, 22, 24, 25, 26, 27, 28, 29, 30, 31, 32] m m9 ∧ ∀ i, 0 ≤ i → i < 9 → m9 101 i = 0 ∨ m9 101 i = 1) xN KK ρ m [vR 84] := by
  refine gE.ofw cl_X11.2 ?_ rfl rfl (Nat.le_of_ble_eq_true rfl)
  show gT l γ μX11_line 6 0 0 _ _ KK ρ m 0 [some (vR 84), none] []
  have hR := hG.1
  have hL := hG.2.1
  have hgg := hG.g hg
  have hgp := hgg.2.1
  have hw0 := hw.1
  have hw1 := hw.2.1
  have hrg := tk_rg (t := t) hB hgp
  refine tz_aload0 (n := 1) (g_at ck_X11_line 0 rfl) rfl (g_ne kd_84) ?_
  refine tz_cvI0 (n := 4) (μ' := μX11_knownWord) (cb' := 0) (sb' := 0) ml_X11_216 mo_X11_knownWord mv_X11_knownWord np_X11_knownWord kd_84 (g_at ck_X11_line 1 rfl) (mp_knownWord hB hn hG hg) rfl rfl rfl ⟨by decide, by decide⟩ (Nat.le_of_ble_eq_true rfl) (by decide) (by decide) (fun x1 ρ9 m1 hq => ?_)
  obtain ⟨rfl, hR1, hk1, rfl⟩ := hq
  have hkr := hk1.rg
  have hk11 : ∀ k : Nat, k < 13 → x1 = (k : Int) → tK t n (sP s) = 1 := fun k h9 h8 => wd_1 ((hk1.eq h9).mp h8)
  refine tz_istore1 (n := 5) (g_at ck_X11_line 2 rfl) rfl (by decide) g_hpR ?_
  refine g_cut (T := ∀ ρ3 m3 : Mm, (q23 ρ ρ3 ∧ MR m3 ∧ GS ρ3 m3 t n (lA9 t n sp (s, ν, Q)).1 ∧ ((lA9 t n sp (s, ν, Q)).1.1 = 1 → LK m3 t n sp (sP s) (lA9 t n sp (s, ν, Q))) ∧ FX [84, 93, 94, 95, 96, 97, 98, 99, 100, 101, 102] [13, 14, 17, 18, 19, 20, 21, 22, 24, 25, 26, 27, 28, 29, 30, 31, 32] m m3 ∧ ∀ i, 0 ≤ i → i < 9 → m3 101 i = 0 ∨ m3 101 i = 1) → gT l γ μX11_line 6 0 0 (rV KK fun ρ9 m9 => q23 ρ ρ9 ∧ MR m9 ∧ GS ρ9 m9 t n (ln9 t n sp (s, ν, Q)).1 ∧ ((ln9 t n sp (s, ν, Q)).1.1 = 1 → LK m9 t n sp (sP s + 1) (ln9 t n sp (s, ν, Q))) ∧ FX [84, 93, 94, 95, 96, 97, 98, 99, 100, 101, 102] [13, 14, 17, 18, 19, 20, 21, 22, 24, 25, 26, 27, 28, 29, 30, 31, 32] m m9 ∧ ∀ i, 0 ≤ i → i < 9 → m9 101 i = 0 ∨ m9 101 i = 1) xN KK ρ3 m3 205 [some (vR 84), none] []) (fun hj205 => ?_) ?_
  · skip
    refine tz_iload1 (n := 6) (g_at ck_X11_line 3 rfl) rfl ?_
    refine tz_iconst (n := 7) (g_at ck_X11_line 4 rfl) rfl ?_
    refine tz_icmp_ne (n := 10) (tgt := 39) (g_at ck_X11_line 5 rfl) rfl rfl (by omega) (fun h7 => ?_) (fun h7 => ?_)
    · skip
      refine tz_iload1 (n := 40) (g_at ck_X11_line 20 rfl) rfl ?_
      refine tz_bipush (n := 42) (g_at ck_X11_line 21 rfl) rfl rfl ?_
      refine tz_icmp_ne (n := 45) (tgt := 61) (g_at ck_X11_line 22 rfl) rfl rfl (by omega) (fun h42 => ?_) (fun h42 => ?_)
      · skip
        refine tz_iload1 (n := 62) (g_at ck_X11_line 31 rfl) rfl ?_
        refine tz_bipush (n := 64) (g_at ck_X11_line 32 rfl) rfl rfl ?_
        refine tz_icmp_ne (n := 67) (tgt := 96) (g_at ck_X11_line 33 rfl) rfl rfl (by omega) (fun h64 => ?_) (fun h64 => ?_)
        · skip
          refine tz_iload1 (n := 97) (g_at ck_X11_line 48 rfl) rfl ?_
          refine tz_if_ne (n := 100) (tgt := 116) (g_at ck_X11_line 49 rfl) rfl rfl (by omega) (fun h97 => ?_) (fun h97 => ?_)
          · skip
            refine tz_iload1 (n := 117) (g_at ck_X11_line 58 rfl) rfl ?_
            refine tz_bipush (n := 119) (g_at ck_X11_line 59 rfl) rfl rfl ?_
            refine tz_icmp_ne (n := 122) (tgt := 158) (g_at ck_X11_line 60 rfl) rfl rfl (by omega) (fun h119 => ?_) (fun h119 => ?_)
            · skip
              refine tz_iload1 (n := 159) (g_at ck_X11_line 79 rfl) rfl ?_
              refine tz_bipush (n := 161) (g_at ck_X11_line 80 rfl) rfl rfl ?_
              refine tz_icmp_ne (n := 164) (tgt := 200) (g_at ck_X11_line 81 rfl) rfl rfl (by omega) (fun h161 => ?_) (fun h161 => ?_)
              · skip
                refine tz_aload0 (n := 201) (g_at ck_X11_line 100 rfl) rfl (g_ne kd_84) ?_
                refine tz_iconst (n := 202) (g_at ck_X11_line 101 rfl) rfl ?_
                refine tz_cvV1 (n := 205) (μ' := μX11_wrong) (cb' := 0) (sb' := 0) ml_X11_198 mo_X11_wrong mv_X11_wrong np_X11_wrong kd_84 (g_at ck_X11_line 102 rfl) (mp_wrong hB hn hG hg (by decide)) rfl rfl rfl ⟨by decide, by decide⟩ (Nat.le_of_ble_eq_true rfl) (by decide) (by decide) (fun ρ9 m202 hq => ?_)
                obtain ⟨rfl, hR2, hG202, hX202⟩ := hq
                refine tz_drop1 ?_
                have eA := lA_N (sp := sp) (ν := ν) (Q := Q) (fun h9 => by have h8 := (hk1.eq (k := 5) (by decide)).mpr h9; omega) (fun h9 => by have h8 := (hk1.eq (k := 6) (by decide)).mpr h9; omega) (fun h9 => by have h8 := (hk1.eq (k := 7) (by decide)).mpr h9; omega) (fun h9 => by have h8 := (hk1.eq (k := 0) (by decide)).mpr h9; omega) (fun h9 => by have h8 := (hk1.eq (k := 8) (by decide)).mpr h9; omega) (fun h9 => by have h8 := (hk1.eq (k := 9) (by decide)).mpr h9; omega)
                exact hj205 _ _ ⟨q23.rf, hR2, by rw [eA]; exact hG202, by rw [eA]; exact (fun h9 => absurd h9 fl_n), (hX202.sub (by decide) (by decide)), (fun i i1 i2 => by rw [hX202.1 101 (by decide)]; exact h101 i i1 i2)⟩
              · skip
                have hk8 := hk11 9 (by decide) (by omega)
                have hq8 := hrg.2.2.2 (by omega)
                refine tz_aload0 (n := 165) (g_at ck_X11_line 82 rfl) rfl (g_ne kd_84) ?_
                refine tz_iconst (n := 166) (g_at ck_X11_line 83 rfl) rfl ?_
                refine tz_aload0 (n := 167) (g_at ck_X11_line 84 rfl) rfl (g_ne kd_84) ?_
                refine tz_getIw (n := 170) (kz := 27) fk_X11_289 kd_84 (g_at ck_X11_line 85 rfl) rfl rfl ?_
                refine tz_iconst (n := 171) (g_at ck_X11_line 86 rfl) rfl ?_
                refine tz_icmp_eq (n := 174) (tgt := 178) (g_at ck_X11_line 87 rfl) rfl rfl (by have h9 := hR 84 27; omega) (fun h171 => ?_) (fun h171 => ?_)
                · skip
                  refine tz_iconst (n := 179) (g_at ck_X11_line 90 rfl) rfl ?_
                  refine tz_cvI2 (n := 182) (μ' := μX11_begins) (cb' := 0) (sb' := 0) ml_X11_267 mo_X11_begins mv_X11_begins np_X11_begins kd_84 (g_at ck_X11_line 91 rfl) (mp_begins hB hn hG hg (by decide) (by decide) (by decide)) rfl rfl rfl ⟨by decide, by decide⟩ (Nat.le_of_ble_eq_true rfl) (by decide) (by decide) (fun x179 ρ9 m179 hq => ?_)
                  obtain ⟨hq179, hR3, hG179, hX179, hx179⟩ := hq
                  have hbg : bg9 t n 0 0 s = nx9 t n s := (if_neg (by decide)).trans (if_neg (by decide))
                  rw [hbg] at hx179
                  have hbx : x179 = 1 := by rw [← hx179]; exact hg
                  refine tz_if_eq (n := 185) (tgt := 205) (g_at ck_X11_line 92 rfl) rfl rfl (by omega) (fun h182 => absurd h182 (by omega)) (fun h182 => ?_)
                  rw [hbg] at hG179
                  have hQ0 : Q (sp + 9) = [] := List.eq_nil_of_length_eq_zero (hr2.ne.mp (by omega))
                  have hL := hG179.2.1
                  refine tz_aload0 (n := 186) (g_at ck_X11_line 93 rfl) rfl (g_ne kd_84) ?_
                  refine tz_aload0 (n := 187) (g_at ck_X11_line 94 rfl) rfl (g_ne kd_84) ?_
                  refine tz_getIw (n := 190) (kz := 28) fk_X11_201 kd_84 (g_at ck_X11_line 95 rfl) rfl rfl ?_
                  rw [show m179 84 28 = m 84 28 from hX179.2 28 (by decide)]
                  refine tz_putIr (n := 193) (kz := 27) fk_X11_289 kd_84 (g_at ck_X11_line 96 rfl) rfl hR3 (by omega) rfl (fun hR4 => ?_)
                  have hGe : GS _ _ t n (nx9 t n (wL9 (Q (sp + 9)) s)) := (hG179.x (L := [84]) (ks := [27]) hR4 rfl (FX.rf.w (by decide) (fun _ => by decide)) (by decide) (by decide)).c rfl (fun _ => rfl) (fun h9 => absurd h9 (by show ¬ s.1 = 0; omega))
                  have h28e : (wr m179 84 27 (m 84 28)) 84 28 = m 84 28 := by rw [wr_at, if_neg (by decide), hX179.2 28 (by decide)]
                  have h101e : ∀ i, 0 ≤ i → i < 9 → (wr m179 84 27 (m 84 28)) 101 i = 0 ∨ (wr m179 84 27 (m 84 28)) 101 i = 1 := by rw [wr_ne (by decide), hX179.1 101 (by decide)]; exact h101
                  refine tz_aload0 (n := 194) (g_at ck_X11_line 97 rfl) rfl (g_ne kd_84) ?_
                  refine tz_cvV0 (n := 197) (μ' := μX11_expression) (cb' := 0) (sb' := 0) ml_X11_286 mo_X11_expression mv_X11_expression np_X11_expression kd_84 (g_at ck_X11_line 98 rfl) (mp_expression hB hn hGe hg h28e (show 0 ≤ m 84 28 ∧ m 84 28 + 2 ≤ 2 * tQ t n (sP s) by omega) (show ((Q (sp + 9)).length : Int) ≤ tQ t n (sP s) by rw [hQ0]; show ((0 : Nat) : Int) ≤ tQ t n (sP s); omega) h101e) rfl rfl rfl ⟨by decide, by decide⟩ (Nat.le_of_ble_eq_true rfl) (by decide) (by decide) (fun ρ9 m194 hq => ?_)
                  obtain ⟨hq194, hR5, hG194, hX194, hb194, h1194, hN194⟩ := hq
                  obtain ⟨X9, hXX⟩ : ∃ X9, X9 = xk t n 6 (nx9 t n (wL9 (Q (sp + 9)) s)) := ⟨_, rfl⟩
                  rw [← hXX] at hG194 hN194
                  refine tz_goto (tgt := 205) (g_at ck_X11_line 99 rfl) rfl ?_
                  refine tz_drop1 ?_
                  have er : rU9 t n (sp + 9) s Q = (X9, upQ Q (sp + 9) (sL X9)) := by rw [hXX]; exact if_pos (by rw [hQ0]; rfl)
                  have eA := (lA_T (sp := sp) (ν := ν) (Q := Q) (fun h9 => by have h8 := (hk1.eq (k := 5) (by decide)).mpr h9; omega) (fun h9 => by have h8 := (hk1.eq (k := 6) (by decide)).mpr h9; omega) (fun h9 => by have h8 := (hk1.eq (k := 7) (by decide)).mpr h9; omega) (fun h9 => by have h8 := (hk1.eq (k := 0) (by decide)).mpr h9; omega) (fun h9 => by have h8 := (hk1.eq (k := 8) (by decide)).mpr h9; omega) ((hk1.eq (k := 9) (by decide)).mp (by omega))).trans (show _ = (X9, ν, upQ Q (sp + 9) (sL X9)) by rw [er])
                  exact hj205 _ _ ⟨hq179.tr hq194, hR5, by rw [eA]; exact hG194, by rw [eA]; exact (fun h9 => by obtain ⟨N, n1, n2, n3, n4, n5c, n6, n7, n8⟩ := hN194 h9; have hgx := (hG194.g h9).2.1; have hsx : sP (nx9 t n (wL9 (Q (sp + 9)) s)) = tQ t n (sP s) := rfl; exact ⟨⟨((hN.x hX179 (by decide) (by decide)).x (L := [84]) (ks := [27]) (FX.rf.w (by decide) (fun _ => by decide)) (by decide) (by decide)).x hX194 (by decide) (by decide), hw⟩, ⟨by show RU _ 26 (upQ Q (sp + 9) (sL X9) (sp + 6)); rw [(show upQ Q (sp + 9) (sL X9) (sp + 6) = Q (sp + 6) from if_neg (by omega))]; exact (hr1.x (b := m 84 28) (by rw [hX194.2 26 (by decide), wr_at, if_neg (by decide), hX179.2 26 (by decide)]) (((below.x hX179 (by decide)).tr (below.x (L := [84]) (ks := [27]) (FX.rf.w (by decide) (fun _ => by decide)) (by decide))).tr hb194) (Int.le_refl _) (by rw [n5c.1]; omega)), by show RU _ 27 (upQ Q (sp + 9) (sL X9) (sp + 9)); rw [(show upQ Q (sp + 9) (sL X9) (sp + 9) = N by rw [show upQ Q (sp + 9) (sL X9) (sp + 9) = sL X9 from if_pos rfl, n1, show sL (nx9 t n (wL9 (Q (sp + 9)) s)) = Q (sp + 9) from rfl, hQ0]; rfl)]; exact (RU.nw (b := m 84 28) (by rw [hX194.2 27 (by decide), wr_same]) htop.1 n5c n4 n2 n3 (by have h8 := hgx; omega))⟩, ⟨by rw [n5c.1]; omega, n7⟩, by show sP s ≤ sP X9; omega⟩), (((hX179.sub (by decide) (by decide)).w (by decide) (fun _ => by decide)).tr (hX194.sub (by decide) (by decide))), h1194⟩
                · skip
                  refine tz_iconst (n := 175) (g_at ck_X11_line 88 rfl) rfl ?_
                  refine tz_goto (tgt := 179) (g_at ck_X11_line 89 rfl) rfl ?_
                  refine tz_cvI2 (n := 182) (μ' := μX11_begins) (cb' := 0) (sb' := 0) ml_X11_267 mo_X11_begins mv_X11_begins np_X11_begins kd_84 (g_at ck_X11_line 91 rfl) (mp_begins hB hn hG hg (by decide) (by decide) (by decide)) rfl rfl rfl ⟨by decide, by decide⟩ (Nat.le_of_ble_eq_true rfl) (by decide) (by decide) (fun x179 ρ9 m179 hq => ?_)
                  obtain ⟨hq179, hR6, hG179, hX179, hx179⟩ := hq
                  have hbg : bg9 t n 0 1 s = fl9 t n 5 s := (if_neg (by decide)).trans (if_pos rfl)
                  rw [hbg] at hx179
                  have hbx : x179 = 0 := by rw [← hx179]; exact rfl
                  refine tz_if_eq (n := 185) (tgt := 205) (g_at ck_X11_line 92 rfl) rfl rfl (by omega) (fun h182 => ?_) (fun h182 => absurd h182 (by omega))
                  refine tz_drop1 ?_
                  have er : rU9 t n (sp + 9) s Q = (fl9 t n 5 s, Q) := if_neg (fun h9 => by have h8 := hr2.ne.mpr h9; omega)
                  have eA := lA_T (sp := sp) (ν := ν) (Q := Q) (fun h9 => by have h8 := (hk1.eq (k := 5) (by decide)).mpr h9; omega) (fun h9 => by have h8 := (hk1.eq (k := 6) (by decide)).mpr h9; omega) (fun h9 => by have h8 := (hk1.eq (k := 7) (by decide)).mpr h9; omega) (fun h9 => by have h8 := (hk1.eq (k := 0) (by decide)).mpr h9; omega) (fun h9 => by have h8 := (hk1.eq (k := 8) (by decide)).mpr h9; omega) ((hk1.eq (k := 9) (by decide)).mp (by omega))
                  exact hj205 _ _ ⟨hq179, hR6, by rw [eA]; exact (by rw [er]; rw [hbg] at hG179; exact hG179), by rw [eA]; exact (fun h9 => absurd h9 (by rw [er]; exact fl_n)), (hX179.sub (by decide) (by decide)), (fun i i1 i2 => by rw [hX179.1 101 (by decide)]; exact h101 i i1 i2)⟩
            · skip
              have hk8 := hk11 8 (by decide) (by omega)
              have hq8 := hrg.2.2.2 (by omega)
              refine tz_aload0 (n := 123) (g_at ck_X11_line 61 rfl) rfl (g_ne kd_84) ?_
              refine tz_iconst (n := 124) (g_at ck_X11_line 62 rfl) rfl ?_
              refine tz_aload0 (n := 125) (g_at ck_X11_line 63 rfl) rfl (g_ne kd_84) ?_
              refine tz_getIw (n := 128) (kz := 26) fk_X11_283 kd_84 (g_at ck_X11_line 64 rfl) rfl rfl ?_
              refine tz_iconst (n := 129) (g_at ck_X11_line 65 rfl) rfl ?_
              refine tz_icmp_eq (n := 132) (tgt := 136) (g_at ck_X11_line 66 rfl) rfl rfl (by have h9 := hR 84 26; omega) (fun h129 => ?_) (fun h129 => ?_)
              · skip
                refine tz_iconst (n := 137) (g_at ck_X11_line 69 rfl) rfl ?_
                refine tz_cvI2 (n := 140) (μ' := μX11_begins) (cb' := 0) (sb' := 0) ml_X11_267 mo_X11_begins mv_X11_begins np_X11_begins kd_84 (g_at ck_X11_line 70 rfl) (mp_begins hB hn hG hg (by decide) (by decide) (by decide)) rfl rfl rfl ⟨by decide, by decide⟩ (Nat.le_of_ble_eq_true rfl) (by decide) (by decide) (fun x137 ρ9 m137 hq => ?_)
                obtain ⟨hq137, hR7, hG137, hX137, hx137⟩ := hq
                have hbg : bg9 t n 0 0 s = nx9 t n s := (if_neg (by decide)).trans (if_neg (by decide))
                rw [hbg] at hx137
                have hbx : x137 = 1 := by rw [← hx137]; exact hg
                refine tz_if_eq (n := 143) (tgt := 205) (g_at ck_X11_line 71 rfl) rfl rfl (by omega) (fun h140 => absurd h140 (by omega)) (fun h140 => ?_)
                rw [hbg] at hG137
                have hQ0 : Q (sp + 6) = [] := List.eq_nil_of_length_eq_zero (hr1.ne.mp (by omega))
                have hL := hG137.2.1
                refine tz_aload0 (n := 144) (g_at ck_X11_line 72 rfl) rfl (g_ne kd_84) ?_
                refine tz_aload0 (n := 145) (g_at ck_X11_line 73 rfl) rfl (g_ne kd_84) ?_
                refine tz_getIw (n := 148) (kz := 28) fk_X11_201 kd_84 (g_at ck_X11_line 74 rfl) rfl rfl ?_
                rw [show m137 84 28 = m 84 28 from hX137.2 28 (by decide)]
                refine tz_putIr (n := 151) (kz := 26) fk_X11_283 kd_84 (g_at ck_X11_line 75 rfl) rfl hR7 (by omega) rfl (fun hR8 => ?_)
                have hGe : GS _ _ t n (nx9 t n (wL9 (Q (sp + 6)) s)) := (hG137.x (L := [84]) (ks := [26]) hR8 rfl (FX.rf.w (by decide) (fun _ => by decide)) (by decide) (by decide)).c rfl (fun _ => rfl) (fun h9 => absurd h9 (by show ¬ s.1 = 0; omega))
                have h28e : (wr m137 84 26 (m 84 28)) 84 28 = m 84 28 := by rw [wr_at, if_neg (by decide), hX137.2 28 (by decide)]
                have h101e : ∀ i, 0 ≤ i → i < 9 → (wr m137 84 26 (m 84 28)) 101 i = 0 ∨ (wr m137 84 26 (m 84 28)) 101 i = 1 := by rw [wr_ne (by decide), hX137.1 101 (by decide)]; exact h101
                refine tz_aload0 (n := 152) (g_at ck_X11_line 76 rfl) rfl (g_ne kd_84) ?_
                refine tz_cvV0 (n := 155) (μ' := μX11_expression) (cb' := 0) (sb' := 0) ml_X11_286 mo_X11_expression mv_X11_expression np_X11_expression kd_84 (g_at ck_X11_line 77 rfl) (mp_expression hB hn hGe hg h28e (show 0 ≤ m 84 28 ∧ m 84 28 + 2 ≤ 2 * tQ t n (sP s) by omega) (show ((Q (sp + 6)).length : Int) ≤ tQ t n (sP s) by rw [hQ0]; show ((0 : Nat) : Int) ≤ tQ t n (sP s); omega) h101e) rfl rfl rfl ⟨by decide, by decide⟩ (Nat.le_of_ble_eq_true rfl) (by decide) (by decide) (fun ρ9 m152 hq => ?_)
                obtain ⟨hq152, hR9, hG152, hX152, hb152, h1152, hN152⟩ := hq
                obtain ⟨X9, hXX⟩ : ∃ X9, X9 = xk t n 6 (nx9 t n (wL9 (Q (sp + 6)) s)) := ⟨_, rfl⟩
                rw [← hXX] at hG152 hN152
                refine tz_goto (tgt := 205) (g_at ck_X11_line 78 rfl) rfl ?_
                refine tz_drop1 ?_
                have er : rU9 t n (sp + 6) s Q = (X9, upQ Q (sp + 6) (sL X9)) := by rw [hXX]; exact if_pos (by rw [hQ0]; rfl)
                have eA := (lA_H (sp := sp) (ν := ν) (Q := Q) (fun h9 => by have h8 := (hk1.eq (k := 5) (by decide)).mpr h9; omega) (fun h9 => by have h8 := (hk1.eq (k := 6) (by decide)).mpr h9; omega) (fun h9 => by have h8 := (hk1.eq (k := 7) (by decide)).mpr h9; omega) (fun h9 => by have h8 := (hk1.eq (k := 0) (by decide)).mpr h9; omega) ((hk1.eq (k := 8) (by decide)).mp (by omega))).trans (show _ = (X9, ν, upQ Q (sp + 6) (sL X9)) by rw [er])
                exact hj205 _ _ ⟨hq137.tr hq152, hR9, by rw [eA]; exact hG152, by rw [eA]; exact (fun h9 => by obtain ⟨N, n1, n2, n3, n4, n5c, n6, n7, n8⟩ := hN152 h9; have hgx := (hG152.g h9).2.1; have hsx : sP (nx9 t n (wL9 (Q (sp + 6)) s)) = tQ t n (sP s) := rfl; exact ⟨⟨((hN.x hX137 (by decide) (by decide)).x (L := [84]) (ks := [26]) (FX.rf.w (by decide) (fun _ => by decide)) (by decide) (by decide)).x hX152 (by decide) (by decide), hw⟩, ⟨by show RU _ 26 (upQ Q (sp + 6) (sL X9) (sp + 6)); rw [(show upQ Q (sp + 6) (sL X9) (sp + 6) = N by rw [show upQ Q (sp + 6) (sL X9) (sp + 6) = sL X9 from if_pos rfl, n1, show sL (nx9 t n (wL9 (Q (sp + 6)) s)) = Q (sp + 6) from rfl, hQ0]; rfl)]; exact (RU.nw (b := m 84 28) (by rw [hX152.2 26 (by decide), wr_same]) htop.1 n5c n4 n2 n3 (by have h8 := hgx; omega)), by show RU _ 27 (upQ Q (sp + 6) (sL X9) (sp + 9)); rw [(show upQ Q (sp + 6) (sL X9) (sp + 9) = Q (sp + 9) from if_neg (by omega))]; exact (hr2.x (b := m 84 28) (by rw [hX152.2 27 (by decide), wr_at, if_neg (by decide), hX137.2 27 (by decide)]) (((below.x hX137 (by decide)).tr (below.x (L := [84]) (ks := [26]) (FX.rf.w (by decide) (fun _ => by decide)) (by decide))).tr hb152) (Int.le_refl _) (by rw [n5c.1]; omega))⟩, ⟨by rw [n5c.1]; omega, n7⟩, by show sP s ≤ sP X9; omega⟩), (((hX137.sub (by decide) (by decide)).w (by decide) (fun _ => by decide)).tr (hX152.sub (by decide) (by decide))), h1152⟩
              · skip
                refine tz_iconst (n := 133) (g_at ck_X11_line 67 rfl) rfl ?_
                refine tz_goto (tgt := 137) (g_at ck_X11_line 68 rfl) rfl ?_
                refine tz_cvI2 (n := 140) (μ' := μX11_begins) (cb' := 0) (sb' := 0) ml_X11_267 mo_X11_begins mv_X11_begins np_X11_begins kd_84 (g_at ck_X11_line 70 rfl) (mp_begins hB hn hG hg (by decide) (by decide) (by decide)) rfl rfl rfl ⟨by decide, by decide⟩ (Nat.le_of_ble_eq_true rfl) (by decide) (by decide) (fun x137 ρ9 m137 hq => ?_)
                obtain ⟨hq137, hR10, hG137, hX137, hx137⟩ := hq
                have hbg : bg9 t n 0 1 s = fl9 t n 5 s := (if_neg (by decide)).trans (if_pos rfl)
                rw [hbg] at hx137
                have hbx : x137 = 0 := by rw [← hx137]; exact rfl
                refine tz_if_eq (n := 143) (tgt := 205) (g_at ck_X11_line 71 rfl) rfl rfl (by omega) (fun h140 => ?_) (fun h140 => absurd h140 (by omega))
                refine tz_drop1 ?_
                have er : rU9 t n (sp + 6) s Q = (fl9 t n 5 s, Q) := if_neg (fun h9 => by have h8 := hr1.ne.mpr h9; omega)
                have eA := lA_H (sp := sp) (ν := ν) (Q := Q) (fun h9 => by have h8 := (hk1.eq (k := 5) (by decide)).mpr h9; omega) (fun h9 => by have h8 := (hk1.eq (k := 6) (by decide)).mpr h9; omega) (fun h9 => by have h8 := (hk1.eq (k := 7) (by decide)).mpr h9; omega) (fun h9 => by have h8 := (hk1.eq (k := 0) (by decide)).mpr h9; omega) ((hk1.eq (k := 8) (by decide)).mp (by omega))
                exact hj205 _ _ ⟨hq137, hR10, by rw [eA]; exact (by rw [er]; rw [hbg] at hG137; exact hG137), by rw [eA]; exact (fun h9 => absurd h9 (by rw [er]; exact fl_n)), (hX137.sub (by decide) (by decide)), (fun i i1 i2 => by rw [hX137.1 101 (by decide)]; exact h101 i i1 i2)⟩
          · skip
            refine tz_aload0 (n := 101) (g_at ck_X11_line 50 rfl) rfl (g_ne kd_84) ?_
            refine tz_iconst (n := 102) (g_at ck_X11_line 51 rfl) rfl ?_
            refine tz_iconst (n := 103) (g_at ck_X11_line 52 rfl) rfl ?_
            refine tz_cvI2 (n := 106) (μ' := μX11_begins) (cb' := 0) (sb' := 0) ml_X11_267 mo_X11_begins mv_X11_begins np_X11_begins kd_84 (g_at ck_X11_line 53 rfl) (mp_begins hB hn hG hg (by decide) (by decide) (by decide)) rfl rfl rfl ⟨by decide, by decide⟩ (Nat.le_of_ble_eq_true rfl) (by decide) (by decide) (fun x103 ρ9 m103 hq => ?_)
            obtain ⟨hq103, hR11, hG103, hX103, hx103⟩ := hq
            have hbg : bg9 t n 0 0 s = nx9 t n s := (if_neg (by decide)).trans (if_neg (by decide))
            rw [hbg] at hx103
            have hbx : x103 = 1 := by rw [← hx103]; exact hg
            refine tz_if_eq (n := 109) (tgt := 205) (g_at ck_X11_line 54 rfl) rfl rfl (by omega) (fun h106 => absurd h106 (by omega)) (fun h106 => ?_)
            rw [hbg] at hG103
            have hGb := hG103
            have hNb := hN.x hX103 (by decide) (by decide)
            refine tz_aload0 (n := 110) (g_at ck_X11_line 55 rfl) rfl (g_ne kd_84) ?_
            refine tz_cvV0 (n := 113) (μ' := μX11_readsArm) (cb' := 0) (sb' := 0) ml_X11_280 mo_X11_readsArm mv_X11_readsArm np_X11_readsArm kd_84 (g_at ck_X11_line 56 rfl) (mp_readsArm hB hn hGb hg hNb hw) rfl rfl rfl ⟨by decide, by decide⟩ (Nat.le_of_ble_eq_true rfl) (by decide) (by decide) (fun ρ9 m110 hq => ?_)
            obtain ⟨hq110, hR12, hG110, hN110, hX110⟩ := hq
            refine tz_goto (tgt := 205) (g_at ck_X11_line 57 rfl) rfl ?_
            refine tz_drop1 ?_
            have eA := lA_A (sp := sp) (ν := ν) (Q := Q) (fun h9 => by have h8 := (hk1.eq (k := 5) (by decide)).mpr h9; omega) (fun h9 => by have h8 := (hk1.eq (k := 6) (by decide)).mpr h9; omega) (fun h9 => by have h8 := (hk1.eq (k := 7) (by decide)).mpr h9; omega) ((hk1.eq (k := 0) (by decide)).mp (by omega))
            exact hj205 _ _ ⟨hq103.tr hq110, hR12, by rw [eA]; exact hG110, by rw [eA]; exact (fun h9 => ⟨hN110 h9, ⟨(hr1.k hX103 (by decide) (by decide) (by decide)).k hX110 (by decide) (by decide) (by decide), (hr2.k hX103 (by decide) (by decide) (by decide)).k hX110 (by decide) (by decide) (by decide)⟩, by rw [hX110.2 28 (by decide), hX103.2 28 (by decide)]; have h8 := rA_p hB hgg.2.1 h9; show 0 ≤ m 84 28 ∧ m 84 28 ≤ 2 * sP (rA9 t n s ν).1; omega, by have h8 := rA_p hB hgg.2.1 h9; exact h8⟩), ((hX103.sub (by decide) (by decide)).tr (hX110.sub (by decide) (by decide))), (fun i i1 i2 => by rw [hX110.1 101 (by decide), hX103.1 101 (by decide)]; exact h101 i i1 i2)⟩
        · skip
          refine tz_aload0 (n := 68) (g_at ck_X11_line 34 rfl) rfl (g_ne kd_84) ?_
          refine tz_aload0 (n := 69) (g_at ck_X11_line 35 rfl) rfl (g_ne kd_84) ?_
          refine tz_getIw (n := 72) (kz := 25) fk_X11_264 kd_84 (g_at ck_X11_line 36 rfl) rfl rfl ?_
          rw [hN.1.2]
          refine tz_bipush (n := 74) (g_at ck_X11_line 37 rfl) rfl rfl ?_
          refine tz_icmp_ne (n := 77) (tgt := 81) (g_at ck_X11_line 38 rfl) rfl rfl (by omega) (fun h74 => ?_) (fun h74 => ?_)
          · skip
            refine tz_iconst (n := 82) (g_at ck_X11_line 41 rfl) rfl ?_
            refine tz_iconst (n := 83) (g_at ck_X11_line 42 rfl) rfl ?_
            refine tz_cvI2 (n := 86) (μ' := μX11_begins) (cb' := 0) (sb' := 0) ml_X11_267 mo_X11_begins mv_X11_begins np_X11_begins kd_84 (g_at ck_X11_line 43 rfl) (mp_begins hB hn hG hg (by decide) (by decide) (by decide)) rfl rfl rfl ⟨by decide, by decide⟩ (Nat.le_of_ble_eq_true rfl) (by decide) (by decide) (fun x83 ρ9 m83 hq => ?_)
            obtain ⟨hq83, hR13, hG83, hX83, hx83⟩ := hq
            have hbg : bg9 t n 0 0 s = nx9 t n s := (if_neg (by decide)).trans (if_neg (by decide))
            rw [hbg] at hx83
            have hbx : x83 = 1 := by rw [← hx83]; exact hg
            refine tz_if_eq (n := 89) (tgt := 205) (g_at ck_X11_line 44 rfl) rfl rfl (by omega) (fun h86 => absurd h86 (by omega)) (fun h86 => ?_)
            rw [hbg] at hG83
            have hGb := hG83
            have hNb := hN.x hX83 (by decide) (by decide)
            refine tz_aload0 (n := 90) (g_at ck_X11_line 45 rfl) rfl (g_ne kd_84) ?_
            refine tz_cvV0 (n := 93) (μ' := μX11_readsPerson) (cb' := 0) (sb' := 0) ml_X11_277 mo_X11_readsPerson mv_X11_readsPerson np_X11_readsPerson kd_84 (g_at ck_X11_line 46 rfl) (mp_readsPerson hB hn hGb hg hNb hw (by omega)) rfl rfl rfl ⟨by decide, by decide⟩ (Nat.le_of_ble_eq_true rfl) (by decide) (by decide) (fun ρ9 m90 hq => ?_)
            obtain ⟨hq90, hR14, hG90, hN90, hX90⟩ := hq
            refine tz_goto (tgt := 205) (g_at ck_X11_line 47 rfl) rfl ?_
            refine tz_drop1 ?_
            have eA := lA_P (sp := sp) (ν := ν) (Q := Q) (fun h9 => by have h8 := (hk1.eq (k := 5) (by decide)).mpr h9; omega) (fun h9 => by have h8 := (hk1.eq (k := 6) (by decide)).mpr h9; omega) ((hk1.eq (k := 7) (by decide)).mp (by omega))
            exact hj205 _ _ ⟨hq83.tr hq90, hR14, by rw [eA]; exact hG90, by rw [eA]; exact (fun h9 => ⟨hN90 h9, ⟨(hr1.k hX83 (by decide) (by decide) (by decide)).k hX90 (by decide) (by decide) (by decide), (hr2.k hX83 (by decide) (by decide) (by decide)).k hX90 (by decide) (by decide) (by decide)⟩, by rw [hX90.2 28 (by decide), hX83.2 28 (by decide)]; have h8 := rP_p hB hgg.2.1 h9; show 0 ≤ m 84 28 ∧ m 84 28 ≤ 2 * sP (rP9 t n s ν).1; omega, by have h8 := rP_p hB hgg.2.1 h9; exact h8⟩), ((hX83.sub (by decide) (by decide)).tr (hX90.sub (by decide) (by decide))), (fun i i1 i2 => by rw [hX90.1 101 (by decide), hX83.1 101 (by decide)]; exact h101 i i1 i2)⟩
          · skip
            refine tz_iconst (n := 78) (g_at ck_X11_line 39 rfl) rfl ?_
            refine tz_goto (tgt := 82) (g_at ck_X11_line 40 rfl) rfl ?_
            refine tz_iconst (n := 83) (g_at ck_X11_line 42 rfl) rfl ?_
            refine tz_cvI2 (n := 86) (μ' := μX11_begins) (cb' := 0) (sb' := 0) ml_X11_267 mo_X11_begins mv_X11_begins np_X11_begins kd_84 (g_at ck_X11_line 43 rfl) (mp_begins hB hn hG hg (by decide) (by decide) (by decide)) rfl rfl rfl ⟨by decide, by decide⟩ (Nat.le_of_ble_eq_true rfl) (by decide) (by decide) (fun x83 ρ9 m83 hq => ?_)
            obtain ⟨hq83, hR15, hG83, hX83, hx83⟩ := hq
            have hbg : bg9 t n 1 0 s = fl9 t n 2 s := if_pos rfl
            rw [hbg] at hx83
            have hbx : x83 = 0 := by rw [← hx83]; exact rfl
            refine tz_if_eq (n := 89) (tgt := 205) (g_at ck_X11_line 44 rfl) rfl rfl (by omega) (fun h86 => ?_) (fun h86 => absurd h86 (by omega))
            refine tz_drop1 ?_
            have er : rP9 t n s ν = (fl9 t n 2 s, ν) := if_pos (by omega)
            have eA := lA_P (sp := sp) (ν := ν) (Q := Q) (fun h9 => by have h8 := (hk1.eq (k := 5) (by decide)).mpr h9; omega) (fun h9 => by have h8 := (hk1.eq (k := 6) (by decide)).mpr h9; omega) ((hk1.eq (k := 7) (by decide)).mp (by omega))
            exact hj205 _ _ ⟨hq83, hR15, by rw [eA]; exact (by rw [er]; rw [hbg] at hG83; exact hG83), by rw [eA]; exact (fun h9 => absurd h9 (by rw [er]; exact fl_n)), (hX83.sub (by decide) (by decide)), (fun i i1 i2 => by rw [hX83.1 101 (by decide)]; exact h101 i i1 i2)⟩
      · skip
        refine tz_aload0 (n := 46) (g_at ck_X11_line 23 rfl) rfl (g_ne kd_84) ?_
        refine tz_iconst (n := 47) (g_at ck_X11_line 24 rfl) rfl ?_
        refine tz_iconst (n := 48) (g_at ck_X11_line 25 rfl) rfl ?_
        refine tz_cvI2 (n := 51) (μ' := μX11_begins) (cb' := 0) (sb' := 0) ml_X11_267 mo_X11_begins mv_X11_begins np_X11_begins kd_84 (g_at ck_X11_line 26 rfl) (mp_begins hB hn hG hg (by decide) (by decide) (by decide)) rfl rfl rfl ⟨by decide, by decide⟩ (Nat.le_of_ble_eq_true rfl) (by decide) (by decide) (fun x48 ρ9 m48 hq => ?_)
        obtain ⟨hq48, hR16, hG48, hX48, hx48⟩ := hq
        have hbg : bg9 t n 0 0 s = nx9 t n s := (if_neg (by decide)).trans (if_neg (by decide))
        rw [hbg] at hx48
        have hbx : x48 = 1 := by rw [← hx48]; exact hg
        refine tz_if_eq (n := 54) (tgt := 205) (g_at ck_X11_line 27 rfl) rfl rfl (by omega) (fun h51 => absurd h51 (by omega)) (fun h51 => ?_)
        rw [hbg] at hG48
        have hGb := hG48
        have hNb := hN.x hX48 (by decide) (by decide)
        refine tz_aload0 (n := 55) (g_at ck_X11_line 28 rfl) rfl (g_ne kd_84) ?_
        refine tz_cvV0 (n := 58) (μ' := μX11_readsRoad) (cb' := 0) (sb' := 0) ml_X11_274 mo_X11_readsRoad mv_X11_readsRoad np_X11_readsRoad kd_84 (g_at ck_X11_line 29 rfl) (mp_readsRoad hB hn hGb hg hNb hw) rfl rfl rfl ⟨by decide, by decide⟩ (Nat.le_of_ble_eq_true rfl) (by decide) (by decide) (fun ρ9 m55 hq => ?_)
        obtain ⟨hq55, hR17, hG55, hN55, hX55⟩ := hq
        refine tz_goto (tgt := 205) (g_at ck_X11_line 30 rfl) rfl ?_
        refine tz_drop1 ?_
        have eA := lA_R (sp := sp) (ν := ν) (Q := Q) (fun h9 => by have h8 := (hk1.eq (k := 5) (by decide)).mpr h9; omega) ((hk1.eq (k := 6) (by decide)).mp (by omega))
        exact hj205 _ _ ⟨hq48.tr hq55, hR17, by rw [eA]; exact hG55, by rw [eA]; exact (fun h9 => ⟨hN55 h9, ⟨(hr1.k hX48 (by decide) (by decide) (by decide)).k hX55 (by decide) (by decide) (by decide), (hr2.k hX48 (by decide) (by decide) (by decide)).k hX55 (by decide) (by decide) (by decide)⟩, by rw [hX55.2 28 (by decide), hX48.2 28 (by decide)]; have h8 := rR_p hB hgg.2.1 h9; show 0 ≤ m 84 28 ∧ m 84 28 ≤ 2 * sP (rR9 t n s ν).1; omega, by have h8 := rR_p hB hgg.2.1 h9; exact h8⟩), ((hX48.sub (by decide) (by decide)).tr (hX55.sub (by decide) (by decide))), (fun i i1 i2 => by rw [hX55.1 101 (by decide), hX48.1 101 (by decide)]; exact h101 i i1 i2)⟩
    · skip
      refine tz_aload0 (n := 11) (g_at ck_X11_line 6 rfl) rfl (g_ne kd_84) ?_
      refine tz_aload0 (n := 12) (g_at ck_X11_line 7 rfl) rfl (g_ne kd_84) ?_
      refine tz_getIw (n := 15) (kz := 24) fk_X11_254 kd_84 (g_at ck_X11_line 8 rfl) rfl rfl ?_
      rw [hN.1.1]
      refine tz_bipush (n := 17) (g_at ck_X11_line 9 rfl) rfl rfl ?_
      refine tz_icmp_ne (n := 20) (tgt := 24) (g_at ck_X11_line 10 rfl) rfl rfl (by omega) (fun h17 => ?_) (fun h17 => ?_)
      · skip
        refine tz_iconst (n := 25) (g_at ck_X11_line 13 rfl) rfl ?_
        refine tz_iconst (n := 26) (g_at ck_X11_line 14 rfl) rfl ?_
        refine tz_cvI2 (n := 29) (μ' := μX11_begins) (cb' := 0) (sb' := 0) ml_X11_267 mo_X11_begins mv_X11_begins np_X11_begins kd_84 (g_at ck_X11_line 15 rfl) (mp_begins hB hn hG hg (by decide) (by decide) (by decide)) rfl rfl rfl ⟨by decide, by decide⟩ (Nat.le_of_ble_eq_true rfl) (by decide) (by decide) (fun x26 ρ9 m26 hq => ?_)
        obtain ⟨hq26, hR18, hG26, hX26, hx26⟩ := hq
        have hbg : bg9 t n 0 0 s = nx9 t n s := (if_neg (by decide)).trans (if_neg (by decide))
        rw [hbg] at hx26
        have hbx : x26 = 1 := by rw [← hx26]; exact hg
        refine tz_if_eq (n := 32) (tgt := 205) (g_at ck_X11_line 16 rfl) rfl rfl (by omega) (fun h29 => absurd h29 (by omega)) (fun h29 => ?_)
        rw [hbg] at hG26
        have hGb := hG26
        have hNb := hN.x hX26 (by decide) (by decide)
        refine tz_aload0 (n := 33) (g_at ck_X11_line 17 rfl) rfl (g_ne kd_84) ?_
        refine tz_cvV0 (n := 36) (μ' := μX11_readsCrossing) (cb' := 0) (sb' := 0) ml_X11_271 mo_X11_readsCrossing mv_X11_readsCrossing np_X11_readsCrossing kd_84 (g_at ck_X11_line 18 rfl) (mp_readsCrossing hB hn hGb hg hNb hw (by omega)) rfl rfl rfl ⟨by decide, by decide⟩ (Nat.le_of_ble_eq_true rfl) (by decide) (by decide) (fun ρ9 m33 hq => ?_)
        obtain ⟨hq33, hR19, hG33, hN33, hX33⟩ := hq
        refine tz_goto (tgt := 205) (g_at ck_X11_line 19 rfl) rfl ?_
        refine tz_drop1 ?_
        have eA := lA_C (sp := sp) (ν := ν) (Q := Q) ((hk1.eq (k := 5) (by decide)).mp (by omega))
        exact hj205 _ _ ⟨hq26.tr hq33, hR19, by rw [eA]; exact hG33, by rw [eA]; exact (fun h9 => ⟨hN33 h9, ⟨(hr1.k hX26 (by decide) (by decide) (by decide)).k hX33 (by decide) (by decide) (by decide), (hr2.k hX26 (by decide) (by decide) (by decide)).k hX33 (by decide) (by decide) (by decide)⟩, by rw [hX33.2 28 (by decide), hX26.2 28 (by decide)]; have h8 := rC_p hB hgg.2.1 h9; show 0 ≤ m 84 28 ∧ m 84 28 ≤ 2 * sP (rC9 t n s ν).1; omega, by have h8 := rC_p hB hgg.2.1 h9; exact h8⟩), ((hX26.sub (by decide) (by decide)).tr (hX33.sub (by decide) (by decide))), (fun i i1 i2 => by rw [hX33.1 101 (by decide), hX26.1 101 (by decide)]; exact h101 i i1 i2)⟩
      · skip
        refine tz_iconst (n := 21) (g_at ck_X11_line 11 rfl) rfl ?_
        refine tz_goto (tgt := 25) (g_at ck_X11_line 12 rfl) rfl ?_
        refine tz_iconst (n := 26) (g_at ck_X11_line 14 rfl) rfl ?_
        refine tz_cvI2 (n := 29) (μ' := μX11_begins) (cb' := 0) (sb' := 0) ml_X11_267 mo_X11_begins mv_X11_begins np_X11_begins kd_84 (g_at ck_X11_line 15 rfl) (mp_begins hB hn hG hg (by decide) (by decide) (by decide)) rfl rfl rfl ⟨by decide, by decide⟩ (Nat.le_of_ble_eq_true rfl) (by decide) (by decide) (fun x26 ρ9 m26 hq => ?_)
        obtain ⟨hq26, hR20, hG26, hX26, hx26⟩ := hq
        have hbg : bg9 t n 1 0 s = fl9 t n 2 s := if_pos rfl
        rw [hbg] at hx26
        have hbx : x26 = 0 := by rw [← hx26]; exact rfl
        refine tz_if_eq (n := 32) (tgt := 205) (g_at ck_X11_line 16 rfl) rfl rfl (by omega) (fun h29 => ?_) (fun h29 => absurd h29 (by omega))
        refine tz_drop1 ?_
        have er : rC9 t n s ν = (fl9 t n 2 s, ν) := if_pos (by omega)
        have eA := lA_C (sp := sp) (ν := ν) (Q := Q) ((hk1.eq (k := 5) (by decide)).mp (by omega))
        exact hj205 _ _ ⟨hq26, hR20, by rw [eA]; exact (by rw [er]; rw [hbg] at hG26; exact hG26), by rw [eA]; exact (fun h9 => absurd h9 (by rw [er]; exact fl_n)), (hX26.sub (by decide) (by decide)), (fun i i1 i2 => by rw [hX26.1 101 (by decide)]; exact h101 i i1 i2)⟩
  · intro ρ3 m3 hinv
    obtain ⟨hq3, hR3, hG3, hK3, hX3, h13⟩ := hinv
    have hL := hG3.2.1
    have hs01 := sgM_01 m3 59
    refine tz_aload0 (n := 206) (g_at ck_X11_line 103 rfl) rfl (g_ne kd_84) ?_
    refine tz_aload0 (n := 207) (g_at ck_X11_line 104 rfl) rfl (g_ne kd_84) ?_
    refine tz_bipush (n := 209) (g_at ck_X11_line 105 rfl) rfl rfl ?_
    refine tz_cvI1 (n := 212) (μ' := μX11_isSign) (cb' := 0) (sb' := 0) ml_X11_229 mo_X11_isSign mv_X11_isSign np_X11_isSign kd_84 (g_at ck_X11_line 106 rfl) (mp_isSignM hR3 (by decide)) rfl rfl rfl ⟨by decide, by decide⟩ (Nat.le_of_ble_eq_true rfl) (by decide) (by decide) (fun x209 ρ9 m209 hq => ?_)
    obtain ⟨rfl, hR21, rfl, rfl⟩ := hq
    refine tz_cvV1 (n := 215) (μ' := μX11_need) (cb' := 0) (sb' := 0) ml_X11_292 mo_X11_need mv_X11_need np_X11_need kd_84 (g_at ck_X11_line 107 rfl) (mp_need hB hn hG3 hs01 (fun h9 => hG3.sg (by decide) h9)) rfl rfl rfl ⟨by decide, by decide⟩ (Nat.le_of_ble_eq_true rfl) (by decide) (by decide) (fun ρ9 m212 hq => ?_)
    obtain ⟨hq212, hR22, hG212, hX212⟩ := hq
    exact tz_vret (g_at ck_X11_line 108 rfl) rfl (rV_mk ⟨hq3.tr hq212, hR22, by rw [ln_s]; exact hG212, fun h9 => by obtain ⟨h8, h7, e7⟩ := ln_k h9; have k := hK3 h8; rw [e7]; have gp := (hG3.g h8).2.1; have rg := tk_rg (t := t) (n := n) hB gp; have r2 := rg.2.2.2 (by omega); exact ⟨⟨k.1.1.x hX212 (by decide) (by decide), k.1.2⟩, ⟨k.2.1.1.k hX212 (by decide) (by decide) (by decide), k.2.1.2.k hX212 (by decide) (by decide) (by decide)⟩, ⟨by rw [hX212.2 28 (by decide)]; exact k.2.2.1.1, by rw [hX212.2 28 (by decide)]; have k2 := k.2.2.1.2; show m3 84 28 ≤ 2 * tQ t n (sP (lA9 t n sp (s, ν, Q)).1); omega⟩, by have k3 := k.2.2.2; show sP s + 1 ≤ tQ t n (sP (lA9 t n sp (s, ν, Q)).1); omega⟩, hX3.tr (hX212.sub (by decide) (by decide)), fun i i1 i2 => by rw [hX212.1 101 (by decide)]; exact h13 i i1 i2⟩)
