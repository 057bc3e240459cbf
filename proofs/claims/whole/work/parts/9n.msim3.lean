/-! The machine reads what the class reads: parts, whole expressions. -/
section
variable {t : Int → Int} {n : Int}
theorem stg_7 (x : Int) : stg x < 7 := by
  unfold stg
  repeat' split
  all_goals omega
theorem blw_7 : ∀ S : List Int, blw 7 S
  | [] => trivial
  | x :: _ => Or.inr (stg_7 x)
/-- nothing of this level goes on -/
def folX (t : Int → Int) (n : Int) (y : MZ) : Prop := ((((True ∧ tP9 t n (sP (zs y)) = 0) ∧ tS9 t n (sP (zs y)) = 0) ∧ (tT9 t n (sP (zs y)) = 0 ∨ ¬ zT y (zD y) = 0)) ∧ tN9 t n (sP (zs y)) = 0) ∧ tO9 t n (sP (zs y)) = 0
theorem fol_no {y : MZ} (h : folX t n y) (h41 : ¬ (tK t n (sP (zs y)) = 41 ∧ 1 < zD y)) : ¬ stp t n y := fun k => by
  obtain ⟨⟨⟨⟨⟨_, hP⟩, hS⟩, hT⟩, hN⟩, hO⟩ := h
  rcases k.2 with k | k | k | k | k | k
  · unfold tN9 at hN; rw [if_pos k] at hN; exact absurd hN (by decide)
  · unfold tO9 at hO; rw [if_pos k] at hO; exact absurd hO (by decide)
  · rcases hT with hT | hT
    · unfold tT9 at hT
      rcases k.1 with k1 | k1
      · rw [if_pos k1] at hT; exact absurd hT (by decide)
      · rw [if_neg (by omega), if_pos k1] at hT; exact absurd hT (by decide)
    · exact hT k.2
  · unfold tS9 at hS
    rcases k with k1 | k1
    · rw [if_pos k1] at hS; exact absurd hS (by decide)
    · rw [if_neg (by omega), if_pos k1] at hS; exact absurd hS (by decide)
  · unfold tP9 at hP
    rcases k with k1 | k1
    · rw [if_pos k1] at hP; exact absurd hP (by decide)
    · rw [if_neg (by omega), if_pos k1] at hP; exact absurd hP (by decide)
  · exact h41 k
theorem hCl {y : MZ} (g : (zs y).1 = 1) (h : tK t n (sP (zs y)) = 41) (hd : 1 < zD y) : hdS t n y = nxZ t n (mz (zs y) (zW (drZ 0 y)) (zS (drZ 0 y)).tail (zD y - 1) (zT y)) := by
  unfold hdS
  rw [if_pos g, if_neg (nwd (by omega)), if_neg (nwd (by omega)), if_neg (by omega), if_neg (by omega), if_neg (by omega), if_pos ⟨h, hd⟩]
theorem opd_bad {f : Nat} {b : Int} {z : MZ} (h : (zs z).1 = 0) : opd t n f b z = z := by
  cases f with
  | zero => rfl
  | succ f => exact if_neg (by omega)
theorem vl_kw {p : Int} : (vl9 t n p = 0 ↔ ¬ (0 ≤ kwN t n p ∧ kwN t n p ≤ 4)) ∧ (vl9 t n p ≠ 0 → vl9 t n p = -1 - kwN t n p ∧ encX (vl9 t n p) = [2, kwN t n p]) := by
  have k := kwN_is t n p
  have e0 : kwN t n p = 0 ↔ wdI t n p 5 = 1 := k.eq (k := 0) (by decide)
  have e1 : kwN t n p = 1 ↔ wdI t n p 8 = 1 := k.eq (k := 1) (by decide)
  have e2 : kwN t n p = 2 ↔ wdI t n p 9 = 1 := k.eq (k := 2) (by decide)
  have e3 : kwN t n p = 3 ↔ wdI t n p 10 = 1 := k.eq (k := 3) (by decide)
  have e4 : kwN t n p = 4 ↔ wdI t n p 11 = 1 := k.eq (k := 4) (by decide)
  unfold vl9
  by_cases c0 : wdI t n p 5 = 1
  · rw [if_pos c0, e0.mpr c0]; exact ⟨by omega, fun _ => ⟨by decide, rfl⟩⟩
  · rw [if_neg c0]
    by_cases c1 : wdI t n p 8 = 1
    · rw [if_pos c1, e1.mpr c1]; exact ⟨by omega, fun _ => ⟨by decide, rfl⟩⟩
    · rw [if_neg c1]
      by_cases c2 : wdI t n p 9 = 1
      · rw [if_pos c2, e2.mpr c2]; exact ⟨by omega, fun _ => ⟨by decide, rfl⟩⟩
      · rw [if_neg c2]
        by_cases c3 : wdI t n p 10 = 1
        · rw [if_pos c3, e3.mpr c3]; exact ⟨by omega, fun _ => ⟨by decide, rfl⟩⟩
        · rw [if_neg c3]
          by_cases c4 : wdI t n p 11 = 1
          · rw [if_pos c4, e4.mpr c4]; exact ⟨by omega, fun _ => ⟨by decide, rfl⟩⟩
          · rw [if_neg c4]
            exact ⟨by omega, fun h => absurd rfl h⟩
theorem sim_P {a f : Nat} {d : Int} {E : PS → PS} (hn : n ≤ 700) (hB : BY t) (hd1 : 1 ≤ d ∧ d ≤ 6) (ha : 1 ≤ a) (hE : d < 6 → Sim t n 1 a (d + 1) (d + 1) True (opd t n f 1) E (folX t n)) (h6 : d = 6 → E = x6 t n) : Sim t n 7 a d (d + 1) False (opq t n f) (pt9 t n E) (fun _ => True) := by
  intro z s g gs hp hr hl hd hb _
  have rg := tk_rg (t := t) (n := n) (p := sP s) hB hr
  have cn : sP (nx9 t n s) = tQ t n (sP s) := rfl
  have cl : sL (nx9 t n s) = sL s := rfl
  have one : ∀ (x : Int) (W : List Int), -5 ≤ x → x ≤ 9999 → tK t n (sP s) ≠ 0 → encX x = W → opq t n f z = mz (nx9 t n (zs z)) (zW z ++ W) (zS z) (zD z) (zT z) → ∃ (j : Nat) (y : MZ), hdN t n (opq t n f z) j = y ∧ ((OKR n 7 a (d + 1) z y s (ad9 x (nx9 t n s)) ∧ True) ∨ BDR t n (ad9 x (nx9 t n s)) y) := fun x W hx hx9 hk he ho => by
    have q1 := rg.2.2.2 hk
    refine ⟨0, _, rfl, Or.inl ⟨?_, trivial⟩⟩
    show OKR n 7 a (d + 1) z (opq t n f z) s (ad9 x (nx9 t n s))
    rw [ho]
    refine ⟨⟨g, gs, ?_, ⟨?_, rg.2.1.2⟩, rfl, fun _ _ => rfl⟩, [x], ?_, ?_, ?_, (okp_v hx).up ha, fun c hc => ?_, by simp⟩
    · show tQ t n (sP (zs z)) = tQ t n (sP s)
      rw [hp]
    · show sP s ≤ tQ t n (sP s)
      omega
    · exact addL_a (by show (sL s).length < 700; omega)
    · show (([x] : List Int).length : Int) ≤ tQ t n (sP s) - sP s
      simp only [List.length_cons, List.length_nil]
      omega
    · rw [encL_1, he]
      exact dr_b hb
    · rw [List.mem_singleton] at hc
      rw [hc]
      omega
  unfold pt9
  by_cases h40 : tK t n (sP s) = 40
  · have q1 := rg.2.2.2 (by omega)
    rw [if_pos h40]
    have eo : opq t n f z = opd t n f 1 (dpr t n (nxZ t n (psh 14 z))) := if_pos ⟨g, by rw [← hp]; exact h40⟩
    by_cases hd6 : d < 6
    · have ed : dpr t n (nxZ t n (psh 14 z)) = mz (nx9 t n (zs z)) (zW z) (14 :: zS z) (zD z + 1) (up (zT z) (zD z + 1) 0) := if_pos (by show zD z < 6; omega)
      rw [eo, ed]
      obtain ⟨j, y, e1, h⟩ := hE hd6 (mz (nx9 t n (zs z)) (zW z) (14 :: zS z) (zD z + 1) (up (zT z) (zD z + 1) 0)) (nx9 t n s) g gs (by show tQ t n (sP s) = tQ t n (sP (zs z)); rw [hp]) (by rw [cn]; omega) (by rw [cl, cn]; omega) (by show zD z + 1 = d + 1; rw [hd]) (Or.inl (by decide)) (fun _ => by show up (zT z) (zD z + 1) 0 (d + 1) = 0; rw [hd, up_at])
      rcases h with ⟨h, hf⟩ | h
      · obtain ⟨⟨k1, k2, k3, k4, k5, k6⟩, N, n1, n2, n3, n4, n5, n6⟩ := h
        rw [cl] at n1
        rw [cn] at n2 k4
        have yd : zD y = d + 1 := k5.trans (by show zD z + 1 = d + 1; rw [hd])
        rw [if_pos k2]
        unfold sg9
        by_cases h41 : tK t n (sP (E (nx9 t n s))) = 41
        · rw [if_pos h41]
          have rg2 := tk_rg (t := t) (n := n) (p := sP (E (nx9 t n s))) hB (by omega)
          have dn : dr 0 (zW y) (zS y) = (zW z ++ encL N, 14 :: zS z) := by
            rw [← dr_dr (show (0 : Int) ≤ 1 by decide) (zS y) (zW y), n3]
            exact dr_b (Or.inl (by decide))
          have hc := hCl (t := t) (n := n) k1 (by rw [k3]; exact h41) (by omega)
          refine ⟨j + 1, nxZ t n (mz (zs y) (zW (drZ 0 y)) (zS (drZ 0 y)).tail (zD y - 1) (zT y)), by rw [hdN_s, e1, hc], Or.inl ⟨⟨⟨k1, k2, ?_, ⟨?_, rg2.2.1.2⟩, ?_, fun i hi => ?_⟩, N, n1, ?_, ?_, n4, n5, n6⟩, trivial⟩⟩
          · show tQ t n (sP (zs y)) = tQ t n (sP (E (nx9 t n s)))
            rw [k3]
          · show sP s ≤ tQ t n (sP (E (nx9 t n s)))
            omega
          · show zD y - 1 = zD z
            omega
          · show zT y i = zT z i
            rw [k6 i hi]
            show up (zT z) (zD z + 1) 0 i = zT z i
            exact up_ne (by omega)
          · show (N.length : Int) ≤ tQ t n (sP (E (nx9 t n s))) - sP s
            omega
          · show dr 7 (dr 0 (zW y) (zS y)).1 (dr 0 (zW y) (zS y)).2.tail = _
            rw [dn]
            exact dr_b hb
        · rw [if_neg h41]
          refine ⟨j, y, e1, Or.inr ⟨rfl, Or.inr ⟨k1, fol_no hf (fun h9 => h41 (by rw [← k3]; exact h9.1)), by omega, rfl, ?_⟩⟩⟩
          show tA t n (sP (E (nx9 t n s))) = _
          rw [k3]
      · rw [if_neg (by have := h.1; omega)]
        exact ⟨j, y, e1, Or.inr h⟩
    · have e6 : d = 6 := by omega
      have ed : dpr t n (nxZ t n (psh 14 z)) = flZ t n (if cb9 t n (tQ t n (sP (zs z))) = 1 then 2 else 1) (nxZ t n (psh 14 z)) := if_neg (by show ¬ zD z < 6; omega)
      rw [eo, ed, opd_bad rfl, h6 e6]
      have ex : x6 t n (nx9 t n s) = fl9 t n (if cb9 t n (tQ t n (sP s)) = 1 then 2 else 1) (nx9 t n s) := by
        unfold x6
        show (if cb9 t n (tQ t n (sP s)) = 1 then _ else _) = _
        split <;> rfl
      rw [ex, if_neg fl_n]
      refine ⟨0, _, rfl, Or.inr ⟨rfl, Or.inl ⟨rfl, ?_, ?_⟩⟩⟩
      · show (if cb9 t n (tQ t n (sP (zs z))) = 1 then (2 : Int) else 1) = (if cb9 t n (tQ t n (sP s)) = 1 then (2 : Int) else 1)
        rw [hp]
      · show tA t n (tQ t n (sP (zs z))) = tA t n (tQ t n (sP s))
        rw [hp]
  · rw [if_neg h40]
    have eo : opq t n f z = prt t n z := if_neg (fun h9 => h40 (by rw [hp]; exact h9.2))
    by_cases h1 : tK t n (sP s) = 1
    · rw [if_pos h1]
      have ep : prt t n z = mz (if 0 ≤ kwN t n (sP (zs z)) ∧ kwN t n (sP (zs z)) ≤ 4 then nx9 t n (zs z) else fl9 t n 3 (zs z)) (zW z ++ [2, kwN t n (sP (zs z))]) (zS z) (zD z) (zT z) := by
        unfold prt
        rw [if_pos g, if_neg (by rw [← hp]; omega), if_pos (by rw [← hp]; exact h1)]
      rw [← hp] at ep
      have vk := vl_kw (t := t) (n := n) (p := sP s)
      unfold va9
      by_cases hv : vl9 t n (sP s) = 0
      · rw [if_pos hv]
        rw [if_neg (vk.1.mp hv)] at ep
        refine ⟨0, _, rfl, Or.inr ⟨rfl, Or.inl ?_⟩⟩
        show (zs (opq t n f z)).1 = 0 ∧ sF (zs (opq t n f z)) = 3 ∧ sW (zs (opq t n f z)) = tA t n (sP s)
        rw [eo, ep, hp]
        exact ⟨rfl, rfl, rfl⟩
      · rw [if_neg hv]
        have kk : 0 ≤ kwN t n (sP s) ∧ kwN t n (sP s) ≤ 4 := Classical.byContradiction fun h9 => hv (vk.1.mpr h9)
        rw [if_pos kk] at ep
        have e2 := vk.2 hv
        exact one (vl9 t n (sP s)) _ (by omega) (by omega) (by omega) e2.2 (eo.trans ep)
    · rw [if_neg h1]
      by_cases h2 : tK t n (sP s) = 2
      · have hv := tv_rg h2
        have ep : prt t n z = mz (if 4 < tQ t n (sP (zs z)) - tA t n (sP (zs z)) then fl9 t n 2 (zs z) else nx9 t n (zs z)) (zW z ++ [1, tV t n (sP (zs z))]) (zS z) (zD z) (zT z) := by
          unfold prt
          rw [if_pos g, if_pos (by rw [← hp]; exact h2)]
        rw [← hp] at ep
        by_cases h4 : 4 < tQ t n (sP s) - tA t n (sP s)
        · rw [nm_2 h2 h4, if_neg fl_n]
          rw [if_pos h4] at ep
          refine ⟨0, _, rfl, Or.inr ⟨rfl, Or.inl ?_⟩⟩
          show (zs (opq t n f z)).1 = 0 ∧ sF (zs (opq t n f z)) = 2 ∧ sW (zs (opq t n f z)) = tA t n (sP s)
          rw [eo, ep, hp]
          exact ⟨rfl, rfl, rfl⟩
        · rw [nm_ok gs h2 h4, if_pos gs]
          rw [if_neg h4] at ep
          exact one (tV t n (sP s)) _ (by omega) (by omega) (by omega) (if_pos (by omega)) (eo.trans ep)
      · rw [nm_1 h2, if_neg fl_n]
        have ep : prt t n z = flZ t n 1 z := by
          unfold prt
          rw [if_pos g, if_neg (by rw [← hp]; exact h2), if_neg (by rw [← hp]; exact h1)]
        refine ⟨0, _, rfl, Or.inr ⟨rfl, Or.inl ?_⟩⟩
        show (zs (opq t n f z)).1 = 0 ∧ sF (zs (opq t n f z)) = 1 ∧ sW (zs (opq t n f z)) = tA t n (sP s)
        rw [eo, ep, hp]
        exact ⟨rfl, rfl, rfl⟩
theorem sim_E {a f : Nat} {d : Int} {E : PS → PS} (hn : n ≤ 700) (hB : BY t) (hf : (7 - d).toNat = f + 1) (hs : Sim t n 7 a d (d + 1) False (opq t n f) (pt9 t n E) (fun _ => True)) : Sim t n 1 (a + 5) d d True (opd t n (f + 1) 1) (cx9 t n (tO9 t n) (by9 t n E)) (folX t n) := by
  have s6 := sim_ch (tst := tP9 t n) (u := fun z => z) (v := 6) hn hB (by decide) hs (fun z _ => ⟨rfl, rfl, rfl, rfl, fun _ _ => rfl, fun h => h.elim⟩) (fun p h => by rcases tP_x h with ⟨k, e⟩ | ⟨k, e⟩ <;> rw [e] <;> exact ⟨by decide, by decide, by decide, by omega⟩) (hP hf)
  have s5 := sim_ch (tst := tS9 t n) (u := fun z => z) (v := 5) hn hB (by decide) s6 (fun z _ => ⟨rfl, rfl, rfl, rfl, fun _ _ => rfl, fun h => h.elim⟩) (fun p h => by rcases tS_x h with ⟨k, e⟩ | ⟨k, e⟩ <;> rw [e] <;> exact ⟨by decide, by decide, by decide, by omega⟩) (hSm hf)
  have s4 := sim_T hn hB hf s5
  have s3 := sim_N hn hB s4
  have u0 : ∀ z : MZ, zD z = d → zs (tsZ 0 z) = zs z ∧ zW (tsZ 0 z) = zW z ∧ zS (tsZ 0 z) = zS z ∧ zD (tsZ 0 z) = zD z ∧ (∀ i, i < d → zT (tsZ 0 z) i = zT z i) ∧ (True → zT (tsZ 0 z) d = 0) := fun z hz => ⟨rfl, rfl, rfl, rfl, fun i hi => by show up (zT z) (zD z) 0 i = zT z i; exact up_ne (by omega), fun _ => by show up (zT z) (zD z) 0 d = 0; rw [hz, up_at]⟩
  have s2 := sim_ch (tst := tN9 t n) (u := tsZ 0) (v := 2) hn hB (by decide) s3 u0 (fun p h => by have e := tN_x h; rw [e.2]; exact ⟨by decide, by decide, by decide, by rw [wd_1 e.1]; decide⟩) (hAn hf)
  exact sim_ch (tst := tO9 t n) (u := tsZ 0) (v := 1) hn hB (by decide) s2 u0 (fun p h => by have e := tO_x h; rw [e.2]; exact ⟨by decide, by decide, by decide, by rw [wd_1 e.1]; decide⟩) (hOr hf)
theorem sim_X (hn : n ≤ 700) (hB : BY t) : ∀ k : Nat, k < 6 → Sim t n 1 (1 + 5 * (k + 1)) (6 - k) (6 - k) True (opd t n (k + 1) 1) (xk t n (k + 1)) (folX t n)
  | 0, _ => by
    have hp := sim_P (a := 1) (f := 0) (d := 6) (E := xk t n 0) hn hB (by decide) (by decide) (fun h => absurd h (by decide)) (fun _ => rfl)
    exact sim_E hn hB (by decide) hp
  | k + 1, hk => by
    have ih := sim_X hn hB k (by omega)
    have hp := sim_P (a := 1 + 5 * (k + 1)) (f := k + 1) (d := 6 - ((k + 1 : Nat) : Int)) (E := xk t n (k + 1)) hn hB (by omega) (by omega) (fun _ => by rw [show 6 - ((k + 1 : Nat) : Int) + 1 = 6 - (k : Int) by omega]; exact ih) (fun h => by omega)
    exact sim_E hn hB (by omega) hp
end
