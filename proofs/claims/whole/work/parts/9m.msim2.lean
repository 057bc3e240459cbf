/-! The machine reads what the class reads: tests, nots, parts. -/
section
variable {t : Int → Int} {n : Int}
theorem wd_1 {p : Int} {i : Nat} (h : wdI t n p i = 1) : tK t n p = 1 := by
  unfold wdI at h
  exact (ite1 h).1
theorem wd_l {p : Int} {i : Nat} (h : wdI t n p i = 1) : tQ t n p - tA t n p = sLen i := by
  unfold wdI at h
  exact (ite1 h).2.1
theorem tP_x {p : Int} (h : tP9 t n p ≠ 0) : (tK t n p = 42 ∧ tP9 t n p = -13) ∨ (tK t n p = 47 ∧ tP9 t n p = -14) := by
  unfold tP9 at h ⊢
  split
  · exact Or.inl ⟨by assumption, rfl⟩
  · split
    · exact Or.inr ⟨by assumption, rfl⟩
    · rw [if_neg (by assumption), if_neg (by assumption)] at h; exact absurd rfl h
theorem tS_x {p : Int} (h : tS9 t n p ≠ 0) : (tK t n p = 43 ∧ tS9 t n p = -11) ∨ (tK t n p = 45 ∧ tS9 t n p = -12) := by
  unfold tS9 at h ⊢
  split
  · exact Or.inl ⟨by assumption, rfl⟩
  · split
    · exact Or.inr ⟨by assumption, rfl⟩
    · rw [if_neg (by assumption), if_neg (by assumption)] at h; exact absurd rfl h
theorem tT_x {p : Int} (h : tT9 t n p ≠ 0) : (tK t n p = 60 ∧ tT9 t n p = -9) ∨ (tK t n p = 61 ∧ tT9 t n p = -10) := by
  unfold tT9 at h ⊢
  split
  · exact Or.inl ⟨by assumption, rfl⟩
  · split
    · exact Or.inr ⟨by assumption, rfl⟩
    · rw [if_neg (by assumption), if_neg (by assumption)] at h; exact absurd rfl h
theorem tN_x {p : Int} (h : tN9 t n p ≠ 0) : wdI t n p 12 = 1 ∧ tN9 t n p = -7 := by
  unfold tN9 at h ⊢
  split
  · exact ⟨by assumption, rfl⟩
  · rw [if_neg (by assumption)] at h; exact absurd rfl h
theorem tO_x {p : Int} (h : tO9 t n p ≠ 0) : wdI t n p 13 = 1 ∧ tO9 t n p = -6 := by
  unfold tO9 at h ⊢
  split
  · exact ⟨by assumption, rfl⟩
  · rw [if_neg (by assumption)] at h; exact absurd rfl h
theorem nwd {p : Int} {i : Nat} (h : tK t n p ≠ 1) : ¬ wdI t n p i = 1 := fun k => h (wd_1 k)
theorem hP {f : Nat} {d : Int} (hf : (7 - d).toNat = f + 1) : ∀ y : MZ, (zs y).1 = 1 → zD y = d → tP9 t n (sP (zs y)) ≠ 0 → hdS t n y = opq t n f (nxZ t n (psh (opE (tP9 t n (sP (zs y)))) (drZ 6 y))) := fun y g hd h => by
  have e : fu y = f + 1 := by unfold fu; rw [hd]; exact hf
  have k := tP_x h
  unfold hdS
  rw [if_pos g, if_neg (nwd (by omega)), if_neg (nwd (by omega)), if_neg (by omega), if_neg (by omega), if_pos (by omega), e, opd_0 (by exact g)]
  rcases k with ⟨k1, k2⟩ | ⟨k1, k2⟩
  · rw [k2, if_pos k1]; rfl
  · rw [k2, if_neg (by omega)]; rfl
theorem hSm {f : Nat} {d : Int} (hf : (7 - d).toNat = f + 1) : ∀ y : MZ, (zs y).1 = 1 → zD y = d → tS9 t n (sP (zs y)) ≠ 0 → hdS t n y = opq t n f (nxZ t n (psh (opE (tS9 t n (sP (zs y)))) (drZ 5 y))) := fun y g hd h => by
  have e : fu y = f + 1 := by unfold fu; rw [hd]; exact hf
  have k := tS_x h
  unfold hdS
  rw [if_pos g, if_neg (nwd (by omega)), if_neg (nwd (by omega)), if_neg (by omega), if_pos (by omega), e, opd_0 (by exact g)]
  rcases k with ⟨k1, k2⟩ | ⟨k1, k2⟩
  · rw [k2, if_pos k1]; rfl
  · rw [k2, if_neg (by omega)]; rfl
theorem hTs {f : Nat} {d : Int} (hf : (7 - d).toNat = f + 1) : ∀ y : MZ, (zs y).1 = 1 → zD y = d → zT y d = 0 → tT9 t n (sP (zs y)) ≠ 0 → hdS t n y = opq t n f (nxZ t n (tsZ 1 (psh (opE (tT9 t n (sP (zs y)))) (drZ 4 y)))) := fun y g hd h0 h => by
  have e : fu y = f + 1 := by unfold fu; rw [hd]; exact hf
  have k := tT_x h
  unfold hdS
  rw [if_pos g, if_neg (nwd (by omega)), if_neg (nwd (by omega)), if_pos ⟨by omega, by rw [hd]; exact h0⟩, e, opd_0 (by exact g)]
  rcases k with ⟨k1, k2⟩ | ⟨k1, k2⟩
  · rw [k2, if_pos k1]; rfl
  · rw [k2, if_neg (by omega)]; rfl
theorem hAn {f : Nat} {d : Int} (hf : (7 - d).toNat = f + 1) : ∀ y : MZ, (zs y).1 = 1 → zD y = d → tN9 t n (sP (zs y)) ≠ 0 → hdS t n y = opd t n (f + 1) 1 (nxZ t n (tsZ 0 (psh (opE (tN9 t n (sP (zs y)))) (drZ 2 y)))) := fun y g hd h => by
  have e : fu y = f + 1 := by unfold fu; rw [hd]; exact hf
  have k := tN_x h
  unfold hdS
  rw [if_pos g, if_pos k.1, e, k.2]
  rfl
theorem hOr {f : Nat} {d : Int} (hf : (7 - d).toNat = f + 1) : ∀ y : MZ, (zs y).1 = 1 → zD y = d → tO9 t n (sP (zs y)) ≠ 0 → hdS t n y = opd t n (f + 1) 1 (nxZ t n (tsZ 0 (psh (opE (tO9 t n (sP (zs y)))) (drZ 1 y)))) := fun y g hd h => by
  have e : fu y = f + 1 := by unfold fu; rw [hd]; exact hf
  have k := tO_x h
  have l1 := wd_l k.1
  have hne : ¬ wdI t n (sP (zs y)) 12 = 1 := fun h9 => by
    have l2 := wd_l h9
    rw [l1] at l2
    exact absurd l2 (by decide +kernel)
  unfold hdS
  rw [if_pos g, if_neg hne, if_pos k.1, e, k.2]
  rfl
theorem sim_T {a f : Nat} {d : Int} {G : PS → PS} {fol : MZ → Prop} (hn : n ≤ 700) (hB : BY t) (hf : (7 - d).toNat = f + 1) (hs : Sim t n 5 a d (d + 1) False (opq t n f) G fol) : Sim t n 4 (a + 1) d d True (opq t n f) (fun s => ch9 t n (tT9 t n) G s 1) (fun y => fol y ∧ (tT9 t n (sP (zs y)) = 0 ∨ ¬ zT y (zD y) = 0)) := by
  intro z s g gs hp hr hl hd hb hbT
  obtain ⟨j, y, e1, h⟩ := hs z s g gs hp hr hl hd (blw_up (by decide) hb) (fun h9 => h9.elim)
  have es : ch9 t n (tT9 t n) G s 1 = st9 t n (tT9 t n) G (G s) := rfl
  show ∃ (j : Nat) (y : MZ), hdN t n (opq t n f z) j = y ∧ ((OKR n 4 (a + 1) d z y s (ch9 t n (tT9 t n) G s 1) ∧ _) ∨ BDR t n (ch9 t n (tT9 t n) G s 1) y)
  rw [es]
  rcases h with ⟨h, hf1⟩ | h
  · have hw := h
    obtain ⟨⟨k1, k2, k3, k4, k5, k6⟩, N, n1, n2, n3, n4, n5, n6⟩ := hw
    by_cases ht0 : tT9 t n (sP (G s)) = 0
    · have e2 : st9 t n (tT9 t n) G (G s) = G s := if_neg (fun h9 => h9.2 ht0)
      rw [e2]
      have hd9 := h.dn (v := 4) (by decide) hb
      exact ⟨j, y, e1, Or.inl ⟨⟨⟨hd9.1.1, hd9.1.2.1, hd9.1.2.2.1, hd9.1.2.2.2.1, hd9.1.2.2.2.2.1, fun i hi => k6 i (by omega)⟩, hd9.2⟩, hf1, Or.inl (by rw [k3]; exact ht0)⟩⟩
    · have e2 : st9 t n (tT9 t n) G (G s) = ad9 (tT9 t n (sP (G s))) (G (nx9 t n (G s))) := if_pos ⟨k2, ht0⟩
      have kx := tT_x ht0
      have rg := tk_rg (t := t) (n := n) (p := sP (G s)) hB (by omega)
      have q1 := rg.2.2.2 (by omega)
      have hst := hTs hf y k1 (k5.trans hd) (by rw [k6 d (by omega)]; exact hbT trivial) (by rw [k3]; exact ht0)
      rw [k3] at hst
      have hop : stg (opE (tT9 t n (sP (G s)))) = 4 ∧ opE (tT9 t n (sP (G s))) < 14 ∧ encX (tT9 t n (sP (G s))) = [opE (tT9 t n (sP (G s)))] ∧ tT9 t n (sP (G s)) < -5 ∧ tT9 t n (sP (G s)) ≠ -8 ∧ -14 ≤ tT9 t n (sP (G s)) := by
        rcases kx with ⟨_, k⟩ | ⟨_, k⟩ <;> rw [k] <;> decide
      have dn : dr 4 (zW y) (zS y) = (zW z ++ encL N, zS z) := by
        rw [← dr_dr (show (4 : Int) ≤ 5 by decide) (zS y) (zW y), n3]
        exact dr_b hb
      generalize hz' : nxZ t n (tsZ 1 (psh (opE (tT9 t n (sP (G s)))) (drZ 4 y))) = z' at hst
      have z1 : zs z' = nx9 t n (zs y) := by rw [← hz']; rfl
      have z2 : zW z' = zW z ++ encL N := by
        rw [← hz']
        show (dr 4 (zW y) (zS y)).1 = _
        rw [dn]
      have z3 : zS z' = opE (tT9 t n (sP (G s))) :: zS z := by
        rw [← hz']
        show _ :: (dr 4 (zW y) (zS y)).2 = _
        rw [dn]
      have z4 : zD z' = d := by rw [← hz']; exact k5.trans hd
      have z5 : ∀ i, zT z' i = if i = d then 1 else zT y i := fun i => by
        rw [← hz']
        show up (zT y) (zD y) 1 i = _
        rw [k5, hd]
        rfl
      have zp : sP (zs z') = tQ t n (sP (G s)) := by rw [z1, ← k3]; rfl
      have cn : sP (nx9 t n (G s)) = tQ t n (sP (G s)) := rfl
      have cl : sL (nx9 t n (G s)) = sL (G s) := rfl
      have ll : ((sL (G s)).length : Int) ≤ sP (G s) := by rw [n1, List.length_append]; omega
      obtain ⟨j2, y2, e3, h2⟩ := hs z' (nx9 t n (G s)) (by rw [z1]; exact k1) k2 (by rw [zp, cn]) (by rw [cn]; omega) (by rw [cl, cn]; omega) z4 (by rw [z3]; exact Or.inr (by omega)) (fun h9 => h9.elim)
      have e4 : hdN t n (opq t n f z) (j + 1 + j2) = y2 := by rw [hdN_add, hdN_s, e1, hst, e3]
      rw [e2]
      refine ⟨j + 1 + j2, y2, e4, ?_⟩
      rcases h2 with ⟨h2, hf2⟩ | h2
      · left
        obtain ⟨⟨l1, l2, l3, l4, l5, l6⟩, M, m1, m2, m3, m4, m5, m6⟩ := h2
        rw [cl] at m1
        rw [cn] at m2 l4
        have lM : (sL (G (nx9 t n (G s)))).length < 700 := by
          rw [m1, n1, List.length_append, List.length_append]
          omega
        refine ⟨⟨⟨l1, l2, l3, ⟨by show sP s ≤ sP (G (nx9 t n (G s))); omega, l4.2⟩, by rw [l5, z4, hd], fun i hi => by rw [l6 i (by omega), z5 i, if_neg (by omega), k6 i (by omega)]⟩, N ++ (M ++ [tT9 t n (sP (G s))]), ?_, ?_, ?_, okp_2 (n4.up (by omega)) m4 hop.2.2.2.1 hop.2.2.2.2.1, fun x hx => ?_, fun h9 => n6 (List.append_eq_nil_iff.mp h9).1⟩, hf2, Or.inr (by rw [l5, z4, l6 d (by omega), z5 d, if_pos rfl]; decide)⟩
        · show addL (sL (G (nx9 t n (G s)))) (tT9 t n (sP (G s))) = _
          rw [addL_a lM, m1, n1, List.append_assoc, List.append_assoc]
        · show ((N ++ (M ++ [tT9 t n (sP (G s))])).length : Int) ≤ sP (G (nx9 t n (G s))) - sP s
          rw [List.length_append, List.length_append, List.length_cons, List.length_nil]
          omega
        · rw [← dr_dr (show (4 : Int) ≤ 5 by decide) (zS y2) (zW y2), m3]
          show dr 4 (zW z' ++ encL M) (zS z') = _
          rw [z2, z3, dr_1 (by omega), dr_b hb, encL_app, encL_app, encL_1, hop.2.2.1, List.append_assoc, List.append_assoc]
        · rcases List.mem_append.mp hx with hx | hx
          · exact n5 x hx
          · rcases List.mem_append.mp hx with hx | hx
            · exact m5 x hx
            · rw [List.mem_singleton] at hx
              rw [hx]
              omega
      · exact Or.inr h2.ad
  · have e2 : st9 t n (tT9 t n) G (G s) = G s := if_neg (fun h9 => by have := h.1; omega)
    rw [e2]
    exact ⟨j, y, e1, Or.inr h⟩
theorem no_p {p : Int} (hB : BY t) (hp : 0 ≤ p ∧ p ≤ n) : ∀ j : Nat, (0 ≤ (no9 t n p j).1 ∧ (no9 t n p j).1 ≤ j) ∧ (p + (no9 t n p j).1 ≤ (no9 t n p j).2 ∧ (no9 t n p j).2 ≤ n) ∧ (wdI t n (no9 t n p j).2 7 = 1 → (no9 t n p j).1 = j)
  | 0 => by
    show (0 ≤ (0 : Int) ∧ (0 : Int) ≤ ((0 : Nat) : Int)) ∧ (p + 0 ≤ p ∧ p ≤ n) ∧ (_ → (0 : Int) = ((0 : Nat) : Int))
    exact ⟨by decide, by omega, fun _ => rfl⟩
  | j + 1 => by
    have ih := no_p hB hp j
    have e : no9 t n p (j + 1) = if wdI t n (no9 t n p j).2 7 = 1 then ((no9 t n p j).1 + 1, tQ t n (no9 t n p j).2) else no9 t n p j := rfl
    rw [e]
    by_cases h : wdI t n (no9 t n p j).2 7 = 1
    · rw [if_pos h]
      have r := tk_rg (t := t) (n := n) (p := (no9 t n p j).2) hB (by omega)
      have k := wd_1 h
      have q := r.2.2.2 (by omega)
      have i3 := ih.2.2 h
      simp only []
      exact ⟨by omega, by omega, fun _ => by omega⟩
    · rw [if_neg h]
      exact ⟨by omega, ih.2.1, fun h9 => absurd h9 h⟩
theorem nots_6 {z : MZ} (g : (zs z).1 = 1) (hB : BY t) (hp : 0 ≤ sP (zs z) ∧ sP (zs z) ≤ n) : ∀ j : Nat, j ≤ 6 → nots t n 1 z j = mz (at9 (no9 t n (sP (zs z)) j).2 (zs z)) (zW z) (List.replicate (no9 t n (sP (zs z)) j).1.toNat 3 ++ zS z) (zD z) (zT z)
  | 0, _ => rfl
  | j + 1, hj => by
    have ih := nots_6 g hB hp j (by omega)
    have hno := no_p (t := t) (n := n) hB hp j
    have e : no9 t n (sP (zs z)) (j + 1) = if wdI t n (no9 t n (sP (zs z)) j).2 7 = 1 then ((no9 t n (sP (zs z)) j).1 + 1, tQ t n (no9 t n (sP (zs z)) j).2) else no9 t n (sP (zs z)) j := rfl
    have e2 : nots t n 1 z (j + 1) = ntS t n 1 j (nots t n 1 z j) := rfl
    rw [e2, ih, e]
    generalize no9 t n (sP (zs z)) j = q at hno ⊢
    by_cases h : wdI t n q.2 7 = 1
    · rw [if_pos h]
      unfold ntS
      rw [if_pos ⟨g, by decide, h⟩, if_neg (by omega)]
      show mz (nx9 t n (at9 q.2 (zs z))) (zW z) (3 :: (List.replicate q.1.toNat 3 ++ zS z)) (zD z) (zT z) = mz (at9 (tQ t n q.2) (zs z)) (zW z) (List.replicate (q.1 + 1).toNat 3 ++ zS z) (zD z) (zT z)
      rw [show (q.1 + 1).toNat = q.1.toNat + 1 by omega, List.replicate_succ]
      rfl
    · rw [if_neg h]
      unfold ntS
      exact if_neg (fun h9 => h h9.2.2)
theorem dr_rep {v : Int} (h : ¬ (14 ≤ (3 : Int) ∨ stg 3 < v)) : ∀ (k : Nat) (W S : List Int), blw v S → dr v W (List.replicate k 3 ++ S) = (W ++ List.replicate k 3, S)
  | 0, W, S, hb => by
    show dr v W S = (W ++ [], S)
    rw [List.append_nil]
    exact dr_b hb
  | k + 1, W, S, hb => by
    show dr v W (3 :: (List.replicate k 3 ++ S)) = _
    rw [dr_1 h, dr_rep h k _ S hb, List.append_assoc]
    rfl
theorem aN_e {r : PS} : ∀ k : Nat, (sL r).length + k ≤ 700 → aN9 k r = (r.1, sP r, sL r ++ List.replicate k (-8), sF r, sW r)
  | 0, _ => by
    show r = _
    rw [List.replicate_zero, List.append_nil]
    rfl
  | k + 1, h => by
    have ih := aN_e (r := r) k (by omega)
    have e : aN9 (k + 1) r = ad9 (-8) (aN9 k r) := rfl
    rw [e, ih]
    show (r.1, sP r, addL (sL r ++ List.replicate k (-8)) (-8), sF r, sW r) = _
    rw [addL_a (by rw [List.length_append, List.length_replicate]; omega), List.append_assoc, List.replicate_succ']
theorem aN_b {r : PS} : ∀ k : Nat, (aN9 k r).1 = r.1 ∧ sF (aN9 k r) = sF r ∧ sW (aN9 k r) = sW r
  | 0 => ⟨rfl, rfl, rfl⟩
  | k + 1 => aN_b k
theorem enc_rep : ∀ k : Nat, encL (List.replicate k (-8)) = List.replicate k 3
  | 0 => rfl
  | k + 1 => by
    have e : encL (List.replicate (k + 1) (-8)) = encX (-8) ++ encL (List.replicate k (-8)) := by unfold encL; rw [List.replicate_succ, List.flatMap_cons]
    rw [e, enc_rep k, List.replicate_succ]
    rfl
theorem okp_rep {A : List Int} {a : Nat} (h : OKp A a) : ∀ k : Nat, OKp (A ++ List.replicate k (-8)) a
  | 0 => by rw [List.replicate_zero, List.append_nil]; exact h
  | k + 1 => by
    rw [List.replicate_succ', ← List.append_assoc]
    exact okp_n (okp_rep h k)
theorem sim_N {a f : Nat} {d : Int} {G : PS → PS} {fol : MZ → Prop} (hn : n ≤ 700) (hB : BY t) (hs : Sim t n 4 a d d True (opq t n f) G fol) : Sim t n 3 a d d True (opd t n (f + 1) 1) (pn9 t n G) fol := by
  intro z s g gs hp hr hl hd hb hbT
  have hno := no_p (t := t) (n := n) (p := sP s) hB hr 6
  have h6 := nots_6 (t := t) (n := n) g hB (by rw [← hp]; exact hr) 6 (Nat.le_refl _)
  rw [← hp] at h6
  have e7 : nots t n 1 z 7 = ntS t n 1 6 (nots t n 1 z 6) := rfl
  rw [opd_s g, e7, h6]
  unfold pn9
  generalize no9 t n (sP s) 6 = q at hno ⊢
  by_cases h7 : wdI t n q.2 7 = 1
  · rw [if_pos ⟨hno.2.2 h7, h7⟩]
    have en : ntS t n 1 6 (mz (at9 q.2 (zs z)) (zW z) (List.replicate q.1.toNat 3 ++ zS z) (zD z) (zT z)) = flZ t n 2 (mz (at9 q.2 (zs z)) (zW z) (List.replicate q.1.toNat 3 ++ zS z) (zD z) (zT z)) := by
      unfold ntS
      rw [if_pos ⟨g, by decide, h7⟩, if_pos rfl]
    have eo : ∀ w : MZ, (zs w).1 = 0 → opq t n f w = w := fun w hw => by
      unfold opq prt
      rw [if_neg (fun h9 => by omega), if_neg (by omega)]
    rw [en, eo _ rfl]
    exact ⟨0, _, rfl, Or.inr ⟨rfl, Or.inl ⟨rfl, rfl, rfl⟩⟩⟩
  · rw [if_neg (fun h9 => h7 h9.2)]
    have en : ntS t n 1 6 (mz (at9 q.2 (zs z)) (zW z) (List.replicate q.1.toNat 3 ++ zS z) (zD z) (zT z)) = mz (at9 q.2 (zs z)) (zW z) (List.replicate q.1.toNat 3 ++ zS z) (zD z) (zT z) := if_neg (fun h9 => h7 h9.2.2)
    rw [en]
    have hb4 : blw 4 (List.replicate q.1.toNat 3 ++ zS z) := by
      cases q.1.toNat with
      | zero => exact blw_up (by decide) hb
      | succ k => exact Or.inr (by decide)
    obtain ⟨j, y, e1, h⟩ := hs (mz (at9 q.2 (zs z)) (zW z) (List.replicate q.1.toNat 3 ++ zS z) (zD z) (zT z)) (at9 q.2 s) g gs rfl (show 0 ≤ q.2 ∧ q.2 ≤ n by omega) (show ((sL s).length : Int) ≤ q.2 by omega) hd hb4 hbT
    refine ⟨j, y, e1, ?_⟩
    rcases h with ⟨h, hf⟩ | h
    · left
      obtain ⟨⟨k1, k2, k3, k4, k5, k6⟩, N, n1, n2, n3, n4, n5, n6⟩ := h
      have k4' : q.2 ≤ sP (G (at9 q.2 s)) ∧ sP (G (at9 q.2 s)) ≤ n := k4
      have n2' : (N.length : Int) ≤ sP (G (at9 q.2 s)) - q.2 := n2
      have n1' : sL (G (at9 q.2 s)) = sL s ++ N := n1
      have le : (sL (G (at9 q.2 s))).length + q.1.toNat ≤ 700 := by
        rw [n1', List.length_append]
        omega
      rw [aN_e _ le]
      refine ⟨⟨⟨k1, k2, k3, ⟨by show sP s ≤ sP (G (at9 q.2 s)); omega, k4'.2⟩, k5, k6⟩, N ++ List.replicate q.1.toNat (-8), ?_, ?_, ?_, okp_rep n4 _, fun x hx => ?_, fun h9 => n6 (List.append_eq_nil_iff.mp h9).1⟩, hf⟩
      · show sL (G (at9 q.2 s)) ++ _ = _
        rw [n1', List.append_assoc]
      · show ((N ++ List.replicate q.1.toNat (-8)).length : Int) ≤ sP (G (at9 q.2 s)) - sP s
        rw [List.length_append, List.length_replicate]
        omega
      · rw [← dr_dr (show (3 : Int) ≤ 4 by decide) (zS y) (zW y), n3]
        show dr 3 (zW z ++ encL N) (List.replicate q.1.toNat 3 ++ zS z) = _
        rw [dr_rep (by decide) _ _ _ hb, encL_app, enc_rep, List.append_assoc]
      · rcases List.mem_append.mp hx with hx | hx
        · exact n5 x hx
        · rw [List.eq_of_mem_replicate hx]
          decide
    · right
      have b := aN_b (r := G (at9 q.2 s)) q.1.toNat
      unfold BDR
      rw [b.1, b.2.1, b.2.2]
      exact h
end
