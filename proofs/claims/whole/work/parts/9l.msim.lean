/-! The machine reads what the class reads: chains. -/
def OKR (n v : Int) (a : Nat) (e : Int) (z y : MZ) (s r : PS) : Prop := ((zs y).1 = 1 ∧ r.1 = 1 ∧ sP (zs y) = sP r ∧ (sP s ≤ sP r ∧ sP r ≤ n) ∧ zD y = zD z ∧ ∀ i, i < e → zT y i = zT z i) ∧ ∃ N : List Int, sL r = sL s ++ N ∧ (N.length : Int) ≤ sP r - sP s ∧ dr v (zW y) (zS y) = (zW z ++ encL N, zS z) ∧ OKp N a ∧ (∀ c ∈ N, -14 ≤ c ∧ c ≤ 9999) ∧ N ≠ []
def BDR (t : Int → Int) (n : Int) (r : PS) (y : MZ) : Prop := r.1 = 0 ∧ (((zs y).1 = 0 ∧ sF (zs y) = sF r ∧ sW (zs y) = sW r) ∨ ((zs y).1 = 1 ∧ ¬ stp t n y ∧ 1 < zD y ∧ sF r = 1 ∧ sW r = tA t n (sP (zs y))))
def Sim (t : Int → Int) (n v : Int) (a : Nat) (d e : Int) (b : Prop) (st : MZ → MZ) (F : PS → PS) (fol : MZ → Prop) : Prop := ∀ (z : MZ) (s : PS), (zs z).1 = 1 → s.1 = 1 → sP s = sP (zs z) → (0 ≤ sP s ∧ sP s ≤ n) → ((sL s).length : Int) ≤ sP s → zD z = d → blw v (zS z) → (b → zT z d = 0) → ∃ (j : Nat) (y : MZ), hdN t n (st z) j = y ∧ ((OKR n v a e z y s (F s) ∧ fol y) ∨ BDR t n (F s) y)
theorem blw_up {v w : Int} (h : v ≤ w) : ∀ {S : List Int}, blw v S → blw w S
  | [], _ => trivial
  | x :: _, k => by
    have k' : 14 ≤ x ∨ stg x < v := k
    show 14 ≤ x ∨ stg x < w
    omega
theorem BDR.ad {t : Int → Int} {n x : Int} {r : PS} {y : MZ} (h : BDR t n r y) : BDR t n (ad9 x r) y := h
theorem addL_a {L : List Int} {x : Int} (h : L.length < 700) : addL L x = L ++ [x] := if_pos h
theorem OKR.dn {n v w : Int} {a : Nat} {e : Int} {z y : MZ} {s r : PS} (h : OKR n w a e z y s r) (hv : v ≤ w) (hb : blw v (zS z)) : OKR n v (a + 1) e z y s r := by
  obtain ⟨h1, N, e1, e2, e3, e4, e5⟩ := h
  refine ⟨h1, N, e1, e2, ?_, e4.up (by omega), e5⟩
  rw [← dr_dr hv (zS y) (zW y), e3]
  exact dr_b hb
section
variable {t : Int → Int} {n : Int}
theorem end_n {p : Int} (hB : BY t) (hp : 0 ≤ p ∧ p ≤ n) (h : n ≤ p) : tK t n p = 0 := by
  have r := tk_rg (t := t) hB hp
  by_cases k : tK t n p = 0
  · exact k
  · have := r.2.2.2 k
    omega
theorem sim_ch {v w : Int} {a : Nat} {d e : Int} {b : Prop} {st : MZ → MZ} {G : PS → PS} {fol : MZ → Prop} {tst : Int → Int} {u : MZ → MZ} (hn : n ≤ 700) (hB : BY t) (hvw : v < w) (hs : Sim t n w a d e b st G fol)
    (hu : ∀ z, zD z = d → zs (u z) = zs z ∧ zW (u z) = zW z ∧ zS (u z) = zS z ∧ zD (u z) = zD z ∧ (∀ i, i < e → zT (u z) i = zT z i) ∧ (b → zT (u z) d = 0))
    (ht : ∀ p, tst p ≠ 0 → (-14 ≤ tst p ∧ tst p < -5 ∧ tst p ≠ -8) ∧ stg (opE (tst p)) = v ∧ opE (tst p) < 14 ∧ tK t n p ≠ 0)
    (hh : ∀ y, (zs y).1 = 1 → zD y = d → tst (sP (zs y)) ≠ 0 → hdS t n y = st (nxZ t n (u (psh (opE (tst (sP (zs y)))) (drZ v y))))) :
    Sim t n v (a + 1) d e b st (fun s => ch9 t n tst G s 700) (fun y => fol y ∧ tst (sP (zs y)) = 0) := by
  intro z s g gs hp hr hl hd hb hbT
  have key : ∀ i : Nat, ∃ (j : Nat) (y : MZ), hdN t n (st z) j = y ∧ ((OKR n v (a + 1) e z y s (ch9 t n tst G s i) ∧ fol y ∧ (tst (sP (zs y)) = 0 ∨ (i : Int) ≤ sP (ch9 t n tst G s i))) ∨ BDR t n (ch9 t n tst G s i) y) := fun i => by
    induction i with
    | zero =>
      obtain ⟨j, y, e1, h⟩ := hs z s g gs hp hr hl hd (blw_up (by omega) hb) hbT
      refine ⟨j, y, e1, ?_⟩
      rcases h with ⟨h, hf⟩ | h
      · refine Or.inl ⟨h.dn (by omega) hb, hf, Or.inr ?_⟩
        have := h.1.2.2.2.1
        show ((0 : Nat) : Int) ≤ sP (G s)
        omega
      · exact Or.inr h
    | succ i ih =>
      obtain ⟨j, y, e1, h⟩ := ih
      have es : ch9 t n tst G s (i + 1) = st9 t n tst G (ch9 t n tst G s i) := rfl
      rw [es]
      generalize ch9 t n tst G s i = c at h ⊢
      rcases h with ⟨h, hf, hpr⟩ | h
      · by_cases ht0 : tst (sP c) = 0
        · have e2 : st9 t n tst G c = c := if_neg (fun h9 => h9.2 ht0)
          rw [e2]
          exact ⟨j, y, e1, Or.inl ⟨h, hf, Or.inl (by rw [h.1.2.2.1]; exact ht0)⟩⟩
        · obtain ⟨⟨k1, k2, k3, k4, k5, k6⟩, N, n1, n2, n3, n4, n5, n6⟩ := h
          have e2 : st9 t n tst G c = ad9 (tst (sP c)) (G (nx9 t n c)) := if_pos ⟨k2, ht0⟩
          have hpr : (i : Int) ≤ sP c := hpr.resolve_left (by rw [k3]; exact ht0)
          have ho := ht (sP c) ht0
          have rg := tk_rg (t := t) (n := n) (p := sP c) hB (by omega)
          have q1 := rg.2.2.2 ho.2.2.2
          have hst := hh y k1 (k5.trans hd) (by rw [k3]; exact ht0)
          rw [k3] at hst
          generalize hz' : nxZ t n (u (psh (opE (tst (sP c))) (drZ v y))) = z' at hst
          have hU := hu (psh (opE (tst (sP c))) (drZ v y)) (k5.trans hd)
          have z1 : zs z' = nx9 t n (zs y) := by
            rw [← hz']
            show nx9 t n (zs (u _)) = _
            rw [hU.1]; rfl
          have z2 : zW z' = zW z ++ encL N := by
            rw [← hz']
            show zW (u _) = _
            rw [hU.2.1]
            show (dr v (zW y) (zS y)).1 = _
            rw [n3]
          have z3 : zS z' = opE (tst (sP c)) :: zS z := by
            rw [← hz']
            show zS (u _) = _
            rw [hU.2.2.1]
            show _ :: (dr v (zW y) (zS y)).2 = _
            rw [n3]
          have z4 : zD z' = d := by
            rw [← hz']
            show zD (u _) = _
            rw [hU.2.2.2.1]
            exact k5.trans hd
          have z5 : ∀ i, i < e → zT z' i = zT y i := fun i hi => by
            rw [← hz']
            show zT (u _) i = _
            rw [hU.2.2.2.2.1 i hi]; rfl
          have z6 : b → zT z' d = 0 := fun hb9 => by
            rw [← hz']
            exact hU.2.2.2.2.2 hb9
          have zp : sP (zs z') = tQ t n (sP c) := by rw [z1, ← k3]; rfl
          have cn : sP (nx9 t n c) = tQ t n (sP c) := rfl
          have cl : sL (nx9 t n c) = sL c := rfl
          have ll : ((sL c).length : Int) ≤ sP c := by rw [n1, List.length_append]; omega
          obtain ⟨j2, y2, e3, h2⟩ := hs z' (nx9 t n c) (by rw [z1]; exact k1) k2 (by rw [zp, cn]) (by rw [cn]; omega) (by rw [cl, cn]; omega) z4 (by rw [z3]; exact Or.inr (by omega)) z6
          have e4 : hdN t n (st z) (j + 1 + j2) = y2 := by rw [hdN_add, hdN_s, e1, hst, e3]
          rw [e2]
          refine ⟨j + 1 + j2, y2, e4, ?_⟩
          rcases h2 with ⟨h2, hf2⟩ | h2
          · left
            obtain ⟨⟨l1, l2, l3, l4, l5, l6⟩, M, m1, m2, m3, m4, m5, m6⟩ := h2
            rw [cl] at m1
            rw [cn] at m2 l4
            have lM : (sL (G (nx9 t n c))).length < 700 := by
              rw [m1, n1, List.length_append, List.length_append]
              omega
            refine ⟨⟨⟨l1, l2, l3, ⟨by show sP s ≤ sP (G (nx9 t n c)); omega, l4.2⟩, by rw [l5, z4, hd], fun i hi => by rw [l6 i hi, z5 i hi, k6 i hi]⟩, N ++ (M ++ [tst (sP c)]), ?_, ?_, ?_, okp_2 n4 m4 ho.1.2.1 ho.1.2.2, fun x hx => ?_, ?_⟩, hf2, Or.inr ?_⟩
            · show addL (sL (G (nx9 t n c))) (tst (sP c)) = _
              rw [addL_a lM, m1, n1, List.append_assoc, List.append_assoc]
            · show ((N ++ (M ++ [tst (sP c)])).length : Int) ≤ sP (G (nx9 t n c)) - sP s
              rw [List.length_append, List.length_append, List.length_cons, List.length_nil]
              omega
            · rw [← dr_dr (show v ≤ w by omega) (zS y2) (zW y2), m3]
              show dr v (zW z' ++ encL M) (zS z') = _
              rw [z2, z3, dr_1 (by omega), dr_b hb, encL_app, encL_app, encL_1]
              have ex : encX (tst (sP c)) = [opE (tst (sP c))] := by unfold encX; rw [if_neg (by omega), if_neg (by omega)]
              rw [ex, List.append_assoc, List.append_assoc]
            · rcases List.mem_append.mp hx with hx | hx
              · exact n5 x hx
              · rcases List.mem_append.mp hx with hx | hx
                · exact m5 x hx
                · rw [List.mem_singleton] at hx
                  rw [hx]
                  omega
            · exact fun h9 => n6 (List.append_eq_nil_iff.mp h9).1
            · show ((i + 1 : Nat) : Int) ≤ sP (G (nx9 t n c))
              omega
          · exact Or.inr h2.ad
      · have e2 : st9 t n tst G c = c := if_neg (fun h9 => by have := h.1; omega)
        rw [e2]
        exact ⟨j, y, e1, Or.inr h⟩
  obtain ⟨j, y, e1, h⟩ := key 700
  refine ⟨j, y, e1, ?_⟩
  rcases h with ⟨h, hf, hpr⟩ | h
  · refine Or.inl ⟨h, hf, ?_⟩
    rcases hpr with hpr | hpr
    · exact hpr
    · by_cases h0 : tst (sP (zs y)) = 0
      · exact h0
      · have k := ht _ h0
        have r := h.1.2.2.2.1
        have e3 := h.1.2.2.1
        exact absurd (end_n (t := t) (n := n) (p := sP (zs y)) hB (by omega) (by omega)) k.2.2.2
  · exact Or.inr h
end
