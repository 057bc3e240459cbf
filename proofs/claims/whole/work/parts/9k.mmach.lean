/-! Rules as the reference reads them: a machine of two stacks. -/
abbrev MZ : Type := PS × List Int × List Int × Int × (Int → Int)
def zs (z : MZ) : PS := z.1
def zW (z : MZ) : List Int := z.2.1
def zS (z : MZ) : List Int := z.2.2.1
def zD (z : MZ) : Int := z.2.2.2.1
def zT (z : MZ) : Int → Int := z.2.2.2.2
def mz (s : PS) (W S : List Int) (d : Int) (T : Int → Int) : MZ := (s, W, S, d, T)
def stg (a : Int) : Int := if a = 5 then 1 else if a = 4 then 2 else if a = 3 then 3 else if a = 6 ∨ a = 7 then 4 else if a = 8 ∨ a = 9 then 5 else 6
def dr (v : Int) : List Int → List Int → List Int × List Int
  | W, [] => (W, [])
  | W, x :: S => if 14 ≤ x ∨ stg x < v then (W, x :: S) else dr v (W ++ [x]) S
/-- what stands on top is weaker than v -/
def blw (v : Int) : List Int → Prop
  | [] => True
  | x :: _ => 14 ≤ x ∨ stg x < v
theorem dr_b {v : Int} {W : List Int} : ∀ {S : List Int}, blw v S → dr v W S = (W, S)
  | [], _ => rfl
  | _ :: _, h => if_pos h
theorem dr_1 {v x : Int} {W S : List Int} (h : ¬ (14 ≤ x ∨ stg x < v)) : dr v W (x :: S) = dr v (W ++ [x]) S := if_neg h
theorem dr_dr {v u : Int} (h : v ≤ u) : ∀ (S W : List Int), dr v (dr u W S).1 (dr u W S).2 = dr v W S
  | [], W => rfl
  | x :: S, W => by
    by_cases hx : 14 ≤ x ∨ stg x < u
    · have e : dr u W (x :: S) = (W, x :: S) := if_pos hx
      rw [e]
    · have e : dr u W (x :: S) = dr u (W ++ [x]) S := if_neg hx
      have e2 : dr v W (x :: S) = dr v (W ++ [x]) S := if_neg (by omega)
      rw [e, e2]
      exact dr_dr h S (W ++ [x])
theorem dr_len {v : Int} : ∀ (S W : List Int), (dr v W S).1.length + (dr v W S).2.length = W.length + S.length ∧ (dr v W S).2.length ≤ S.length
  | [], W => ⟨rfl, Nat.le_refl _⟩
  | x :: S, W => by
    by_cases hx : 14 ≤ x ∨ stg x < v
    · have e : dr v W (x :: S) = (W, x :: S) := if_pos hx
      rw [e]
      exact ⟨rfl, Nat.le_refl _⟩
    · have ih := dr_len (v := v) S (W ++ [x])
      rw [dr_1 hx]
      simp only [List.length_append, List.length_cons, List.length_nil] at ih ⊢
      omega
def encX (x : Int) : List Int := if x ≥ 0 then [1, x] else if x ≥ -5 then [2, -1 - x] else [opE x]
def encL (L : List Int) : List Int := L.flatMap encX
theorem encL_app (A B : List Int) : encL (A ++ B) = encL A ++ encL B := List.flatMap_append
theorem encL_1 (x : Int) : encL [x] = encX x := by unfold encL; simp
noncomputable def kwN (t : Int → Int) (n p : Int) : Int := if h : ∃ k : Nat, k < 13 ∧ wdI t n p (iW (k : Int)) = 1 then ((Classical.choose h : Nat) : Int) else -1
theorem kwN_is (t : Int → Int) (n p : Int) : isKw t n p (kwN t n p) := by
  unfold kwN
  by_cases h : ∃ k : Nat, k < 13 ∧ wdI t n p (iW (k : Int)) = 1
  · rw [dif_pos h]
    have c := Classical.choose_spec h
    exact Or.inr ⟨⟨by omega, by omega⟩, c.2⟩
  · rw [dif_neg h]
    refine Or.inl ⟨rfl, fun k hk => ?_⟩
    rcases wdI_01 (t := t) (n := n) (p := p) (i9 := iW (k : Int)) with h9 | h9
    · exact h9
    · exact absurd ⟨k, hk, h9⟩ h
theorem isKw_u {t : Int → Int} {n p x : Int} (h : isKw t n p x) : x = kwN t n p := by
  have k := kwN_is t n p
  rcases k with ⟨k1, k2⟩ | ⟨k1, k2⟩
  · rcases h with ⟨h1, _⟩ | ⟨h1, h2⟩
    · omega
    · have := k2 x.toNat (by omega)
      rw [show ((x.toNat : Nat) : Int) = x by omega] at this
      omega
  · have e := (h.eq (k := (kwN t n p).toNat) (by omega)).mpr (by rw [show (((kwN t n p).toNat : Nat) : Int) = kwN t n p by omega]; exact k2)
    omega
section
variable (t : Int → Int) (n : Int)
def drZ (v : Int) (z : MZ) : MZ := mz (zs z) (dr v (zW z) (zS z)).1 (dr v (zW z) (zS z)).2 (zD z) (zT z)
def psh (a : Int) (z : MZ) : MZ := mz (zs z) (zW z) (a :: zS z) (zD z) (zT z)
noncomputable def nxZ (z : MZ) : MZ := mz (nx9 t n (zs z)) (zW z) (zS z) (zD z) (zT z)
noncomputable def flZ (k : Int) (z : MZ) : MZ := mz (fl9 t n k (zs z)) (zW z) (zS z) (zD z) (zT z)
def tsZ (v : Int) (z : MZ) : MZ := mz (zs z) (zW z) (zS z) (zD z) (up (zT z) (zD z) v)
noncomputable def prt (z : MZ) : MZ := if (zs z).1 = 1 then
    (if tK t n (sP (zs z)) = 2 then mz (if 4 < tQ t n (sP (zs z)) - tA t n (sP (zs z)) then fl9 t n 2 (zs z) else nx9 t n (zs z)) (zW z ++ [1, tV t n (sP (zs z))]) (zS z) (zD z) (zT z)
    else if tK t n (sP (zs z)) = 1 then mz (if 0 ≤ kwN t n (sP (zs z)) ∧ kwN t n (sP (zs z)) ≤ 4 then nx9 t n (zs z) else fl9 t n 3 (zs z)) (zW z ++ [2, kwN t n (sP (zs z))]) (zS z) (zD z) (zT z)
    else flZ t n 1 z)
  else z
noncomputable def dpr (z : MZ) : MZ := if zD z < 6 then mz (zs z) (zW z) (zS z) (zD z + 1) (up (zT z) (zD z + 1) 0) else flZ t n (if cb9 t n (sP (zs z)) = 1 then 2 else 1) z
noncomputable def ntS (b : Int) (j : Nat) (z : MZ) : MZ := if (zs z).1 = 1 ∧ b ≠ 0 ∧ wdI t n (sP (zs z)) 7 = 1 then (if j = 6 then flZ t n 2 z else nxZ t n (psh 3 z)) else z
noncomputable def nots (b : Int) (z : MZ) (k : Nat) : MZ := fd (fun j y => ntS t n b j y) z k
noncomputable def opd : Nat → Int → MZ → MZ
  | 0, _, z => z
  | f + 1, b, z => if (zs z).1 = 1 then
      (if (zs (nots t n b z 7)).1 = 1 ∧ tK t n (sP (zs (nots t n b z 7))) = 40 then opd f 1 (dpr t n (nxZ t n (psh 14 (nots t n b z 7)))) else prt t n (nots t n b z 7))
    else z
noncomputable def opq (f : Nat) (z : MZ) : MZ := if (zs z).1 = 1 ∧ tK t n (sP (zs z)) = 40 then opd t n f 1 (dpr t n (nxZ t n (psh 14 z))) else prt t n z
noncomputable def fu (z : MZ) : Nat := (7 - zD z).toNat
noncomputable def hdS (z : MZ) : MZ := if (zs z).1 = 1 then
    (if wdI t n (sP (zs z)) 12 = 1 then opd t n (fu z) 1 (nxZ t n (tsZ 0 (psh 4 (drZ 2 z))))
    else if wdI t n (sP (zs z)) 13 = 1 then opd t n (fu z) 1 (nxZ t n (tsZ 0 (psh 5 (drZ 1 z))))
    else if (tK t n (sP (zs z)) = 60 ∨ tK t n (sP (zs z)) = 61) ∧ zT z (zD z) = 0 then opd t n (fu z) 0 (nxZ t n (tsZ 1 (psh (if tK t n (sP (zs z)) = 60 then 6 else 7) (drZ 4 z))))
    else if tK t n (sP (zs z)) = 43 ∨ tK t n (sP (zs z)) = 45 then opd t n (fu z) 0 (nxZ t n (psh (if tK t n (sP (zs z)) = 43 then 8 else 9) (drZ 5 z)))
    else if tK t n (sP (zs z)) = 42 ∨ tK t n (sP (zs z)) = 47 then opd t n (fu z) 0 (nxZ t n (psh (if tK t n (sP (zs z)) = 42 then 10 else 11) (drZ 6 z)))
    else if tK t n (sP (zs z)) = 41 ∧ 1 < zD z then nxZ t n (mz (zs z) (zW (drZ 0 z)) (zS (drZ 0 z)).tail (zD z - 1) (zT z))
    else z)
  else z
def stp (z : MZ) : Prop := (zs z).1 = 1 ∧ (wdI t n (sP (zs z)) 12 = 1 ∨ wdI t n (sP (zs z)) 13 = 1 ∨ ((tK t n (sP (zs z)) = 60 ∨ tK t n (sP (zs z)) = 61) ∧ zT z (zD z) = 0) ∨ (tK t n (sP (zs z)) = 43 ∨ tK t n (sP (zs z)) = 45) ∨ (tK t n (sP (zs z)) = 42 ∨ tK t n (sP (zs z)) = 47) ∨ (tK t n (sP (zs z)) = 41 ∧ 1 < zD z))
noncomputable def hdN (z : MZ) (k : Nat) : MZ := fd (fun _ y => hdS t n y) z k
end
section
variable {t : Int → Int} {n : Int}
theorem hd_stay {z : MZ} (h : ¬ stp t n z) : hdS t n z = z := by
  unfold hdS
  by_cases g : (zs z).1 = 1
  · have h' := fun k => h ⟨g, k⟩
    rw [if_pos g, if_neg (fun k => h' (Or.inl k)), if_neg (fun k => h' (Or.inr (Or.inl k))), if_neg (fun k => h' (Or.inr (Or.inr (Or.inl k)))), if_neg (fun k => h' (Or.inr (Or.inr (Or.inr (Or.inl k))))), if_neg (fun k => h' (Or.inr (Or.inr (Or.inr (Or.inr (Or.inl k)))))), if_neg (fun k => h' (Or.inr (Or.inr (Or.inr (Or.inr (Or.inr k))))))]
  · rw [if_neg g]
theorem hdN_s {z : MZ} (k : Nat) : hdN t n z (k + 1) = hdS t n (hdN t n z k) := rfl
theorem hdN_add {z : MZ} (j : Nat) : ∀ k, hdN t n z (j + k) = hdN t n (hdN t n z j) k
  | 0 => rfl
  | k + 1 => by
    show hdS t n (hdN t n z (j + k)) = hdS t n (hdN t n (hdN t n z j) k)
    rw [hdN_add j k]
theorem opd_s {f : Nat} {z : MZ} {b : Int} (g : (zs z).1 = 1) : opd t n (f + 1) b z = opq t n f (nots t n b z 7) := if_pos g
theorem nots_0 {z : MZ} : ∀ k, nots t n 0 z k = z
  | 0 => rfl
  | k + 1 => by
    show ntS t n 0 k (nots t n 0 z k) = z
    rw [nots_0 k]
    exact if_neg (fun h => h.2.1 rfl)
theorem opd_0 {f : Nat} {z : MZ} (g : (zs z).1 = 1) : opd t n (f + 1) 0 z = opq t n f z := by rw [opd_s g, nots_0]
end
/-- pushes one value, at most a above what was there -/
def OKp (N : List Int) (a : Nat) : Prop := ∀ (e : Nat) (R : List Int), e + a ≤ 40 → okL R (e + 1) → okL (N ++ R) e
theorem OKp.up {N : List Int} {a b : Nat} (h : OKp N a) (k : a ≤ b) : OKp N b := fun e R h1 h2 => h e R (by omega) h2
theorem okp_v {x : Int} (h : -5 ≤ x) : OKp [x] 1 := fun e R h1 h2 => by
  show okL (x :: R) e
  unfold okL
  rw [if_neg (by omega)]
  exact ⟨by omega, h2⟩
theorem okp_2 {A B : List Int} {x : Int} {a : Nat} (hA : OKp A (a + 1)) (hB : OKp B a) (h1 : x < -5) (h2 : x ≠ -8) : OKp (A ++ (B ++ [x])) (a + 1) := fun e R h3 h4 => by
  rw [List.append_assoc, List.append_assoc]
  refine hA e _ h3 (hB (e + 1) _ (by omega) ?_)
  show okL (x :: R) (e + 1 + 1)
  unfold okL
  rw [if_pos h1, if_neg h2]
  exact ⟨by omega, h4⟩
theorem okp_n {A : List Int} {a : Nat} (hA : OKp A a) : OKp (A ++ [-8]) a := fun e R h3 h4 => by
  rw [List.append_assoc]
  refine hA e _ h3 ?_
  show okL (-8 :: R) (e + 1)
  unfold okL
  rw [if_pos (by decide), if_pos rfl]
  exact ⟨by omega, h4⟩
theorem okp_ok {N : List Int} {a : Nat} (h : OKp N a) (ha : a ≤ 40) : okL N 0 := by
  have := h 0 [] (by omega) (show okL [] 1 from rfl)
  rw [List.append_nil] at this
  exact this
