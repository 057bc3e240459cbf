/-! Calls, throws, catches, makings. -/
section
variable {l : Launch} {γ : Gh} {μ : MD} {d cb sb : Nat} {R : RR} {X : XX} {K : List Kd} {ρ m : Mm} {pc n : Nat} {ls : List (Option VV)} {st : List VV}
def g_cat : List VV → Nat
  | [] => 0
  | v :: r => (if v.1 = 1 then 2 else 1) + g_cat r
theorem g_cat_le {ad : Nat → Nat} : ∀ st : List VV, ((st.map (tv γ ad)).map fun v => v.category).sum ≤ g_cat st
  | [] => Nat.le_refl _
  | v :: r => by
    have ih := g_cat_le (ad := ad) r
    simp only [List.map_cons, List.sum_cons, g_cat]
    by_cases h : v.1 = 1
    · rw [if_pos h]
      have : (tv γ ad v).category ≤ 2 := by rcases lv_cat (tv γ ad v) with h | h <;> omega
      omega
    · rw [if_neg h, tv_cat h]
      omega
/-- an exception of class E lies over this point of the method -/
def gX (l : Launch) (γ : Gh) (μ : MD) (d cb sb : Nat) (R : RR) (X : XX) (K : List Kd) (ρ m : Mm) (pc : Nat) (ls : List (Option VV)) (E9 : String) : Prop :=
  ∀ (p : Program) (e : Env) (s : State) (mth : MethodId) (args : Array Value) (below : List Frame) (meth : Method) (c : Code) (A : Nat → Prop) (K0 : List Kd) (ad0 : Nat → Nat) (mc ms : Nat) (H : Heap) (locs : List Loc) (cells slots : Nat) (ad : Nat → Nat) (lsr : Array Slot) (rest : List Value) (q : Addr) (ce : Cell),
    g_Cx l γ μ p s mth args meth c A → g_Ex K0 ad0 K ad → va_P (g_D γ) vwCl (g_ws γ ad K ρ m) H → va_D A (g_ws γ ad K ρ m) → va_S A s.heap H locs → cells + cb ≤ mc → slots + sb ≤ ms → lv_has lsr μ.2.2.1 (g_ls γ ad ls) →
    H[q]? = some ce → ce.vm = .none → s.vm.findClass E9 = some ce.cls →
    vx_W p l e (g_rm d mc ms) s mth args below meth c H locs cells slots (vx_MQ below (g_Qc γ R K0 ad0 A) (g_Xc γ X K0 ad0 A) args s mc ms A) (F0 mth pc lsr rest) q
theorem tx_out {E9 : String} (hh : μ.2.2.2.2 = []) (h : X E9 K ρ m) : gX l γ μ d cb sb R X K ρ m pc ls E9 := by
  intro p e s mth args below meth c A K0 ad0 mc ms H locs cells slots ad lsr rest q ce C E P D S hc hs hl h1 h2 h3
  refine vx_out (fun x hx => ?_) C.2.2.2.2.1 h1 h2 h3 (fun t ht _ => ⟨⟨K, ρ, m, ad, h, E, by rw [ht]; exact P, D⟩, S.F ht⟩) S.2.2 (by omega) (by omega)
  rw [C.2.2.2.2.2.2.2.1, hh] at hx
  cases hx
theorem g_Asub {ad : Nat → Nat} {A : Nat → Prop} {s : State} {H : Heap} {locs : List Loc} (hA : ∀ q : Nat, s.heap.size ≤ q → A q) (D : va_D A (g_ws γ ad K ρ m)) (S : va_S A s.heap H locs) : ∀ q, g_A ad K H.size q → A q := by
  rintro q (⟨i, hi, rfl⟩ | h)
  · have h1 := g_ws_get γ ad K ρ m i
    rw [List.getElem?_eq_getElem hi, Option.map_some] at h1
    exact D.2 i _ h1
  · exact hA q (Nat.le_trans S.1 h)
theorem g_Dself {ad : Nat → Nat} {A : Nat → Prop} {sz : Nat} (D : va_D A (g_ws γ ad K ρ m)) : va_D (g_A ad K sz) (g_ws γ ad K ρ m) := by
  refine ⟨D.1, fun k q hk => Or.inl ?_⟩
  rw [g_ws_get] at hk
  obtain ⟨kd, h1, h2⟩ := Option.map_eq_some_iff.mp hk
  cases h2
  exact ⟨k, (List.getElem?_eq_some_iff.mp h1).1, rfl⟩
/-- what a call needs of the caller's point, for the callee -/
theorem g_pre {ad : Nat → Nat} {A : Nat → Prop} {p : Program} {s : State} {mth : MethodId} {args : Array Value} {meth : Method} {c : Code} {H : Heap} {locs : List Loc} {As : List VV} (C : g_Cx l γ μ p s mth args meth c A) (P : va_P (g_D γ) vwCl (g_ws γ ad K ρ m) H) (D : va_D A (g_ws γ ad K ρ m)) (S : va_S A s.heap H locs) (U : State) (hU : U.heap = H) (hW : s.WarmedH U.vm) : g_Pc γ ad K ρ m As H.size (As.map (tv γ ad)).toArray U := by
  refine ⟨rfl, by rw [hU], by rw [hU]; exact P, g_Dself D, ?_⟩
  rw [hU]
  obtain ⟨c1, c2, c3, c4, c5, c6, c7, c8, c9, c10, c11, c12⟩ := C
  exact (((c11.kept S.1 S.2.1).moved hW).narrow (g_Asub c10 D S))
/-- behind a call -/
theorem g_behind {d' : Nat} {mc' ms' cb' sb' : Nat} {R' : Option VV → Mm → Mm → Prop} {X' : String → Mm → Mm → Prop} {p : Program} {e : Env} {s : State} {mth : MethodId} {args a9 : Array Value} {below : List Frame} {meth : Method} {c : Code} {A : Nat → Prop} {K0 : List Kd} {ad0 : Nat → Nat} {mc ms : Nat} {H : Heap} {locs : List Loc} {cells slots : Nat} {ad : Nat → Nat} {lsr : Array Slot} {st0 : List Value}
    (C : g_Cx l γ μ p s mth args meth c A) (E : g_Ex K0 ad0 K ad) (D : va_D A (g_ws γ ad K ρ m)) (S : va_S A s.heap H locs) (hc : cells + cb ≤ mc) (hs : slots + sb ≤ ms) (hl : lv_has lsr μ.2.2.1 (g_ls γ ad ls)) (hcb : mc' + cb' ≤ cb) (hsb : ms' + sb' ≤ sb)
    (hr : vx_Run p l e (g_rm d mc ms) s mth args below meth c H locs cells slots mc' ms' (F0 mth pc lsr st0) (st.map (tv γ ad)) (g_Qc γ (rK K R') K ad (g_A ad K H.size) a9) (g_Xc γ (xK K X') K ad (g_A ad K H.size)) (g_A ad K H.size))
    (hn : pc + 3 = n) (kx : ∀ (E9 : String) (ρ' m' : Mm), X' E9 ρ' m' → gX l γ μ d cb' sb' R X K ρ' m' pc ls E9) (kk : ∀ (v : Option VV) (ρ' m' : Mm), R' v ρ' m' → gT l γ μ d cb' sb' R X K ρ' m' n ls (v.toList ++ st)) :
    W p l e (g_rm d mc ms) s mth args below meth c H locs cells slots (vx_MQ below (g_Qc γ R K0 ad0 A) (g_Xc γ X K0 ad0 A) args s mc ms A) (F0 mth pc lsr st0) := by
  subst hn
  have hA := g_Asub C.2.2.2.2.2.2.2.2.2.1 D S
  intro T hT Y
  rcases hr T hT Y with ⟨v, st₀, t, T', L, h0, Y', hL, e1, e2, ⟨⟨vv, K', ρ', m', ad', hv, ⟨rfl, hR⟩, hEx, hP, hD⟩, hF⟩, go⟩ | ⟨q, st₀, t, T', L, E9, ce, h0, Y', hL, e1, e2, ⟨⟨K', ρ', m', ad', ⟨rfl, hX⟩, hEx, hP, hD⟩, hF⟩, hce, hcv, hcl, go⟩
  · obtain ⟨k1, k2, k3⟩ := vx_keep h0 e1 S (fun q _ h => hA q h) hA hL hF
    have hadd := hEx.same
    subst hadd
    cases hv
    obtain ⟨t2, a1, b1⟩ := kk vv ρ' m' hR p e s mth args below meth c A K0 ad0 mc ms T'.heap (locs ++ L) (cells + mc') (slots + ms') ad' lsr C E (by rw [e1]; exact hP) (hD.weaken fun _ _ _ h => hA _ h) k3 (by omega) (by omega) hl T' rfl Y'
    refine ⟨t2, go t2 ?_, b1⟩
    cases vv <;> exact a1
  · obtain ⟨k1, k2, k3⟩ := vx_keep h0 e1 S (fun q _ h => hA q h) hA hL hF
    have hadd := hEx.same
    subst hadd
    obtain ⟨t2, a1, b1⟩ := kx E9 ρ' m' hX p e s mth args below meth c A K0 ad0 mc ms T'.heap (locs ++ L) (cells + mc') (slots + ms') ad' lsr (st.map (tv γ ad')) q ce C E (by rw [e1]; exact hP) (hD.weaken fun _ _ _ h => hA _ h) k3 (by omega) (by omega) hl (by rw [e1]; exact hce) hcv hcl T' rfl Y'
    exact ⟨t2, go.trans a1, b1⟩
theorem g_pay {μ' : MD} {args : Array Value} {s : State} (mo : g_MO μ') (h : ∀ w ∈ g_TS, w.before args s = true) : ∀ w ∈ g_w0 μ' :: g_TS, ∀ (a' : Array Value) (U : State), s.WarmedH U.vm → w.before a' U = true :=
  pay_in h fun w hw => by
    have : w ∈ g_TS := by
      rcases List.mem_cons.mp hw with rfl | h
      · exact mo.1
      · exact h
    exact ⟨this, good_of_word (g_goodTS w this)⟩
theorem g_np {μ' : MD} {k : Nat} (h : g_NP μ' k) : ∀ sig, parseMethodDescriptor μ'.1.desc = some sig → k = sig.parameters.length := fun sig hs => by
  unfold g_NP at h
  rw [hs] at h
  exact (Option.some.inj h).symm
/-- a callee that never throws, as a plain contract -/
theorem gE.met {mc ms : Nat} {args : List VV} {X' : XX} (hX : ∀ E K ρ m, ¬ X' E K ρ m) (h : gE l γ μ d mc ms R X' K ρ m args) (hst : l.stackTraces = false) (ad : Nat → Nat) (sz : Nat) : Met l μ.1 (g_w0 μ :: g_TS) (g_rm d mc ms) (g_Pc γ ad K ρ m args sz) (g_Qc γ R K ad (g_A ad K sz)) mc ms (g_A ad K sz) := by
  refine MetFree.imp (h hst ad sz) fun a s9 o t hq => ?_
  rcases hq with hq | ⟨q, -, E, ce, L, ⟨⟨K', ρ', m', ad', hx, -⟩, -⟩, -⟩
  · exact hq
  · exact absurd hx (hX _ _ _ _)
theorem va_Run.toX {p : Program} {e : Env} {Rm : Room} {s : State} {mth : MethodId} {args : Array Value} {below : List Frame} {meth : Method} {c : Code} {H : Heap} {locs : List Loc} {cells slots mc ms : Nat} {g : JFrame} {rest : List Value} {Qa : State → Outcome → State → Prop} {XC : String → State → State → Prop} {free : Addr → Prop} (h : va_Run p l e Rm s mth args below meth c H locs cells slots mc ms g rest Qa free) : vx_Run p l e Rm s mth args below meth c H locs cells slots mc ms g rest Qa XC free := fun T hT Y => Or.inl (h T hT Y)
end
