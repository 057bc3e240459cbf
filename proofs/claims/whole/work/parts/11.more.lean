/-! Constructors' calls, constants, strings, copies; the call rows by the number of arguments. -/
section
variable {l : Launch} {γ : Gh} {μ : MD} {d cb sb : Nat} {R : RR} {X : XX} {K : List Kd} {ρ m : Mm} {pc n : Nat} {ls : List (Option VV)} {st : List VV}
variable {μ' : MD} {d' mc' ms' cb' sb' idx : Nat} {R' : Option VV → Mm → Mm → Prop} {X' : String → Mm → Mm → Prop}
theorem tv_ex {K' : List Kd} {ad ad' : Nat → Nat} {v : VV} (E : g_Ex K ad K' ad') (h : g_ok K v) : tv γ ad' v = tv γ ad v := by
  obtain ⟨t, x⟩ := v
  match t, h with
  | 0, _ => rfl
  | 1, _ => rfl
  | t + 2, h =>
    have hx : x ≤ (K.length : Int) := by
      rcases h with h | h
      · exact absurd h (by simp)
      · exact h
    show rv γ ad' x = rv γ ad x
    unfold rv
    split
    · rfl
    · split
      · rfl
      · rw [E.2 _ (Or.inl (by omega))]
theorem tz_ciG {RI : RR} {As : List VV} {r : Int} (hl9 : g_ML μ.1.cls idx μ'.1) (mo : g_MO μ') (mi : g_MI μ') (hh : μ'.2.2.2.2 = []) (hvd : μ'.2.2.2.1 = none) (np : g_NP μ' As.length) (hr : 0 < r) (hd : decode μ.2.1 pc = .ok (.invokespecial idx, 3)) (hn : pc + 3 = n) (hdd : d' + 1 ≤ d ∧ μ'.2.2.1 ≤ 40) (hcat : g_cat st ≤ 8) (hcb : mc' + cb' ≤ cb) (hsb : ms' + sb' ≤ sb)
    (hls : ∀ (i : Nat) (v : VV), ls[i]? = some (some v) → g_ok K v) (hst : ∀ v ∈ st, g_ok K v) (hE : gE l γ μ' d' mc' ms' RI xN K ρ m (vR r :: As)) (kk : ∀ (K' : List Kd) (ρ' m' : Mm), RI none K' ρ' m' → (∃ K1, K' = K ++ K1) → gT l γ μ d cb' sb' R X K' ρ' m' n ls st) (hR0 : ∀ v K' ρ' m', RI v K' ρ' m' → v = none) : gT l γ μ d cb sb R X K ρ m pc ls (As.reverse ++ vR r :: st) := by
  intro p e s mth args below meth c A K0 ad0 mc ms H locs cells slots ad lsr C E P D S hc hs hl
  have hcx := C
  obtain ⟨c1, c2, c3, c4, c5, c6, c7, c8, c9, c10, c11, c12⟩ := C
  have hsz : (F0 mth pc lsr ((As.reverse ++ vR r :: st).map (tv γ ad))).locals.size = c.maxLocals := by rw [c4]; exact hl.1
  have hfit : cells + mc' ≤ (g_rm d mc ms).cells ∧ slots + ms' ≤ (g_rm d mc ms).slots := ⟨show cells + mc' ≤ mc by omega, show slots + ms' ≤ ms by omega⟩
  have hWst : 2 * (F0 mth pc lsr ((As.reverse ++ vR r :: st).map (tv γ ad))).monitorRoom + ((st.map (tv γ ad)).map fun v => v.category).sum ≤ 8 := by
    have := g_cat_le (γ := γ) (ad := ad) st
    show 2 * 0 + _ ≤ 8
    omega
  have hpre : PreS s H (g_Pc γ ad K ρ m (vR r :: As) H.size) (.ref (ad r.toNat) :: As.map (tv γ ad)) := ⟨g_Pc_blind, fun U hU hW => by rw [g_arr hr]; exact g_pre hcx P D S U hU hW⟩
  have hM := hE.met (fun _ _ _ _ h => h) c12 ad H.size
  have hA := g_Asub c10 D S
  subst hn
  have hrun : va_Run p l e (g_rm d mc ms) s mth args below meth c H locs cells slots mc' ms' (F0 mth pc lsr ((As.reverse ++ vR r :: st).map (tv γ ad))) (st.map (tv γ ad)) (g_Qc γ RI K ad (g_A ad K H.size) (Value.ref (ad r.toNat) :: As.map (tv γ ad)).toArray) (g_A ad K H.size) := by
    rcases hl9 with hl9 | ⟨host, hl9⟩
    · have hcb9 := g_CB (μ := μ) (idx := idx) (mc' := mc') (ms' := ms') (mc := mc) (ms := ms) c9 mo hh np hdd hl9
      rw [hvd] at hcb9
      exact va_runI (g := F0 mth pc lsr ((As.reverse ++ vR r :: st).map (tv γ ad))) (e := e) (below := below) (meth := meth) (locs := locs) (S := ⟨c1, c2, rfl, c6, c9⟩) hM ⟨hcb9, mi.2, c9 _ mi.1⟩ hpre rfl (by simp) hsz (g_stk hr) hWst hd hfit
    · have hcn9 := g_CN (μ := μ) (idx := idx) (mc' := mc') (ms' := ms') (mc := mc) (ms := ms) c9 mo hh np hdd (c11.2.1 _ hl9)
      rw [hvd] at hcn9
      exact va_runIN (g := F0 mth pc lsr ((As.reverse ++ vR r :: st).map (tv γ ad))) (e := e) (below := below) (meth := meth) (locs := locs) (S := ⟨c1, c2, rfl, c6, c9⟩) hM ⟨hcn9, mi.2, c9 _ mi.1⟩ hpre rfl (by simp) hsz (g_stk hr) hWst hd hfit
  intro T hT Y
  obtain ⟨v, st₀, t, T', L, h0, Y', hL, e1, e2, ⟨⟨vv, K', ρ', m', ad', hv, hR, hEx, hP, hD⟩, hF⟩, go⟩ := hrun T hT Y
  obtain ⟨k1, k2, k3⟩ := vx_keep h0 e1 S (fun q _ h => hA q h) hA hL hF
  have hv0 := hR0 _ _ _ _ hR
  subst hv0
  cases hv
  obtain ⟨t2, a1, b1⟩ := kk K' ρ' m' hR hEx.1 p e s mth args below meth c A K0 ad0 mc ms T'.heap (locs ++ L) (cells + mc') (slots + ms') ad' lsr hcx (E.tr hEx) (by rw [e1]; exact hP) (hD.weaken fun _ _ _ h => hA _ h) k3 (by omega) (by omega) (g_ls_sub hl fun z hz => by
    obtain ⟨v9, hv9, h2⟩ := g_ls_mem.mp hz
    exact g_ls_mem.mpr ⟨v9, hv9, by rw [h2, tv_ex hEx (hls _ _ hv9)]⟩) T' rfl Y'
  refine ⟨t2, go t2 ?_, b1⟩
  rw [show st.map (tv γ ad') = st.map (tv γ ad) from List.map_congr_left fun v9 hv9 => tv_ex hEx (hst v9 hv9)] at a1
  exact a1
theorem tz_oinit {r : Int} (hr : 0 < r) (hl9 : Cond.methodLink μ.1.cls idx Lib.objectInit ∈ g_TS) (hi9 : Cond.instanceMethod Lib.objectInit ∈ g_TS) (hc9 : Cond.code Lib.objectInit ⟨#[0xb1]⟩ 1 none ∈ g_TS) (hd : decode μ.2.1 pc = .ok (.invokespecial idx, 3)) (hn : pc + 3 = n) (hdd : 1 ≤ d) (hcat : g_cat st ≤ 8) (k : gT l γ μ d cb sb R X K ρ m n ls st) : gT l γ μ d cb sb R X K ρ m pc ls (vR r :: st) := by
  subst hn
  intro p e s mth args below meth c A K0 ad0 mc ms H locs cells slots ad lsr C E P D S hc hs hl
  have k9 := k p e s mth args below meth c A K0 ad0 mc ms H locs cells slots ad lsr C E P D S hc hs hl
  have hcl := g_cat_le (γ := γ) (ad := ad) st
  obtain ⟨c1, c2, c3, c4, c5, c6, c7, c8, c9, c10, c11, c12⟩ := C
  simp only [List.map_cons, tv_R, rv_pos hr]
  exact W.objInit c1 c2 c6 (c9 _ hl9) (c9 _ hi9) (c9 _ hc9) rfl (by rw [c4]; exact hl.1) rfl hd (show 1 ≤ d from hdd) (show 2 * 0 + _ + 12 ≤ 60 * d by omega) k9
theorem tz_ldcI {v : Int32} (hw : Cond.constant μ.1.cls idx v ∈ g_TS) (hd : decode μ.2.1 pc = .ok (.ldc idx, 2)) (hn : pc + 2 = n) (k : gT l γ μ d cb sb R X K ρ m n ls (vI v.toInt :: st)) : gT l γ μ d cb sb R X K ρ m pc ls st := by
  subst hn
  intro p e s mth args below meth c A K0 ad0 mc ms H locs cells slots ad lsr C E P D S hc hs hl
  have k9 := k p e s mth args below meth c A K0 ad0 mc ms H locs cells slots ad lsr C E P D S hc hs hl
  obtain ⟨c1, c2, c3, c4, c5, c6, c7, c8, c9, c10, c11, c12⟩ := C
  simp only [List.map_cons, tv_I, Int32.ofInt_toInt] at k9
  exact W.ldc c1 c2 c6 (c9 _ hw) rfl hd k9
theorem tz_ldcwI {v : Int32} (hw : Cond.constant μ.1.cls idx v ∈ g_TS) (hd : decode μ.2.1 pc = .ok (.ldc_w idx, 3)) (hn : pc + 3 = n) (k : gT l γ μ d cb sb R X K ρ m n ls (vI v.toInt :: st)) : gT l γ μ d cb sb R X K ρ m pc ls st := by
  subst hn
  intro p e s mth args below meth c A K0 ad0 mc ms H locs cells slots ad lsr C E P D S hc hs hl
  have k9 := k p e s mth args below meth c A K0 ad0 mc ms H locs cells slots ad lsr C E P D S hc hs hl
  obtain ⟨c1, c2, c3, c4, c5, c6, c7, c8, c9, c10, c11, c12⟩ := C
  simp only [List.map_cons, tv_I, Int32.ofInt_toInt] at k9
  exact lv_ldcw c1 c2 c6 (c9 _ hw) hd k9
theorem tz_ldcL {v : Int64} (hw : Cond.constantLong μ.1.cls idx v ∈ g_TS) (hd : decode μ.2.1 pc = .ok (.ldc2_w idx, 3)) (hn : pc + 3 = n) (k : gT l γ μ d cb sb R X K ρ m n ls (vL v.toInt :: st)) : gT l γ μ d cb sb R X K ρ m pc ls st := by
  subst hn
  intro p e s mth args below meth c A K0 ad0 mc ms H locs cells slots ad lsr C E P D S hc hs hl
  have k9 := k p e s mth args below meth c A K0 ad0 mc ms H locs cells slots ad lsr C E P D S hc hs hl
  obtain ⟨c1, c2, c3, c4, c5, c6, c7, c8, c9, c10, c11, c12⟩ := C
  simp only [List.map_cons, tv_L, Int64.ofInt_toInt] at k9
  exact W.ldc2 c1 c2 c6 (c9 _ hw) rfl hd k9
/-- a text: special cell -(2 + 2 i) -/
theorem tz_ldcS {i9 : Nat} {text : String} (hs9 : g_st[i9]? = some (μ.1.cls, idx, text)) (hd : decode μ.2.1 pc = .ok (.ldc idx, 2)) (hn : pc + 2 = n) (k : gT l γ μ d cb sb R X K ρ m n ls (vR (-(2 + 2 * (i9 : Int))) :: st)) : gT l γ μ d cb sb R X K ρ m pc ls st := by
  subst hn
  intro p e s mth args below meth c A K0 ad0 mc ms H locs cells slots ad lsr C E P D S hc hs hl
  have k9 := k p e s mth args below meth c A K0 ad0 mc ms H locs cells slots ad lsr C E P D S hc hs hl
  obtain ⟨c1, c2, c3, c4, c5, c6, c7, c8, c9, c10, c11, c12⟩ := C
  simp only [List.map_cons, tv_R] at k9
  rw [rv_neg (by omega), show (- -(2 + 2 * (i9 : Int))).toNat = 2 + 2 * i9 by omega] at k9
  exact va_ldcS c1 c2 c6 (c11.2.2.2.2.2.2.1.1 i9 _ hs9) hd k9
theorem tz_strV {i9 : Nat} (hi : i9 < g_st.length) (hf : Cond.fieldLink μ.1.cls idx "java/lang/String" "value" "[B" ∈ g_TS) (hd : decode μ.2.1 pc = .ok (.getfield idx, 3)) (hn : pc + 3 = n) (k : gT l γ μ d cb sb R X K ρ m n ls (vR (-(3 + 2 * (i9 : Int))) :: st)) : gT l γ μ d cb sb R X K ρ m pc ls (vR (-(2 + 2 * (i9 : Int))) :: st) := by
  subst hn
  intro p e s mth args below meth c A K0 ad0 mc ms H locs cells slots ad lsr C E P D S hc hs hl
  have k9 := k p e s mth args below meth c A K0 ad0 mc ms H locs cells slots ad lsr C E P D S hc hs hl
  obtain ⟨c1, c2, c3, c4, c5, c6, c7, c8, c9, c10, c11, c12⟩ := C
  simp only [List.map_cons, tv_R] at k9 ⊢
  rw [rv_neg (by omega), show (- -(3 + 2 * (i9 : Int))).toNat = 3 + 2 * i9 by omega] at k9
  rw [rv_neg (by omega), show (- -(2 + 2 * (i9 : Int))).toNat = 2 + 2 * i9 by omega]
  exact vk_getf c1 c2 (c11.2.2.2.2.2.2.1.2.1 i9 hi).2.2.1 S c6 (c9 _ hf) (fun _ h => h) hd k9
theorem tz_strC {i9 : Nat} (hi : i9 < g_st.length) (hf : Cond.fieldLink μ.1.cls idx "java/lang/String" "coder" "B" ∈ g_TS) (hd : decode μ.2.1 pc = .ok (.getfield idx, 3)) (hn : pc + 3 = n) (k : gT l γ μ d cb sb R X K ρ m n ls (vI 0 :: st)) : gT l γ μ d cb sb R X K ρ m pc ls (vR (-(2 + 2 * (i9 : Int))) :: st) := by
  subst hn
  intro p e s mth args below meth c A K0 ad0 mc ms H locs cells slots ad lsr C E P D S hc hs hl
  have k9 := k p e s mth args below meth c A K0 ad0 mc ms H locs cells slots ad lsr C E P D S hc hs hl
  obtain ⟨c1, c2, c3, c4, c5, c6, c7, c8, c9, c10, c11, c12⟩ := C
  simp only [List.map_cons, tv_R, tv_I] at k9 ⊢
  rw [rv_neg (by omega), show (- -(2 + 2 * (i9 : Int))).toNat = 2 + 2 * i9 by omega]
  exact vk_getf c1 c2 (c11.2.2.2.2.2.2.1.2.1 i9 hi).2.1 S c6 (c9 _ hf) (fun _ h => h) hd k9
theorem tz_gcs (hf : Cond.fieldLink μ.1.cls idx "java/lang/String" "COMPACT_STRINGS" "Z" ∈ g_TS) (hd : decode μ.2.1 pc = .ok (.getstatic idx, 3)) (hn : pc + 3 = n) (k : gT l γ μ d cb sb R X K ρ m n ls (vI 1 :: st)) : gT l γ μ d cb sb R X K ρ m pc ls st := by
  subst hn
  intro p e s mth args below meth c A K0 ad0 mc ms H locs cells slots ad lsr C E P D S hc hs hl
  have k9 := k p e s mth args below meth c A K0 ad0 mc ms H locs cells slots ad lsr C E P D S hc hs hl
  obtain ⟨c1, c2, c3, c4, c5, c6, c7, c8, c9, c10, c11, c12⟩ := C
  simp only [List.map_cons, tv_I] at k9
  exact va_gets c1 c2 c11.2.2.2.2.2.1.1 S c6 (c9 _ hf) (fun _ h => h) hd k9
theorem tz_gsf (hf : Cond.fieldLink μ.1.cls idx "jdk/internal/util/Preconditions" "SIOOBE_FORMATTER" "Ljava/util/function/BiFunction;" ∈ g_TS) (hd : decode μ.2.1 pc = .ok (.getstatic idx, 3)) (hn : pc + 3 = n) (k0 : gT l γ μ d cb sb R X K ρ m n ls (vR 0 :: st)) (k1 : gT l γ μ d cb sb R X K ρ m n ls (vR (-1000) :: st)) : gT l γ μ d cb sb R X K ρ m pc ls st := by
  subst hn
  intro p e s mth args below meth c A K0 ad0 mc ms H locs cells slots ad lsr C E P D S hc hs hl
  have k8 := k0 p e s mth args below meth c A K0 ad0 mc ms H locs cells slots ad lsr C E P D S hc hs hl
  have k9 := k1 p e s mth args below meth c A K0 ad0 mc ms H locs cells slots ad lsr C E P D S hc hs hl
  obtain ⟨c1, c2, c3, c4, c5, c6, c7, c8, c9, c10, c11, c12⟩ := C
  simp only [List.map_cons, tv_R] at k8 k9
  rw [rv_neg (by decide), show (- -(1000 : Int)).toNat = 1000 by decide] at k9
  rw [show rv γ ad 0 = .null from rfl] at k8
  rcases c11.2.2.2.2.2.1.2 with h | h
  · exact va_gets c1 c2 h S c6 (c9 _ hf) (fun _ h => h) hd k8
  · exact va_gets c1 c2 h S c6 (c9 _ hf) (fun _ h => h) hd k9

def cpy (m : Mm) (a sp b dp k : Int) : Mm := fun r j => if r = b ∧ dp ≤ j ∧ j < dp + k then m a (sp + (j - dp)) else m r j
theorem cpy_ne {m : Mm} {a sp b dp k r : Int} (h : r ≠ b) : cpy m a sp b dp k r = m r := funext fun j => if_neg fun h9 => h h9.1
theorem tz_acopy {a b sp dp k : Int} {n0 n1 : Nat} (hl9 : Cond.methodLink μ.1.cls idx arraycopyName ∈ g_TS) (h1 : Cond.native arraycopyName ∈ g_TS) (h2 : Cond.static arraycopyName ∈ g_TS) (h3 : Cond.initialized "java/lang/System" ∈ g_TS) (ha : g_k K a = some (.inr (0, n0))) (hb : g_k K b = some (.inr (0, n1))) (hk : 0 ≤ sp ∧ 0 ≤ dp ∧ 0 ≤ k ∧ sp + k ≤ n0 ∧ dp + k ≤ n1 ∧ n0 < 2147483648 ∧ n1 < 2147483648) (hd : decode μ.2.1 pc = .ok (.invokestatic idx, 3)) (hn : pc + 3 = n) (hdd : 2 ≤ d) (hcat : g_cat st ≤ 8) (kk : gT l γ μ d cb sb R X K ρ (cpy m a sp b dp k) n ls st) : gT l γ μ d cb sb R X K ρ m pc ls (vI k :: vI dp :: vR b :: vI sp :: vR a :: st) := by
  subst hn
  intro p e s mth args below meth c A K0 ad0 mc ms H locs cells slots ad lsr C E P D S hc hs hl
  have hcx := C
  obtain ⟨c1, c2, c3, c4, c5, c6, c7, c8, c9, c10, c11, c12⟩ := C
  have a1 := g_k_spec ha
  have b1 := g_k_spec hb
  have ea := g_ws_at (γ := γ) (ad := ad) (ρ := ρ) (m := m) ha
  have eb := g_ws_at (γ := γ) (ad := ad) (ρ := ρ) (m := m) hb
  have hcl := g_cat_le (γ := γ) (ad := ad) st
  have i1 : (Int32.ofInt sp).toInt = sp := w32_id ⟨by omega, by omega⟩
  have i2 : (Int32.ofInt dp).toInt = dp := w32_id ⟨by omega, by omega⟩
  have i3 : (Int32.ofInt k).toInt = k := w32_id ⟨by omega, by omega⟩
  have j1 : (Int32.ofInt sp).toNatClampNeg = sp.toNat := by unfold Int32.toNatClampNeg; rw [i1]
  have j2 : (Int32.ofInt dp).toNatClampNeg = dp.toNat := by unfold Int32.toNatClampNeg; rw [i2]
  have j3 : (Int32.ofInt k).toNatClampNeg = k.toNat := by unfold Int32.toNatClampNeg; rw [i3]
  simp only [List.map_cons, tv_R, tv_I, rv_pos a1.1, rv_pos b1.1]
  have z0 : (0 : Int32).toInt = 0 := rfl
  refine va_copyi c1 c2 (by rw [c4]; exact hl.1.symm) c6 (c9 _ hl9) (c9 _ h1) (c9 _ h2) (c9 _ h3) c11.1 P D S _ _ 0 0 ea eb rfl rfl rfl (by rw [Int32.lt_iff_toInt_lt, i1, z0]; omega) (by rw [Int32.lt_iff_toInt_lt, i2, z0]; omega) (by rw [Int32.lt_iff_toInt_lt, i3, z0]; omega) (by rw [j1, j3]; omega) (by rw [j2, j3]; omega) (fun _ _ => rfl) (show 1 ≤ d by omega) ?_ hd ?_
  · have hw9 : nativeFrameWords "java/lang/System" "arraycopy" 5 + 11 ≤ 100 := by decide +kernel
    show _ + (nativeFrameWords "java/lang/System" "arraycopy" 5 + 11) ≤ 60 * d
    omega
  · rw [j1, j2, j3]
    have hf : va_cpy (fun i : Nat => Int32.ofInt (m a i)) (fun i : Nat => Int32.ofInt (m b i)) sp.toNat dp.toNat k.toNat = fun i : Nat => Int32.ofInt (cpy m a sp b dp k b i) := by
      funext i
      simp only [va_cpy, cpy, true_and]
      by_cases hi : dp.toNat ≤ i ∧ i < dp.toNat + k.toNat
      · rw [if_pos hi, if_pos (by omega)]
        congr 2
        omega
      · rw [if_neg hi, if_neg (by omega)]
    have hset : (g_ws γ ad K ρ m).set (b - 1).toNat (ad b.toNat, .inl (g_cA γ 0, n1, .inl (va_cpy (fun i : Nat => Int32.ofInt (m a i)) (fun i : Nat => Int32.ofInt (m b i)) sp.toNat dp.toNat k.toNat))) = g_ws γ ad K ρ (cpy m a sp b dp k) := by
      rw [hf]
      exact g_ws_set hb (ρ' := ρ) (m' := cpy m a sp b dp k) (fun _ _ => rfl) (fun r hr => cpy_ne hr)
    rw [hset]
    intro H1 locs1 P1 D1 S1
    exact kk p e s mth args below meth c A K0 ad0 mc ms H1 locs1 cells slots ad lsr hcx E P1 D1 S1 hc hs hl

theorem tz_mmax {x y : Int} (hl9 : Cond.methodLink μ.1.cls idx Lib.Math.max.name ∈ g_TS) (h2 : Cond.static Lib.Math.max.name ∈ g_TS) (h3 : Cond.initialized "java/lang/Math" ∈ g_TS) (h4 : Cond.code Lib.Math.max.name Lib.Math.max.code 2 (some .int) ∈ g_TS) (h : -2147483648 ≤ x ∧ x < 2147483648 ∧ -2147483648 ≤ y ∧ y < 2147483648) (hd : decode μ.2.1 pc = .ok (.invokestatic idx, 3)) (hn : pc + 3 = n) (hdd : 2 ≤ d) (hcat : g_cat st ≤ 8) (k : gT l γ μ d cb sb R X K ρ m n ls (vI (if x < y then y else x) :: st)) : gT l γ μ d cb sb R X K ρ m pc ls (vI y :: vI x :: st) := by
  subst hn
  intro p e s mth args below meth c A K0 ad0 mc ms H locs cells slots ad lsr C E P D S hc hs hl
  have k9 := k p e s mth args below meth c A K0 ad0 mc ms H locs cells slots ad lsr C E P D S hc hs hl
  have hcl := g_cat_le (γ := γ) (ad := ad) st
  obtain ⟨c1, c2, c3, c4, c5, c6, c7, c8, c9, c10, c11, c12⟩ := C
  refine va_mmax c1 c2 (by rw [c4]; exact hl.1.symm) c6 (c9 _ hl9) (c9 _ h2) (c9 _ h3) (c9 _ h4) (show 1 ≤ d by omega) (show _ + 13 ≤ 60 * d by omega) (show cells ≤ mc by omega) (show slots ≤ ms by omega) hd ?_
  have h9 : (if Int32.ofInt x < Int32.ofInt y then Int32.ofInt y else Int32.ofInt x) = Int32.ofInt (if x < y then y else x) := by
    by_cases hxy : x < y
    · rw [if_pos hxy, if_pos ((w32_lt h).mpr hxy)]
    · rw [if_neg hxy, if_neg (fun q => hxy ((w32_lt h).mp q))]
  rw [h9]
  exact k9

theorem tz_mmin {x y : Int} (hl9 : Cond.methodLink μ.1.cls idx Lib.Math.min.name ∈ g_TS) (h2 : Cond.static Lib.Math.min.name ∈ g_TS) (h3 : Cond.initialized "java/lang/Math" ∈ g_TS) (h4 : Cond.code Lib.Math.min.name Lib.Math.min.code 2 (some .int) ∈ g_TS) (h : -2147483648 ≤ x ∧ x < 2147483648 ∧ -2147483648 ≤ y ∧ y < 2147483648) (hd : decode μ.2.1 pc = .ok (.invokestatic idx, 3)) (hn : pc + 3 = n) (hdd : 2 ≤ d) (hcat : g_cat st ≤ 8) (k : gT l γ μ d cb sb R X K ρ m n ls (vI (if y < x then y else x) :: st)) : gT l γ μ d cb sb R X K ρ m pc ls (vI y :: vI x :: st) := by
  subst hn
  intro p e s mth args below meth c A K0 ad0 mc ms H locs cells slots ad lsr C E P D S hc hs hl
  have k9 := k p e s mth args below meth c A K0 ad0 mc ms H locs cells slots ad lsr C E P D S hc hs hl
  have hcl := g_cat_le (γ := γ) (ad := ad) st
  obtain ⟨c1, c2, c3, c4, c5, c6, c7, c8, c9, c10, c11, c12⟩ := C
  refine va_mmin c1 c2 (by rw [c4]; exact hl.1.symm) c6 (c9 _ hl9) (c9 _ h2) (c9 _ h3) (c9 _ h4) (show 1 ≤ d by omega) (show _ + 13 ≤ 60 * d by omega) (show cells ≤ mc by omega) (show slots ≤ ms by omega) hd ?_
  have h9 : (if Int32.ofInt y < Int32.ofInt x then Int32.ofInt y else Int32.ofInt x) = Int32.ofInt (if y < x then y else x) := by
    by_cases hxy : y < x
    · rw [if_pos hxy, if_pos ((w32_lt ⟨h.2.2.1, h.2.2.2, h.1, h.2.1⟩).mpr hxy)]
    · rw [if_neg hxy, if_neg (fun q => hxy ((w32_lt ⟨h.2.2.1, h.2.2.2, h.1, h.2.1⟩).mp q))]
  rw [h9]
  exact k9

theorem tz_cv0 {ci : Nat} {r : Int} (hl9 : g_ML μ.1.cls idx μ'.1) (mo : g_MO μ') (mv : g_MV μ') (hh : μ'.2.2.2.2 = []) (np : g_NP μ' 0) (hk : g_k K r = some (.inl ci)) (hcl : (vwCl[ci]?).map (fun q => q.1) = some μ'.1.cls) (hd : decode μ.2.1 pc = .ok (.invokevirtual idx, 3)) (hn : pc + 3 = n) (hdd : d' + 1 ≤ d ∧ μ'.2.2.1 ≤ 40) (hcat : g_cat st ≤ 8) (hcb : mc' + cb' ≤ cb) (hsb : ms' + sb' ≤ sb) (hE : gE l γ μ' d' mc' ms' (rK K R') xN K ρ m (vR r :: [])) (kk : ∀ (v : Option VV) (ρ9 m9 : Mm), R' v ρ9 m9 → gT l γ μ d cb' sb' R X K ρ9 m9 n ls (v.toList ++ st)) : gT l γ μ d cb sb R X K ρ m pc ls (vR r :: st) := tz_cvG (As := []) hl9 mo mv hh np hk hcl hd hn hdd hcat hcb hsb hE kk
theorem tz_cvx0 {ci : Nat} {r : Int} (hl9 : g_ML μ.1.cls idx μ'.1) (mo : g_MO μ') (mv : g_MV μ') (hh : μ'.2.2.2.2 = []) (np : g_NP μ' 0) (hk : g_k K r = some (.inl ci)) (hcl : (vwCl[ci]?).map (fun q => q.1) = some μ'.1.cls) (hd : decode μ.2.1 pc = .ok (.invokevirtual idx, 3)) (hn : pc + 3 = n) (hdd : d' + 1 ≤ d ∧ μ'.2.2.1 ≤ 40) (hcat : g_cat st ≤ 8) (hcb : mc' + cb' ≤ cb) (hsb : ms' + sb' ≤ sb) (hpl : Cond.methodLink μ.1.cls idx μ'.1 ∈ g_TS) (hE : gE l γ μ' d' mc' ms' (rK K R') (xK K X') K ρ m (vR r :: [])) (kx : ∀ (E9 : String) (ρ9 m9 : Mm), X' E9 ρ9 m9 → gX l γ μ d cb' sb' R X K ρ9 m9 pc ls E9) (kk : ∀ (v : Option VV) (ρ9 m9 : Mm), R' v ρ9 m9 → gT l γ μ d cb' sb' R X K ρ9 m9 n ls (v.toList ++ st)) : gT l γ μ d cb sb R X K ρ m pc ls (vR r :: st) := tz_cvxG (As := []) hl9 mo mv hh np hk hcl hd hn hdd hcat hcb hsb hpl hE kx kk
theorem tz_cs0 (hl9 : g_ML μ.1.cls idx μ'.1) (mo : g_MO μ') (mv : g_MS μ') (hh : μ'.2.2.2.2 = []) (np : g_NP μ' 0) (hd : decode μ.2.1 pc = .ok (.invokestatic idx, 3)) (hn : pc + 3 = n) (hdd : d' + 1 ≤ d ∧ μ'.2.2.1 ≤ 40) (hcat : g_cat st ≤ 8) (hcb : mc' + cb' ≤ cb) (hsb : ms' + sb' ≤ sb) (hE : gE l γ μ' d' mc' ms' (rK K R') xN K ρ m []) (kk : ∀ (v : Option VV) (ρ9 m9 : Mm), R' v ρ9 m9 → gT l γ μ d cb' sb' R X K ρ9 m9 n ls (v.toList ++ st)) : gT l γ μ d cb sb R X K ρ m pc ls (st) := tz_csG (As := []) hl9 mo mv hh np hd hn hdd hcat hcb hsb hE kk
theorem tz_csx0 (hl9 : g_ML μ.1.cls idx μ'.1) (mo : g_MO μ') (mv : g_MS μ') (hh : μ'.2.2.2.2 = []) (np : g_NP μ' 0) (hd : decode μ.2.1 pc = .ok (.invokestatic idx, 3)) (hn : pc + 3 = n) (hdd : d' + 1 ≤ d ∧ μ'.2.2.1 ≤ 40) (hcat : g_cat st ≤ 8) (hcb : mc' + cb' ≤ cb) (hsb : ms' + sb' ≤ sb) (hpl : Cond.methodLink μ.1.cls idx μ'.1 ∈ g_TS) (hE : gE l γ μ' d' mc' ms' (rK K R') (xK K X') K ρ m []) (kx : ∀ (E9 : String) (ρ9 m9 : Mm), X' E9 ρ9 m9 → gX l γ μ d cb' sb' R X K ρ9 m9 pc ls E9) (kk : ∀ (v : Option VV) (ρ9 m9 : Mm), R' v ρ9 m9 → gT l γ μ d cb' sb' R X K ρ9 m9 n ls (v.toList ++ st)) : gT l γ μ d cb sb R X K ρ m pc ls (st) := tz_csxG (As := []) hl9 mo mv hh np hd hn hdd hcat hcb hsb hpl hE kx kk
theorem tz_csh0 (hl9 : g_ML μ.1.cls idx μ'.1) (mo : g_MO μ') (mv : g_MS μ') {h0 : Nat × Nat × Nat × Nat} {h1 : List (Nat × Nat × Nat × Nat)} (hh : μ'.2.2.2.2 = h0 :: h1) (np : g_NP μ' 0) (hd : decode μ.2.1 pc = .ok (.invokestatic idx, 3)) (hn : pc + 3 = n) (hdd : d' + 1 ≤ d ∧ μ'.2.2.1 ≤ 40) (hcat : g_cat st ≤ 8) (hcb : mc' + cb' ≤ cb) (hsb : ms' + sb' ≤ sb) (hpl : Cond.methodLink μ.1.cls idx μ'.1 ∈ g_TS) (hE : gE l γ μ' d' mc' ms' (rK K R') xN K ρ m []) (kk : ∀ (v : Option VV) (ρ9 m9 : Mm), R' v ρ9 m9 → gT l γ μ d cb' sb' R X K ρ9 m9 n ls (v.toList ++ st)) : gT l γ μ d cb sb R X K ρ m pc ls (st) := tz_cshG (As := []) hl9 mo mv hh np hd hn hdd hcat hcb hsb hpl hE kk
theorem tz_cv1 {a1 : VV} {ci : Nat} {r : Int} (hl9 : g_ML μ.1.cls idx μ'.1) (mo : g_MO μ') (mv : g_MV μ') (hh : μ'.2.2.2.2 = []) (np : g_NP μ' 1) (hk : g_k K r = some (.inl ci)) (hcl : (vwCl[ci]?).map (fun q => q.1) = some μ'.1.cls) (hd : decode μ.2.1 pc = .ok (.invokevirtual idx, 3)) (hn : pc + 3 = n) (hdd : d' + 1 ≤ d ∧ μ'.2.2.1 ≤ 40) (hcat : g_cat st ≤ 8) (hcb : mc' + cb' ≤ cb) (hsb : ms' + sb' ≤ sb) (hE : gE l γ μ' d' mc' ms' (rK K R') xN K ρ m (vR r :: [a1])) (kk : ∀ (v : Option VV) (ρ9 m9 : Mm), R' v ρ9 m9 → gT l γ μ d cb' sb' R X K ρ9 m9 n ls (v.toList ++ st)) : gT l γ μ d cb sb R X K ρ m pc ls (a1 :: vR r :: st) := tz_cvG (As := [a1]) hl9 mo mv hh np hk hcl hd hn hdd hcat hcb hsb hE kk
theorem tz_cvx1 {a1 : VV} {ci : Nat} {r : Int} (hl9 : g_ML μ.1.cls idx μ'.1) (mo : g_MO μ') (mv : g_MV μ') (hh : μ'.2.2.2.2 = []) (np : g_NP μ' 1) (hk : g_k K r = some (.inl ci)) (hcl : (vwCl[ci]?).map (fun q => q.1) = some μ'.1.cls) (hd : decode μ.2.1 pc = .ok (.invokevirtual idx, 3)) (hn : pc + 3 = n) (hdd : d' + 1 ≤ d ∧ μ'.2.2.1 ≤ 40) (hcat : g_cat st ≤ 8) (hcb : mc' + cb' ≤ cb) (hsb : ms' + sb' ≤ sb) (hpl : Cond.methodLink μ.1.cls idx μ'.1 ∈ g_TS) (hE : gE l γ μ' d' mc' ms' (rK K R') (xK K X') K ρ m (vR r :: [a1])) (kx : ∀ (E9 : String) (ρ9 m9 : Mm), X' E9 ρ9 m9 → gX l γ μ d cb' sb' R X K ρ9 m9 pc ls E9) (kk : ∀ (v : Option VV) (ρ9 m9 : Mm), R' v ρ9 m9 → gT l γ μ d cb' sb' R X K ρ9 m9 n ls (v.toList ++ st)) : gT l γ μ d cb sb R X K ρ m pc ls (a1 :: vR r :: st) := tz_cvxG (As := [a1]) hl9 mo mv hh np hk hcl hd hn hdd hcat hcb hsb hpl hE kx kk
theorem tz_cs1 {a1 : VV} (hl9 : g_ML μ.1.cls idx μ'.1) (mo : g_MO μ') (mv : g_MS μ') (hh : μ'.2.2.2.2 = []) (np : g_NP μ' 1) (hd : decode μ.2.1 pc = .ok (.invokestatic idx, 3)) (hn : pc + 3 = n) (hdd : d' + 1 ≤ d ∧ μ'.2.2.1 ≤ 40) (hcat : g_cat st ≤ 8) (hcb : mc' + cb' ≤ cb) (hsb : ms' + sb' ≤ sb) (hE : gE l γ μ' d' mc' ms' (rK K R') xN K ρ m [a1]) (kk : ∀ (v : Option VV) (ρ9 m9 : Mm), R' v ρ9 m9 → gT l γ μ d cb' sb' R X K ρ9 m9 n ls (v.toList ++ st)) : gT l γ μ d cb sb R X K ρ m pc ls (a1 :: st) := tz_csG (As := [a1]) hl9 mo mv hh np hd hn hdd hcat hcb hsb hE kk
theorem tz_csx1 {a1 : VV} (hl9 : g_ML μ.1.cls idx μ'.1) (mo : g_MO μ') (mv : g_MS μ') (hh : μ'.2.2.2.2 = []) (np : g_NP μ' 1) (hd : decode μ.2.1 pc = .ok (.invokestatic idx, 3)) (hn : pc + 3 = n) (hdd : d' + 1 ≤ d ∧ μ'.2.2.1 ≤ 40) (hcat : g_cat st ≤ 8) (hcb : mc' + cb' ≤ cb) (hsb : ms' + sb' ≤ sb) (hpl : Cond.methodLink μ.1.cls idx μ'.1 ∈ g_TS) (hE : gE l γ μ' d' mc' ms' (rK K R') (xK K X') K ρ m [a1]) (kx : ∀ (E9 : String) (ρ9 m9 : Mm), X' E9 ρ9 m9 → gX l γ μ d cb' sb' R X K ρ9 m9 pc ls E9) (kk : ∀ (v : Option VV) (ρ9 m9 : Mm), R' v ρ9 m9 → gT l γ μ d cb' sb' R X K ρ9 m9 n ls (v.toList ++ st)) : gT l γ μ d cb sb R X K ρ m pc ls (a1 :: st) := tz_csxG (As := [a1]) hl9 mo mv hh np hd hn hdd hcat hcb hsb hpl hE kx kk
theorem tz_csh1 {a1 : VV} (hl9 : g_ML μ.1.cls idx μ'.1) (mo : g_MO μ') (mv : g_MS μ') {h0 : Nat × Nat × Nat × Nat} {h1 : List (Nat × Nat × Nat × Nat)} (hh : μ'.2.2.2.2 = h0 :: h1) (np : g_NP μ' 1) (hd : decode μ.2.1 pc = .ok (.invokestatic idx, 3)) (hn : pc + 3 = n) (hdd : d' + 1 ≤ d ∧ μ'.2.2.1 ≤ 40) (hcat : g_cat st ≤ 8) (hcb : mc' + cb' ≤ cb) (hsb : ms' + sb' ≤ sb) (hpl : Cond.methodLink μ.1.cls idx μ'.1 ∈ g_TS) (hE : gE l γ μ' d' mc' ms' (rK K R') xN K ρ m [a1]) (kk : ∀ (v : Option VV) (ρ9 m9 : Mm), R' v ρ9 m9 → gT l γ μ d cb' sb' R X K ρ9 m9 n ls (v.toList ++ st)) : gT l γ μ d cb sb R X K ρ m pc ls (a1 :: st) := tz_cshG (As := [a1]) hl9 mo mv hh np hd hn hdd hcat hcb hsb hpl hE kk
theorem tz_cv2 {a1 a2 : VV} {ci : Nat} {r : Int} (hl9 : g_ML μ.1.cls idx μ'.1) (mo : g_MO μ') (mv : g_MV μ') (hh : μ'.2.2.2.2 = []) (np : g_NP μ' 2) (hk : g_k K r = some (.inl ci)) (hcl : (vwCl[ci]?).map (fun q => q.1) = some μ'.1.cls) (hd : decode μ.2.1 pc = .ok (.invokevirtual idx, 3)) (hn : pc + 3 = n) (hdd : d' + 1 ≤ d ∧ μ'.2.2.1 ≤ 40) (hcat : g_cat st ≤ 8) (hcb : mc' + cb' ≤ cb) (hsb : ms' + sb' ≤ sb) (hE : gE l γ μ' d' mc' ms' (rK K R') xN K ρ m (vR r :: [a1, a2])) (kk : ∀ (v : Option VV) (ρ9 m9 : Mm), R' v ρ9 m9 → gT l γ μ d cb' sb' R X K ρ9 m9 n ls (v.toList ++ st)) : gT l γ μ d cb sb R X K ρ m pc ls (a2 :: a1 :: vR r :: st) := tz_cvG (As := [a1, a2]) hl9 mo mv hh np hk hcl hd hn hdd hcat hcb hsb hE kk
theorem tz_cvx2 {a1 a2 : VV} {ci : Nat} {r : Int} (hl9 : g_ML μ.1.cls idx μ'.1) (mo : g_MO μ') (mv : g_MV μ') (hh : μ'.2.2.2.2 = []) (np : g_NP μ' 2) (hk : g_k K r = some (.inl ci)) (hcl : (vwCl[ci]?).map (fun q => q.1) = some μ'.1.cls) (hd : decode μ.2.1 pc = .ok (.invokevirtual idx, 3)) (hn : pc + 3 = n) (hdd : d' + 1 ≤ d ∧ μ'.2.2.1 ≤ 40) (hcat : g_cat st ≤ 8) (hcb : mc' + cb' ≤ cb) (hsb : ms' + sb' ≤ sb) (hpl : Cond.methodLink μ.1.cls idx μ'.1 ∈ g_TS) (hE : gE l γ μ' d' mc' ms' (rK K R') (xK K X') K ρ m (vR r :: [a1, a2])) (kx : ∀ (E9 : String) (ρ9 m9 : Mm), X' E9 ρ9 m9 → gX l γ μ d cb' sb' R X K ρ9 m9 pc ls E9) (kk : ∀ (v : Option VV) (ρ9 m9 : Mm), R' v ρ9 m9 → gT l γ μ d cb' sb' R X K ρ9 m9 n ls (v.toList ++ st)) : gT l γ μ d cb sb R X K ρ m pc ls (a2 :: a1 :: vR r :: st) := tz_cvxG (As := [a1, a2]) hl9 mo mv hh np hk hcl hd hn hdd hcat hcb hsb hpl hE kx kk
theorem tz_cs2 {a1 a2 : VV} (hl9 : g_ML μ.1.cls idx μ'.1) (mo : g_MO μ') (mv : g_MS μ') (hh : μ'.2.2.2.2 = []) (np : g_NP μ' 2) (hd : decode μ.2.1 pc = .ok (.invokestatic idx, 3)) (hn : pc + 3 = n) (hdd : d' + 1 ≤ d ∧ μ'.2.2.1 ≤ 40) (hcat : g_cat st ≤ 8) (hcb : mc' + cb' ≤ cb) (hsb : ms' + sb' ≤ sb) (hE : gE l γ μ' d' mc' ms' (rK K R') xN K ρ m [a1, a2]) (kk : ∀ (v : Option VV) (ρ9 m9 : Mm), R' v ρ9 m9 → gT l γ μ d cb' sb' R X K ρ9 m9 n ls (v.toList ++ st)) : gT l γ μ d cb sb R X K ρ m pc ls (a2 :: a1 :: st) := tz_csG (As := [a1, a2]) hl9 mo mv hh np hd hn hdd hcat hcb hsb hE kk
theorem tz_csx2 {a1 a2 : VV} (hl9 : g_ML μ.1.cls idx μ'.1) (mo : g_MO μ') (mv : g_MS μ') (hh : μ'.2.2.2.2 = []) (np : g_NP μ' 2) (hd : decode μ.2.1 pc = .ok (.invokestatic idx, 3)) (hn : pc + 3 = n) (hdd : d' + 1 ≤ d ∧ μ'.2.2.1 ≤ 40) (hcat : g_cat st ≤ 8) (hcb : mc' + cb' ≤ cb) (hsb : ms' + sb' ≤ sb) (hpl : Cond.methodLink μ.1.cls idx μ'.1 ∈ g_TS) (hE : gE l γ μ' d' mc' ms' (rK K R') (xK K X') K ρ m [a1, a2]) (kx : ∀ (E9 : String) (ρ9 m9 : Mm), X' E9 ρ9 m9 → gX l γ μ d cb' sb' R X K ρ9 m9 pc ls E9) (kk : ∀ (v : Option VV) (ρ9 m9 : Mm), R' v ρ9 m9 → gT l γ μ d cb' sb' R X K ρ9 m9 n ls (v.toList ++ st)) : gT l γ μ d cb sb R X K ρ m pc ls (a2 :: a1 :: st) := tz_csxG (As := [a1, a2]) hl9 mo mv hh np hd hn hdd hcat hcb hsb hpl hE kx kk
theorem tz_csh2 {a1 a2 : VV} (hl9 : g_ML μ.1.cls idx μ'.1) (mo : g_MO μ') (mv : g_MS μ') {h0 : Nat × Nat × Nat × Nat} {h1 : List (Nat × Nat × Nat × Nat)} (hh : μ'.2.2.2.2 = h0 :: h1) (np : g_NP μ' 2) (hd : decode μ.2.1 pc = .ok (.invokestatic idx, 3)) (hn : pc + 3 = n) (hdd : d' + 1 ≤ d ∧ μ'.2.2.1 ≤ 40) (hcat : g_cat st ≤ 8) (hcb : mc' + cb' ≤ cb) (hsb : ms' + sb' ≤ sb) (hpl : Cond.methodLink μ.1.cls idx μ'.1 ∈ g_TS) (hE : gE l γ μ' d' mc' ms' (rK K R') xN K ρ m [a1, a2]) (kk : ∀ (v : Option VV) (ρ9 m9 : Mm), R' v ρ9 m9 → gT l γ μ d cb' sb' R X K ρ9 m9 n ls (v.toList ++ st)) : gT l γ μ d cb sb R X K ρ m pc ls (a2 :: a1 :: st) := tz_cshG (As := [a1, a2]) hl9 mo mv hh np hd hn hdd hcat hcb hsb hpl hE kk
theorem tz_cv3 {a1 a2 a3 : VV} {ci : Nat} {r : Int} (hl9 : g_ML μ.1.cls idx μ'.1) (mo : g_MO μ') (mv : g_MV μ') (hh : μ'.2.2.2.2 = []) (np : g_NP μ' 3) (hk : g_k K r = some (.inl ci)) (hcl : (vwCl[ci]?).map (fun q => q.1) = some μ'.1.cls) (hd : decode μ.2.1 pc = .ok (.invokevirtual idx, 3)) (hn : pc + 3 = n) (hdd : d' + 1 ≤ d ∧ μ'.2.2.1 ≤ 40) (hcat : g_cat st ≤ 8) (hcb : mc' + cb' ≤ cb) (hsb : ms' + sb' ≤ sb) (hE : gE l γ μ' d' mc' ms' (rK K R') xN K ρ m (vR r :: [a1, a2, a3])) (kk : ∀ (v : Option VV) (ρ9 m9 : Mm), R' v ρ9 m9 → gT l γ μ d cb' sb' R X K ρ9 m9 n ls (v.toList ++ st)) : gT l γ μ d cb sb R X K ρ m pc ls (a3 :: a2 :: a1 :: vR r :: st) := tz_cvG (As := [a1, a2, a3]) hl9 mo mv hh np hk hcl hd hn hdd hcat hcb hsb hE kk
theorem tz_cvx3 {a1 a2 a3 : VV} {ci : Nat} {r : Int} (hl9 : g_ML μ.1.cls idx μ'.1) (mo : g_MO μ') (mv : g_MV μ') (hh : μ'.2.2.2.2 = []) (np : g_NP μ' 3) (hk : g_k K r = some (.inl ci)) (hcl : (vwCl[ci]?).map (fun q => q.1) = some μ'.1.cls) (hd : decode μ.2.1 pc = .ok (.invokevirtual idx, 3)) (hn : pc + 3 = n) (hdd : d' + 1 ≤ d ∧ μ'.2.2.1 ≤ 40) (hcat : g_cat st ≤ 8) (hcb : mc' + cb' ≤ cb) (hsb : ms' + sb' ≤ sb) (hpl : Cond.methodLink μ.1.cls idx μ'.1 ∈ g_TS) (hE : gE l γ μ' d' mc' ms' (rK K R') (xK K X') K ρ m (vR r :: [a1, a2, a3])) (kx : ∀ (E9 : String) (ρ9 m9 : Mm), X' E9 ρ9 m9 → gX l γ μ d cb' sb' R X K ρ9 m9 pc ls E9) (kk : ∀ (v : Option VV) (ρ9 m9 : Mm), R' v ρ9 m9 → gT l γ μ d cb' sb' R X K ρ9 m9 n ls (v.toList ++ st)) : gT l γ μ d cb sb R X K ρ m pc ls (a3 :: a2 :: a1 :: vR r :: st) := tz_cvxG (As := [a1, a2, a3]) hl9 mo mv hh np hk hcl hd hn hdd hcat hcb hsb hpl hE kx kk
theorem tz_cs3 {a1 a2 a3 : VV} (hl9 : g_ML μ.1.cls idx μ'.1) (mo : g_MO μ') (mv : g_MS μ') (hh : μ'.2.2.2.2 = []) (np : g_NP μ' 3) (hd : decode μ.2.1 pc = .ok (.invokestatic idx, 3)) (hn : pc + 3 = n) (hdd : d' + 1 ≤ d ∧ μ'.2.2.1 ≤ 40) (hcat : g_cat st ≤ 8) (hcb : mc' + cb' ≤ cb) (hsb : ms' + sb' ≤ sb) (hE : gE l γ μ' d' mc' ms' (rK K R') xN K ρ m [a1, a2, a3]) (kk : ∀ (v : Option VV) (ρ9 m9 : Mm), R' v ρ9 m9 → gT l γ μ d cb' sb' R X K ρ9 m9 n ls (v.toList ++ st)) : gT l γ μ d cb sb R X K ρ m pc ls (a3 :: a2 :: a1 :: st) := tz_csG (As := [a1, a2, a3]) hl9 mo mv hh np hd hn hdd hcat hcb hsb hE kk
theorem tz_csx3 {a1 a2 a3 : VV} (hl9 : g_ML μ.1.cls idx μ'.1) (mo : g_MO μ') (mv : g_MS μ') (hh : μ'.2.2.2.2 = []) (np : g_NP μ' 3) (hd : decode μ.2.1 pc = .ok (.invokestatic idx, 3)) (hn : pc + 3 = n) (hdd : d' + 1 ≤ d ∧ μ'.2.2.1 ≤ 40) (hcat : g_cat st ≤ 8) (hcb : mc' + cb' ≤ cb) (hsb : ms' + sb' ≤ sb) (hpl : Cond.methodLink μ.1.cls idx μ'.1 ∈ g_TS) (hE : gE l γ μ' d' mc' ms' (rK K R') (xK K X') K ρ m [a1, a2, a3]) (kx : ∀ (E9 : String) (ρ9 m9 : Mm), X' E9 ρ9 m9 → gX l γ μ d cb' sb' R X K ρ9 m9 pc ls E9) (kk : ∀ (v : Option VV) (ρ9 m9 : Mm), R' v ρ9 m9 → gT l γ μ d cb' sb' R X K ρ9 m9 n ls (v.toList ++ st)) : gT l γ μ d cb sb R X K ρ m pc ls (a3 :: a2 :: a1 :: st) := tz_csxG (As := [a1, a2, a3]) hl9 mo mv hh np hd hn hdd hcat hcb hsb hpl hE kx kk
theorem tz_csh3 {a1 a2 a3 : VV} (hl9 : g_ML μ.1.cls idx μ'.1) (mo : g_MO μ') (mv : g_MS μ') {h0 : Nat × Nat × Nat × Nat} {h1 : List (Nat × Nat × Nat × Nat)} (hh : μ'.2.2.2.2 = h0 :: h1) (np : g_NP μ' 3) (hd : decode μ.2.1 pc = .ok (.invokestatic idx, 3)) (hn : pc + 3 = n) (hdd : d' + 1 ≤ d ∧ μ'.2.2.1 ≤ 40) (hcat : g_cat st ≤ 8) (hcb : mc' + cb' ≤ cb) (hsb : ms' + sb' ≤ sb) (hpl : Cond.methodLink μ.1.cls idx μ'.1 ∈ g_TS) (hE : gE l γ μ' d' mc' ms' (rK K R') xN K ρ m [a1, a2, a3]) (kk : ∀ (v : Option VV) (ρ9 m9 : Mm), R' v ρ9 m9 → gT l γ μ d cb' sb' R X K ρ9 m9 n ls (v.toList ++ st)) : gT l γ μ d cb sb R X K ρ m pc ls (a3 :: a2 :: a1 :: st) := tz_cshG (As := [a1, a2, a3]) hl9 mo mv hh np hd hn hdd hcat hcb hsb hpl hE kk
theorem tz_cv4 {a1 a2 a3 a4 : VV} {ci : Nat} {r : Int} (hl9 : g_ML μ.1.cls idx μ'.1) (mo : g_MO μ') (mv : g_MV μ') (hh : μ'.2.2.2.2 = []) (np : g_NP μ' 4) (hk : g_k K r = some (.inl ci)) (hcl : (vwCl[ci]?).map (fun q => q.1) = some μ'.1.cls) (hd : decode μ.2.1 pc = .ok (.invokevirtual idx, 3)) (hn : pc + 3 = n) (hdd : d' + 1 ≤ d ∧ μ'.2.2.1 ≤ 40) (hcat : g_cat st ≤ 8) (hcb : mc' + cb' ≤ cb) (hsb : ms' + sb' ≤ sb) (hE : gE l γ μ' d' mc' ms' (rK K R') xN K ρ m (vR r :: [a1, a2, a3, a4])) (kk : ∀ (v : Option VV) (ρ9 m9 : Mm), R' v ρ9 m9 → gT l γ μ d cb' sb' R X K ρ9 m9 n ls (v.toList ++ st)) : gT l γ μ d cb sb R X K ρ m pc ls (a4 :: a3 :: a2 :: a1 :: vR r :: st) := tz_cvG (As := [a1, a2, a3, a4]) hl9 mo mv hh np hk hcl hd hn hdd hcat hcb hsb hE kk
theorem tz_cvx4 {a1 a2 a3 a4 : VV} {ci : Nat} {r : Int} (hl9 : g_ML μ.1.cls idx μ'.1) (mo : g_MO μ') (mv : g_MV μ') (hh : μ'.2.2.2.2 = []) (np : g_NP μ' 4) (hk : g_k K r = some (.inl ci)) (hcl : (vwCl[ci]?).map (fun q => q.1) = some μ'.1.cls) (hd : decode μ.2.1 pc = .ok (.invokevirtual idx, 3)) (hn : pc + 3 = n) (hdd : d' + 1 ≤ d ∧ μ'.2.2.1 ≤ 40) (hcat : g_cat st ≤ 8) (hcb : mc' + cb' ≤ cb) (hsb : ms' + sb' ≤ sb) (hpl : Cond.methodLink μ.1.cls idx μ'.1 ∈ g_TS) (hE : gE l γ μ' d' mc' ms' (rK K R') (xK K X') K ρ m (vR r :: [a1, a2, a3, a4])) (kx : ∀ (E9 : String) (ρ9 m9 : Mm), X' E9 ρ9 m9 → gX l γ μ d cb' sb' R X K ρ9 m9 pc ls E9) (kk : ∀ (v : Option VV) (ρ9 m9 : Mm), R' v ρ9 m9 → gT l γ μ d cb' sb' R X K ρ9 m9 n ls (v.toList ++ st)) : gT l γ μ d cb sb R X K ρ m pc ls (a4 :: a3 :: a2 :: a1 :: vR r :: st) := tz_cvxG (As := [a1, a2, a3, a4]) hl9 mo mv hh np hk hcl hd hn hdd hcat hcb hsb hpl hE kx kk
theorem tz_cs4 {a1 a2 a3 a4 : VV} (hl9 : g_ML μ.1.cls idx μ'.1) (mo : g_MO μ') (mv : g_MS μ') (hh : μ'.2.2.2.2 = []) (np : g_NP μ' 4) (hd : decode μ.2.1 pc = .ok (.invokestatic idx, 3)) (hn : pc + 3 = n) (hdd : d' + 1 ≤ d ∧ μ'.2.2.1 ≤ 40) (hcat : g_cat st ≤ 8) (hcb : mc' + cb' ≤ cb) (hsb : ms' + sb' ≤ sb) (hE : gE l γ μ' d' mc' ms' (rK K R') xN K ρ m [a1, a2, a3, a4]) (kk : ∀ (v : Option VV) (ρ9 m9 : Mm), R' v ρ9 m9 → gT l γ μ d cb' sb' R X K ρ9 m9 n ls (v.toList ++ st)) : gT l γ μ d cb sb R X K ρ m pc ls (a4 :: a3 :: a2 :: a1 :: st) := tz_csG (As := [a1, a2, a3, a4]) hl9 mo mv hh np hd hn hdd hcat hcb hsb hE kk
theorem tz_csx4 {a1 a2 a3 a4 : VV} (hl9 : g_ML μ.1.cls idx μ'.1) (mo : g_MO μ') (mv : g_MS μ') (hh : μ'.2.2.2.2 = []) (np : g_NP μ' 4) (hd : decode μ.2.1 pc = .ok (.invokestatic idx, 3)) (hn : pc + 3 = n) (hdd : d' + 1 ≤ d ∧ μ'.2.2.1 ≤ 40) (hcat : g_cat st ≤ 8) (hcb : mc' + cb' ≤ cb) (hsb : ms' + sb' ≤ sb) (hpl : Cond.methodLink μ.1.cls idx μ'.1 ∈ g_TS) (hE : gE l γ μ' d' mc' ms' (rK K R') (xK K X') K ρ m [a1, a2, a3, a4]) (kx : ∀ (E9 : String) (ρ9 m9 : Mm), X' E9 ρ9 m9 → gX l γ μ d cb' sb' R X K ρ9 m9 pc ls E9) (kk : ∀ (v : Option VV) (ρ9 m9 : Mm), R' v ρ9 m9 → gT l γ μ d cb' sb' R X K ρ9 m9 n ls (v.toList ++ st)) : gT l γ μ d cb sb R X K ρ m pc ls (a4 :: a3 :: a2 :: a1 :: st) := tz_csxG (As := [a1, a2, a3, a4]) hl9 mo mv hh np hd hn hdd hcat hcb hsb hpl hE kx kk
theorem tz_csh4 {a1 a2 a3 a4 : VV} (hl9 : g_ML μ.1.cls idx μ'.1) (mo : g_MO μ') (mv : g_MS μ') {h0 : Nat × Nat × Nat × Nat} {h1 : List (Nat × Nat × Nat × Nat)} (hh : μ'.2.2.2.2 = h0 :: h1) (np : g_NP μ' 4) (hd : decode μ.2.1 pc = .ok (.invokestatic idx, 3)) (hn : pc + 3 = n) (hdd : d' + 1 ≤ d ∧ μ'.2.2.1 ≤ 40) (hcat : g_cat st ≤ 8) (hcb : mc' + cb' ≤ cb) (hsb : ms' + sb' ≤ sb) (hpl : Cond.methodLink μ.1.cls idx μ'.1 ∈ g_TS) (hE : gE l γ μ' d' mc' ms' (rK K R') xN K ρ m [a1, a2, a3, a4]) (kk : ∀ (v : Option VV) (ρ9 m9 : Mm), R' v ρ9 m9 → gT l γ μ d cb' sb' R X K ρ9 m9 n ls (v.toList ++ st)) : gT l γ μ d cb sb R X K ρ m pc ls (a4 :: a3 :: a2 :: a1 :: st) := tz_cshG (As := [a1, a2, a3, a4]) hl9 mo mv hh np hd hn hdd hcat hcb hsb hpl hE kk
theorem tz_cv5 {a1 a2 a3 a4 a5 : VV} {ci : Nat} {r : Int} (hl9 : g_ML μ.1.cls idx μ'.1) (mo : g_MO μ') (mv : g_MV μ') (hh : μ'.2.2.2.2 = []) (np : g_NP μ' 5) (hk : g_k K r = some (.inl ci)) (hcl : (vwCl[ci]?).map (fun q => q.1) = some μ'.1.cls) (hd : decode μ.2.1 pc = .ok (.invokevirtual idx, 3)) (hn : pc + 3 = n) (hdd : d' + 1 ≤ d ∧ μ'.2.2.1 ≤ 40) (hcat : g_cat st ≤ 8) (hcb : mc' + cb' ≤ cb) (hsb : ms' + sb' ≤ sb) (hE : gE l γ μ' d' mc' ms' (rK K R') xN K ρ m (vR r :: [a1, a2, a3, a4, a5])) (kk : ∀ (v : Option VV) (ρ9 m9 : Mm), R' v ρ9 m9 → gT l γ μ d cb' sb' R X K ρ9 m9 n ls (v.toList ++ st)) : gT l γ μ d cb sb R X K ρ m pc ls (a5 :: a4 :: a3 :: a2 :: a1 :: vR r :: st) := tz_cvG (As := [a1, a2, a3, a4, a5]) hl9 mo mv hh np hk hcl hd hn hdd hcat hcb hsb hE kk
theorem tz_cvx5 {a1 a2 a3 a4 a5 : VV} {ci : Nat} {r : Int} (hl9 : g_ML μ.1.cls idx μ'.1) (mo : g_MO μ') (mv : g_MV μ') (hh : μ'.2.2.2.2 = []) (np : g_NP μ' 5) (hk : g_k K r = some (.inl ci)) (hcl : (vwCl[ci]?).map (fun q => q.1) = some μ'.1.cls) (hd : decode μ.2.1 pc = .ok (.invokevirtual idx, 3)) (hn : pc + 3 = n) (hdd : d' + 1 ≤ d ∧ μ'.2.2.1 ≤ 40) (hcat : g_cat st ≤ 8) (hcb : mc' + cb' ≤ cb) (hsb : ms' + sb' ≤ sb) (hpl : Cond.methodLink μ.1.cls idx μ'.1 ∈ g_TS) (hE : gE l γ μ' d' mc' ms' (rK K R') (xK K X') K ρ m (vR r :: [a1, a2, a3, a4, a5])) (kx : ∀ (E9 : String) (ρ9 m9 : Mm), X' E9 ρ9 m9 → gX l γ μ d cb' sb' R X K ρ9 m9 pc ls E9) (kk : ∀ (v : Option VV) (ρ9 m9 : Mm), R' v ρ9 m9 → gT l γ μ d cb' sb' R X K ρ9 m9 n ls (v.toList ++ st)) : gT l γ μ d cb sb R X K ρ m pc ls (a5 :: a4 :: a3 :: a2 :: a1 :: vR r :: st) := tz_cvxG (As := [a1, a2, a3, a4, a5]) hl9 mo mv hh np hk hcl hd hn hdd hcat hcb hsb hpl hE kx kk
theorem tz_cs5 {a1 a2 a3 a4 a5 : VV} (hl9 : g_ML μ.1.cls idx μ'.1) (mo : g_MO μ') (mv : g_MS μ') (hh : μ'.2.2.2.2 = []) (np : g_NP μ' 5) (hd : decode μ.2.1 pc = .ok (.invokestatic idx, 3)) (hn : pc + 3 = n) (hdd : d' + 1 ≤ d ∧ μ'.2.2.1 ≤ 40) (hcat : g_cat st ≤ 8) (hcb : mc' + cb' ≤ cb) (hsb : ms' + sb' ≤ sb) (hE : gE l γ μ' d' mc' ms' (rK K R') xN K ρ m [a1, a2, a3, a4, a5]) (kk : ∀ (v : Option VV) (ρ9 m9 : Mm), R' v ρ9 m9 → gT l γ μ d cb' sb' R X K ρ9 m9 n ls (v.toList ++ st)) : gT l γ μ d cb sb R X K ρ m pc ls (a5 :: a4 :: a3 :: a2 :: a1 :: st) := tz_csG (As := [a1, a2, a3, a4, a5]) hl9 mo mv hh np hd hn hdd hcat hcb hsb hE kk
theorem tz_csx5 {a1 a2 a3 a4 a5 : VV} (hl9 : g_ML μ.1.cls idx μ'.1) (mo : g_MO μ') (mv : g_MS μ') (hh : μ'.2.2.2.2 = []) (np : g_NP μ' 5) (hd : decode μ.2.1 pc = .ok (.invokestatic idx, 3)) (hn : pc + 3 = n) (hdd : d' + 1 ≤ d ∧ μ'.2.2.1 ≤ 40) (hcat : g_cat st ≤ 8) (hcb : mc' + cb' ≤ cb) (hsb : ms' + sb' ≤ sb) (hpl : Cond.methodLink μ.1.cls idx μ'.1 ∈ g_TS) (hE : gE l γ μ' d' mc' ms' (rK K R') (xK K X') K ρ m [a1, a2, a3, a4, a5]) (kx : ∀ (E9 : String) (ρ9 m9 : Mm), X' E9 ρ9 m9 → gX l γ μ d cb' sb' R X K ρ9 m9 pc ls E9) (kk : ∀ (v : Option VV) (ρ9 m9 : Mm), R' v ρ9 m9 → gT l γ μ d cb' sb' R X K ρ9 m9 n ls (v.toList ++ st)) : gT l γ μ d cb sb R X K ρ m pc ls (a5 :: a4 :: a3 :: a2 :: a1 :: st) := tz_csxG (As := [a1, a2, a3, a4, a5]) hl9 mo mv hh np hd hn hdd hcat hcb hsb hpl hE kx kk
theorem tz_csh5 {a1 a2 a3 a4 a5 : VV} (hl9 : g_ML μ.1.cls idx μ'.1) (mo : g_MO μ') (mv : g_MS μ') {h0 : Nat × Nat × Nat × Nat} {h1 : List (Nat × Nat × Nat × Nat)} (hh : μ'.2.2.2.2 = h0 :: h1) (np : g_NP μ' 5) (hd : decode μ.2.1 pc = .ok (.invokestatic idx, 3)) (hn : pc + 3 = n) (hdd : d' + 1 ≤ d ∧ μ'.2.2.1 ≤ 40) (hcat : g_cat st ≤ 8) (hcb : mc' + cb' ≤ cb) (hsb : ms' + sb' ≤ sb) (hpl : Cond.methodLink μ.1.cls idx μ'.1 ∈ g_TS) (hE : gE l γ μ' d' mc' ms' (rK K R') xN K ρ m [a1, a2, a3, a4, a5]) (kk : ∀ (v : Option VV) (ρ9 m9 : Mm), R' v ρ9 m9 → gT l γ μ d cb' sb' R X K ρ9 m9 n ls (v.toList ++ st)) : gT l γ μ d cb sb R X K ρ m pc ls (a5 :: a4 :: a3 :: a2 :: a1 :: st) := tz_cshG (As := [a1, a2, a3, a4, a5]) hl9 mo mv hh np hd hn hdd hcat hcb hsb hpl hE kk
end
theorem g_tw {L : List Cond} (h : L.all (fun w => decide (w ∈ lw_tbl) && goodWord w || decide (w ∈ tables_1) && g_isN w) = true) : ∀ w ∈ L, w ∈ g_TS ∨ w ∈ g_NS := fun w hw => by
  have := List.all_eq_true.mp h w hw
  simp only [Bool.or_eq_true, Bool.and_eq_true, decide_eq_true_eq] at this
  exact this.imp (fun h => List.mem_filter.mpr h) (fun h => List.mem_filter.mpr h)
theorem tw_N : g_TW RX10 410 "java/util/NoSuchElementException" "java/lang/RuntimeException" 13 prog_31_method_4_code ["java/lang/Exception"] 406 := by
  refine ⟨by decide +kernel, by decide +kernel, by decide +kernel, by decide +kernel, by decide +kernel, by decide +kernel, by decide +kernel, by decide, (g_in (g_m4 (List.mem_of_getElem? (i := 231) rfl)) rfl), (g_in (g_m1 (List.mem_of_getElem? (i := 25) rfl)) rfl), ?_⟩
  have h : ((ny_at RX10 410 "java/util/NoSuchElementException" "java/lang/RuntimeException" 13 prog_31_method_4_code ["java/lang/Exception"]).filter vx_no).all (fun w => decide (w ∈ lw_tbl) && goodWord w || decide (w ∈ tables_1) && g_isN w) = true := by decide +kernel
  exact g_tw h
theorem tw_I : g_TW RX10 112 "java/lang/IllegalArgumentException" "java/lang/RuntimeException" 7 prog_19_method_2_code ["java/lang/Exception"] 108 := by
  refine ⟨by decide +kernel, by decide +kernel, by decide +kernel, by decide +kernel, by decide +kernel, by decide +kernel, by decide +kernel, by decide, (g_in (g_m3 (List.mem_of_getElem? (i := 139) rfl)) rfl), (g_in (g_m1 (List.mem_of_getElem? (i := 16) rfl)) rfl), ?_⟩
  have h : ((ny_at RX10 112 "java/lang/IllegalArgumentException" "java/lang/RuntimeException" 7 prog_19_method_2_code ["java/lang/Exception"]).filter vx_no).all (fun w => decide (w ∈ lw_tbl) && goodWord w || decide (w ∈ tables_1) && g_isN w) = true := by decide +kernel
  exact g_tw h
theorem ac_int : Cond.arrayClass .int ∈ g_TS := (g_in (g_m1 (List.mem_of_getElem? (i := 58) rfl)) rfl)
theorem ac_boolean : Cond.arrayClass .boolean ∈ g_TS := (g_in (g_m7 (List.mem_of_getElem? (i := 194) rfl)) rfl)
theorem ac_long : Cond.arrayClass .long ∈ g_TS := (g_in (g_m9 (List.mem_of_getElem? (i := 226) rfl)) rfl)
theorem nw_L_8 : g_NW RL 8 10 := ⟨_, _, _, rfl, (g_in (g_m1 (List.mem_of_getElem? (i := 27) rfl)) rfl), (g_in (g_m1 (List.mem_of_getElem? (i := 28) rfl)) rfl), (g_in (g_m1 (List.mem_of_getElem? (i := 1) rfl)) rfl), by decide +kernel⟩
theorem oi_X10_3 : Cond.methodLink RX10 3 Lib.objectInit ∈ g_TS := (g_in (g_m1 (List.mem_of_getElem? (i := 32) rfl)) rfl)
theorem nw_X10_17 : g_NW RX10 17 6 := ⟨_, _, _, rfl, (g_in (g_m1 (List.mem_of_getElem? (i := 35) rfl)) rfl), (g_in (g_m1 (List.mem_of_getElem? (i := 36) rfl)) rfl), (g_in (g_m1 (List.mem_of_getElem? (i := 2) rfl)) rfl), by decide +kernel⟩
theorem oi_X6_3 : Cond.methodLink RX6 3 Lib.objectInit ∈ g_TS := (g_in (g_m1 (List.mem_of_getElem? (i := 40) rfl)) rfl)
theorem nw_X6_27 : g_NW RX6 27 4 := ⟨_, _, _, rfl, (g_in (g_m1 (List.mem_of_getElem? (i := 41) rfl)) rfl), (g_in (g_m1 (List.mem_of_getElem? (i := 42) rfl)) rfl), (g_in (g_m1 (List.mem_of_getElem? (i := 3) rfl)) rfl), by decide +kernel⟩
theorem oi_X4_3 : Cond.methodLink RX4 3 Lib.objectInit ∈ g_TS := (g_in (g_m1 (List.mem_of_getElem? (i := 46) rfl)) rfl)
theorem nw_X6_37 : g_NW RX6 37 2 := ⟨_, _, _, rfl, (g_in (g_m1 (List.mem_of_getElem? (i := 59) rfl)) rfl), (g_in (g_m1 (List.mem_of_getElem? (i := 60) rfl)) rfl), (g_in (g_m1 (List.mem_of_getElem? (i := 4) rfl)) rfl), by decide +kernel⟩
theorem oi_X2_3 : Cond.methodLink RX2 3 Lib.objectInit ∈ g_TS := (g_in (g_m1 (List.mem_of_getElem? (i := 64) rfl)) rfl)
theorem nw_X10_27 : g_NW RX10 27 3 := ⟨_, _, _, rfl, (g_in (g_m1 (List.mem_of_getElem? (i := 155) rfl)) rfl), (g_in (g_m1 (List.mem_of_getElem? (i := 156) rfl)) rfl), (g_in (g_m1 (List.mem_of_getElem? (i := 5) rfl)) rfl), by decide +kernel⟩
theorem oi_X3_3 : Cond.methodLink RX3 3 Lib.objectInit ∈ g_TS := (g_in (g_m1 (List.mem_of_getElem? (i := 160) rfl)) rfl)
theorem nw_X3_9 : g_NW RX3 9 7 := ⟨_, _, _, rfl, (g_in (g_m1 (List.mem_of_getElem? (i := 161) rfl)) rfl), (g_in (g_m1 (List.mem_of_getElem? (i := 162) rfl)) rfl), (g_in (g_m1 (List.mem_of_getElem? (i := 6) rfl)) rfl), by decide +kernel⟩
theorem oi_X7_1 : Cond.methodLink RX7 1 Lib.objectInit ∈ g_TS := (g_in (g_m1 (List.mem_of_getElem? (i := 166) rfl)) rfl)
theorem nw_X10_36 : g_NW RX10 36 2 := ⟨_, _, _, rfl, (g_in (g_m1 (List.mem_of_getElem? (i := 209) rfl)) rfl), (g_in (g_m1 (List.mem_of_getElem? (i := 60) rfl)) rfl), (g_in (g_m1 (List.mem_of_getElem? (i := 4) rfl)) rfl), by decide +kernel⟩
theorem nw_X10_43 : g_NW RX10 43 0 := ⟨_, _, _, rfl, (g_in (g_m1 (List.mem_of_getElem? (i := 211) rfl)) rfl), (g_in (g_m1 (List.mem_of_getElem? (i := 212) rfl)) rfl), (g_in (g_m1 (List.mem_of_getElem? (i := 7) rfl)) rfl), by decide +kernel⟩
theorem oi_X0_3 : Cond.methodLink RX0 3 Lib.objectInit ∈ g_TS := (g_in (g_m1 (List.mem_of_getElem? (i := 216) rfl)) rfl)
theorem nw_X10_50 : g_NW RX10 50 5 := ⟨_, _, _, rfl, (g_in (g_m1 (List.mem_of_getElem? (i := 228) rfl)) rfl), (g_in (g_m1 (List.mem_of_getElem? (i := 229) rfl)) rfl), (g_in (g_m1 (List.mem_of_getElem? (i := 8) rfl)) rfl), by decide +kernel⟩
theorem oi_X5_3 : Cond.methodLink RX5 3 Lib.objectInit ∈ g_TS := (g_in (g_m1 (List.mem_of_getElem? (i := 233) rfl)) rfl)
theorem nw_X10_69 : g_NW RX10 69 8 := ⟨_, _, _, rfl, (g_in (g_m2 (List.mem_of_getElem? (i := 8) rfl)) rfl), (g_in (g_m2 (List.mem_of_getElem? (i := 9) rfl)) rfl), (g_in (g_m1 (List.mem_of_getElem? (i := 9) rfl)) rfl), by decide +kernel⟩
theorem oi_X8_3 : Cond.methodLink RX8 3 Lib.objectInit ∈ g_TS := (g_in (g_m2 (List.mem_of_getElem? (i := 13) rfl)) rfl)
theorem nw_X8_9 : g_NW RX8 9 2 := ⟨_, _, _, rfl, (g_in (g_m2 (List.mem_of_getElem? (i := 14) rfl)) rfl), (g_in (g_m1 (List.mem_of_getElem? (i := 60) rfl)) rfl), (g_in (g_m1 (List.mem_of_getElem? (i := 4) rfl)) rfl), by decide +kernel⟩
theorem nw_X10_78 : g_NW RX10 78 9 := ⟨_, _, _, rfl, (g_in (g_m2 (List.mem_of_getElem? (i := 36) rfl)) rfl), (g_in (g_m2 (List.mem_of_getElem? (i := 37) rfl)) rfl), (g_in (g_m1 (List.mem_of_getElem? (i := 10) rfl)) rfl), by decide +kernel⟩
theorem oi_X9_3 : Cond.methodLink RX9 3 Lib.objectInit ∈ g_TS := (g_in (g_m2 (List.mem_of_getElem? (i := 41) rfl)) rfl)
theorem nw_X10_85 : g_NW RX10 85 1 := ⟨_, _, _, rfl, (g_in (g_m2 (List.mem_of_getElem? (i := 81) rfl)) rfl), (g_in (g_m2 (List.mem_of_getElem? (i := 82) rfl)) rfl), (g_in (g_m1 (List.mem_of_getElem? (i := 11) rfl)) rfl), by decide +kernel⟩
theorem oi_X1_1 : Cond.methodLink RX1 1 Lib.objectInit ∈ g_TS := (g_in (g_m2 (List.mem_of_getElem? (i := 86) rfl)) rfl)
theorem cp_X2_34 : Cond.methodLink RX2 34 arraycopyName ∈ g_TS := (g_in (g_m2 (List.mem_of_getElem? (i := 181) rfl)) rfl)
theorem kn_J6_265 : Cond.constant RJ6 265 1431655765 ∈ g_TS := (g_in (g_m2 (List.mem_of_getElem? (i := 230) rfl)) rfl)
theorem kn_J6_266 : Cond.constant RJ6 266 858993459 ∈ g_TS := (g_in (g_m2 (List.mem_of_getElem? (i := 231) rfl)) rfl)
theorem kn_J6_267 : Cond.constant RJ6 267 252645135 ∈ g_TS := (g_in (g_m2 (List.mem_of_getElem? (i := 232) rfl)) rfl)
theorem mm_X8_90 : Cond.methodLink RX8 90 Lib.Math.min.name ∈ g_TS := (g_in (g_m3 (List.mem_of_getElem? (i := 0) rfl)) rfl)
theorem mm_X8_96 : Cond.methodLink RX8 96 Lib.Math.max.name ∈ g_TS := (g_in (g_m3 (List.mem_of_getElem? (i := 3) rfl)) rfl)
theorem cp_X0_31 : Cond.methodLink RX0 31 arraycopyName ∈ g_TS := (g_in (g_m3 (List.mem_of_getElem? (i := 47) rfl)) rfl)
theorem cp_X5_25 : Cond.methodLink RX5 25 arraycopyName ∈ g_TS := (g_in (g_m3 (List.mem_of_getElem? (i := 52) rfl)) rfl)
theorem cp_X9_43 : Cond.methodLink RX9 43 arraycopyName ∈ g_TS := (g_in (g_m3 (List.mem_of_getElem? (i := 95) rfl)) rfl)
theorem mm_X9_93 : Cond.methodLink RX9 93 Lib.Math.min.name ∈ g_TS := (g_in (g_m3 (List.mem_of_getElem? (i := 118) rfl)) rfl)
theorem mm_X7_13 : Cond.methodLink RX7 13 Lib.Math.min.name ∈ g_TS := (g_in (g_m3 (List.mem_of_getElem? (i := 224) rfl)) rfl)
theorem mm_J1_92 : Cond.methodLink RJ1 92 Lib.Math.max.name ∈ g_TS := (g_in (g_m4 (List.mem_of_getElem? (i := 21) rfl)) rfl)
theorem mm_J1_38 : Cond.methodLink RJ1 38 Lib.Math.min.name ∈ g_TS := (g_in (g_m4 (List.mem_of_getElem? (i := 22) rfl)) rfl)
theorem mm_J2_224 : Cond.methodLink RJ2 224 Lib.Math.max.name ∈ g_TS := (g_in (g_m4 (List.mem_of_getElem? (i := 29) rfl)) rfl)
theorem mm_J2_183 : Cond.methodLink RJ2 183 Lib.Math.min.name ∈ g_TS := (g_in (g_m4 (List.mem_of_getElem? (i := 30) rfl)) rfl)
theorem kn_J2_227 : Cond.constant RJ2 227 65536 ∈ g_TS := (g_in (g_m4 (List.mem_of_getElem? (i := 31) rfl)) rfl)
theorem kn_J11_110 : Cond.constant RJ11 110 55232 ∈ g_TS := (g_in (g_m4 (List.mem_of_getElem? (i := 70) rfl)) rfl)
theorem kn_J11_76 : Cond.constant RJ11 76 56320 ∈ g_TS := (g_in (g_m4 (List.mem_of_getElem? (i := 74) rfl)) rfl)
theorem mm_X5_49 : Cond.methodLink RX5 49 Lib.Math.max.name ∈ g_TS := (g_in (g_m6 (List.mem_of_getElem? (i := 26) rfl)) rfl)
theorem kn_X1_13 : Cond.constant RX1 13 1103515245 ∈ g_TS := (g_in (g_m6 (List.mem_of_getElem? (i := 91) rfl)) rfl)
theorem mm_X10_316 : Cond.methodLink RX10 316 Lib.Math.max.name ∈ g_TS := (g_in (g_m6 (List.mem_of_getElem? (i := 110) rfl)) rfl)
theorem mm_X10_321 : Cond.methodLink RX10 321 Lib.Math.min.name ∈ g_TS := (g_in (g_m6 (List.mem_of_getElem? (i := 111) rfl)) rfl)
theorem mm_X9_114 : Cond.methodLink RX9 114 Lib.Math.max.name ∈ g_TS := (g_in (g_m6 (List.mem_of_getElem? (i := 188) rfl)) rfl)
theorem nw_L_123 : g_NW RL 123 11 := ⟨_, _, _, rfl, (g_in (g_m6 (List.mem_of_getElem? (i := 220) rfl)) rfl), (g_in (g_m6 (List.mem_of_getElem? (i := 221) rfl)) rfl), (g_in (g_m1 (List.mem_of_getElem? (i := 12) rfl)) rfl), by decide +kernel⟩
theorem oi_X11_1 : Cond.methodLink RX11 1 Lib.objectInit ∈ g_TS := (g_in (g_m6 (List.mem_of_getElem? (i := 225) rfl)) rfl)
theorem kn_X11_178 : Cond.constantLong RX11 178 96 ∈ g_TS := (g_in (g_m8 (List.mem_of_getElem? (i := 7) rfl)) rfl)
theorem kn_X11_481 : Cond.constant RX11 481 1103515245 ∈ g_TS := (g_in (g_m9 (List.mem_of_getElem? (i := 217) rfl)) rfl)
theorem oi_1 : Cond.instanceMethod Lib.objectInit ∈ g_TS := (g_in (g_m1 (List.mem_of_getElem? (i := 33) rfl)) rfl)
theorem oi_2 : Cond.code Lib.objectInit ⟨#[0xb1]⟩ 1 none ∈ g_TS := (g_in (g_m1 (List.mem_of_getElem? (i := 34) rfl)) rfl)
theorem cp_1 : Cond.native arraycopyName ∈ g_TS := (g_in (g_m2 (List.mem_of_getElem? (i := 183) rfl)) rfl)
theorem cp_2 : Cond.static arraycopyName ∈ g_TS := (g_in (g_m2 (List.mem_of_getElem? (i := 182) rfl)) rfl)
theorem cp_3 : Cond.initialized "java/lang/System" ∈ g_TS := (g_in (g_m1 (List.mem_of_getElem? (i := 24) rfl)) rfl)
theorem mmax_1 : Cond.static Lib.Math.max.name ∈ g_TS := (g_in (g_m3 (List.mem_of_getElem? (i := 4) rfl)) rfl)
theorem mmax_2 : Cond.code Lib.Math.max.name Lib.Math.max.code 2 (some .int) ∈ g_TS := (g_in (g_m3 (List.mem_of_getElem? (i := 5) rfl)) rfl)
theorem mmin_1 : Cond.static Lib.Math.min.name ∈ g_TS := (g_in (g_m3 (List.mem_of_getElem? (i := 1) rfl)) rfl)
theorem mmin_2 : Cond.code Lib.Math.min.name Lib.Math.min.code 2 (some .int) ∈ g_TS := (g_in (g_m3 (List.mem_of_getElem? (i := 2) rfl)) rfl)
theorem mm_i : Cond.initialized "java/lang/Math" ∈ g_TS := (g_in (g_m1 (List.mem_of_getElem? (i := 18) rfl)) rfl)
