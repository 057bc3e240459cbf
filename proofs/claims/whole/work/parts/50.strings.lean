/-! Texts: their bytes, calls on them. -/
section
variable {l : Launch} {γ : Gh} {μ : MD} {d cb sb : Nat} {R : RR} {X : XX} {K : List Kd} {ρ m : Mm} {pc n : Nat} {ls : List (Option VV)} {st : List VV}
variable {μ' : MD} {d' mc' ms' cb' sb' idx : Nat} {QI : Int → Mm → Mm → Prop}
def sLen (i : Nat) : Int := ((g_len.getD i 0 : Nat) : Int)
def sCh (i : Nat) (j : Int) : Int := ((g_byt.getD i []).getD j.toNat 0).toInt
def sR (i : Nat) : Int := -(2 + 2 * (i : Int))
def sV (i : Nat) : Int := -(3 + 2 * (i : Int))
theorem sR_ne {i : Nat} : sR i ≠ 0 := by unfold sR; omega
theorem sV_ne {i : Nat} : sV i ≠ 0 := by unfold sV; omega
theorem tz_ldcSw {i9 : Nat} {text : String} (hs9 : g_st[i9]? = some (μ.1.cls, idx, text)) (hd : decode μ.2.1 pc = .ok (.ldc idx, 2)) (hn : pc + 2 = n) (k : gT l γ μ d cb sb R X K ρ m n ls (vR (sR i9) :: st)) : gT l γ μ d cb sb R X K ρ m pc ls st := tz_ldcS hs9 hd hn k
theorem tz_strVw {i9 : Nat} (hi : i9 < g_st.length) (hf : Cond.fieldLink μ.1.cls idx "java/lang/String" "value" "[B" ∈ g_TS) (hd : decode μ.2.1 pc = .ok (.getfield idx, 3)) (hn : pc + 3 = n) (k : gT l γ μ d cb sb R X K ρ m n ls (vR (sV i9) :: st)) : gT l γ μ d cb sb R X K ρ m pc ls (vR (sR i9) :: st) := tz_strV hi hf hd hn k
theorem tz_strCw {i9 : Nat} (hi : i9 < g_st.length) (hf : Cond.fieldLink μ.1.cls idx "java/lang/String" "coder" "B" ∈ g_TS) (hd : decode μ.2.1 pc = .ok (.getfield idx, 3)) (hn : pc + 3 = n) (k : gT l γ μ d cb sb R X K ρ m n ls (vI 0 :: st)) : gT l γ μ d cb sb R X K ρ m pc ls (vR (sR i9) :: st) := tz_strC hi hf hd hn k
theorem tz_balen {i9 : Nat} (hi : i9 < g_st.length) (hd : decode μ.2.1 pc = .ok (.arraylength, 1)) (hn : pc + 1 = n) (kk : gT l γ μ d cb sb R X K ρ m n ls (vI (sLen i9) :: st)) : gT l γ μ d cb sb R X K ρ m pc ls (vR (sV i9) :: st) := by
  subst hn
  intro p e s mth args below meth c A K0 ad0 mc ms H locs cells slots ad lsr C E P D S hc hs hl
  have k9 := kk p e s mth args below meth c A K0 ad0 mc ms H locs cells slots ad lsr C E P D S hc hs hl
  obtain ⟨c1, c2, c3, c4, c5, c6, c7, c8, c9, c10, c11, c12⟩ := C
  unfold sV
  simp only [List.map_cons, tv_R, tv_I] at k9 ⊢
  rw [rv_neg (by omega), show (- -(3 + 2 * (i9 : Int))).toNat = 3 + 2 * i9 by omega]
  unfold sLen at k9
  rw [Int32.ofInt_eq_ofNat] at k9
  exact va_tlen c1 c2 (c11.2.2.2.2.2.2.1.2.1 i9 hi).2.2.2 S rfl hd k9
theorem tz_bald {i9 : Nat} {j : Int} (hi : i9 < g_st.length) (h0 : 0 ≤ j ∧ j < sLen i9 ∧ sLen i9 < 2147483648) (hd : decode μ.2.1 pc = .ok (.baload, 1)) (hn : pc + 1 = n) (kk : gT l γ μ d cb sb R X K ρ m n ls (vI (sCh i9 j) :: st)) : gT l γ μ d cb sb R X K ρ m pc ls (vI j :: vR (sV i9) :: st) := by
  subst hn
  intro p e s mth args below meth c A K0 ad0 mc ms H locs cells slots ad lsr C E P D S hc hs hl
  have k9 := kk p e s mth args below meth c A K0 ad0 mc ms H locs cells slots ad lsr C E P D S hc hs hl
  obtain ⟨i1, i2⟩ := g_in32 (N := g_len.getD i9 0) h0.1 h0.2.1 (by have h7 := h0.2.2; unfold sLen at h7; exact Int.ofNat_lt.mp h7)
  obtain ⟨c1, c2, c3, c4, c5, c6, c7, c8, c9, c10, c11, c12⟩ := C
  unfold sV
  unfold sCh at k9
  simp only [List.map_cons, tv_R, tv_I, Int32.ofInt_toInt] at k9 ⊢
  rw [rv_neg (by omega), show (- -(3 + 2 * (i9 : Int))).toNat = 3 + 2 * i9 by omega]
  refine va_tb c1 c2 (c11.2.2.2.2.2.2.1.2.1 i9 hi).2.2.2 S i1 rfl hd ?_
  rw [i2]
  exact k9
theorem g_stkS {ad : Nat → Nat} {As : List VV} {i9 : Nat} : (As.reverse ++ vR (sR i9) :: st).map (tv γ ad) = (As.map (tv γ ad)).reverse ++ .ref (g_sp γ (2 + 2 * i9)) :: st.map (tv γ ad) := by
  rw [List.map_append, List.map_reverse, List.map_cons, tv_R]
  unfold sR
  rw [rv_neg (by omega), show (- -(2 + 2 * (i9 : Int))).toNat = 2 + 2 * i9 by omega]
theorem g_arrS {ad : Nat → Nat} {As : List VV} {i9 : Nat} : (Value.ref (g_sp γ (2 + 2 * i9)) :: As.map (tv γ ad)) = (vR (sR i9) :: As).map (tv γ ad) := by
  rw [List.map_cons, tv_R]
  unfold sR
  rw [rv_neg (by omega), show (- -(2 + 2 * (i9 : Int))).toNat = 2 + 2 * i9 by omega]
theorem tz_cvSG {R' : Option VV → Mm → Mm → Prop} {As : List VV} {i9 : Nat} (hl9 : Cond.methodLink μ.1.cls idx μ'.1 ∈ g_TS) (mo : g_MO μ') (mv : g_MV μ') (hh : μ'.2.2.2.2 = []) (np : g_NP μ' As.length) (hi : i9 < g_st.length) (hcl : μ'.1.cls = "java/lang/String") (hd : decode μ.2.1 pc = .ok (.invokevirtual idx, 3)) (hn : pc + 3 = n) (hdd : d' + 1 ≤ d ∧ μ'.2.2.1 ≤ 40) (hcat : g_cat st ≤ 8) (hcb : mc' + cb' ≤ cb) (hsb : ms' + sb' ≤ sb) (hE : gE l γ μ' d' mc' ms' (rK K R') xN K ρ m (vR (sR i9) :: As)) (kk : ∀ (v : Option VV) (ρ9 m9 : Mm), R' v ρ9 m9 → gT l γ μ d cb' sb' R X K ρ9 m9 n ls (v.toList ++ st)) : gT l γ μ d cb sb R X K ρ m pc ls (As.reverse ++ vR (sR i9) :: st) := by
  intro p e s mth args below meth c A K0 ad0 mc ms H locs cells slots ad lsr C E P D S hc hs hl
  have hcx := C
  obtain ⟨c1, c2, c3, c4, c5, c6, c7, c8, c9, c10, c11, c12⟩ := C
  have hrecv := vk_recv c11.2.2.2.2.2.2.1.2 hi S
  rw [← hcl] at hrecv
  have hsz : (F0 mth pc lsr ((As.reverse ++ vR (sR i9) :: st).map (tv γ ad))).locals.size = c.maxLocals := by rw [c4]; exact hl.1
  have hfit : cells + mc' ≤ (g_rm d mc ms).cells ∧ slots + ms' ≤ (g_rm d mc ms).slots := ⟨show cells + mc' ≤ mc by omega, show slots + ms' ≤ ms by omega⟩
  have hWst : 2 * (F0 mth pc lsr ((As.reverse ++ vR (sR i9) :: st).map (tv γ ad))).monitorRoom + ((st.map (tv γ ad)).map fun v => v.category).sum ≤ 8 := by
    have := g_cat_le (γ := γ) (ad := ad) st
    show 2 * 0 + _ ≤ 8
    omega
  have hpre : PreV s H μ'.1.cls (g_sp γ (2 + 2 * i9)) (g_Pc γ ad K ρ m (vR (sR i9) :: As) H.size) (As.map (tv γ ad)) := ⟨g_Pc_blind, hrecv, fun U hU hW => by rw [g_arrS]; exact g_pre hcx P D S U hU hW⟩
  have hM := hE.met (fun _ _ _ _ h => h) c12 ad H.size
  have hrun := va_runV (g := F0 mth pc lsr ((As.reverse ++ vR (sR i9) :: st).map (tv γ ad))) (e := e) (below := below) (meth := meth) (locs := locs) (S := ⟨c1, c2, rfl, c6, c9⟩) hM ⟨g_CB c9 mo hh np hdd hl9, c9 _ mv.1, c9 _ mv.2⟩ hpre rfl (by simp) hsz g_stkS hWst hd hfit
  exact g_behind (X' := fun _ _ _ => False) (d' := d') hcx E D S hc hs hl hcb hsb hrun.toX hn (fun _ _ _ h => h.elim) kk
theorem tz_cvS0 {i9 : Nat} (hl9 : Cond.methodLink μ.1.cls idx μ'.1 ∈ g_TS) (mo : g_MO μ') (mv : g_MV μ') (np : g_NP μ' 0) (hi : i9 < g_st.length) (hd : decode μ.2.1 pc = .ok (.invokevirtual idx, 3)) (hE : gE l γ μ' d' mc' ms' (rI K QI) xN K ρ m (vR (sR i9) :: [])) (hh : μ'.2.2.2.2 = []) (hcl : μ'.1.cls = "java/lang/String") (hn : pc + 3 = n) (hdd : d' + 1 ≤ d ∧ μ'.2.2.1 ≤ 40) (hcat : g_cat st ≤ 8) (hcb : mc' + cb' ≤ cb) (hsb : ms' + sb' ≤ sb) (kk : ∀ (x : Int) (ρ9 m9 : Mm), QI x ρ9 m9 → gT l γ μ d cb' sb' R X K ρ9 m9 n ls (vI x :: st)) : gT l γ μ d cb sb R X K ρ m pc ls (vR (sR i9) :: st) := tz_cvSG (As := []) hl9 mo mv hh np hi hcl hd hn hdd hcat hcb hsb hE (fun v ρ9 m9 h => by obtain ⟨x, rfl, h⟩ := h; exact kk x ρ9 m9 h)
theorem tz_cvS1 {a1 : VV} {i9 : Nat} (hl9 : Cond.methodLink μ.1.cls idx μ'.1 ∈ g_TS) (mo : g_MO μ') (mv : g_MV μ') (np : g_NP μ' 1) (hi : i9 < g_st.length) (hd : decode μ.2.1 pc = .ok (.invokevirtual idx, 3)) (hE : gE l γ μ' d' mc' ms' (rI K QI) xN K ρ m (vR (sR i9) :: [a1])) (hh : μ'.2.2.2.2 = []) (hcl : μ'.1.cls = "java/lang/String") (hn : pc + 3 = n) (hdd : d' + 1 ≤ d ∧ μ'.2.2.1 ≤ 40) (hcat : g_cat st ≤ 8) (hcb : mc' + cb' ≤ cb) (hsb : ms' + sb' ≤ sb) (kk : ∀ (x : Int) (ρ9 m9 : Mm), QI x ρ9 m9 → gT l γ μ d cb' sb' R X K ρ9 m9 n ls (vI x :: st)) : gT l γ μ d cb sb R X K ρ m pc ls (a1 :: vR (sR i9) :: st) := tz_cvSG (As := [a1]) hl9 mo mv hh np hi hcl hd hn hdd hcat hcb hsb hE (fun v ρ9 m9 h => by obtain ⟨x, rfl, h⟩ := h; exact kk x ρ9 m9 h)
theorem tz_cvS2 {a1 a2 : VV} {i9 : Nat} (hl9 : Cond.methodLink μ.1.cls idx μ'.1 ∈ g_TS) (mo : g_MO μ') (mv : g_MV μ') (np : g_NP μ' 2) (hi : i9 < g_st.length) (hd : decode μ.2.1 pc = .ok (.invokevirtual idx, 3)) (hE : gE l γ μ' d' mc' ms' (rI K QI) xN K ρ m (vR (sR i9) :: [a1, a2])) (hh : μ'.2.2.2.2 = []) (hcl : μ'.1.cls = "java/lang/String") (hn : pc + 3 = n) (hdd : d' + 1 ≤ d ∧ μ'.2.2.1 ≤ 40) (hcat : g_cat st ≤ 8) (hcb : mc' + cb' ≤ cb) (hsb : ms' + sb' ≤ sb) (kk : ∀ (x : Int) (ρ9 m9 : Mm), QI x ρ9 m9 → gT l γ μ d cb' sb' R X K ρ9 m9 n ls (vI x :: st)) : gT l γ μ d cb sb R X K ρ m pc ls (a2 :: a1 :: vR (sR i9) :: st) := tz_cvSG (As := [a1, a2]) hl9 mo mv hh np hi hcl hd hn hdd hcat hcb hsb hE (fun v ρ9 m9 h => by obtain ⟨x, rfl, h⟩ := h; exact kk x ρ9 m9 h)
theorem g_nc : ∀ k : Nat, k < 256 → narrow .char (.int (Int32.ofInt (k : Int))) = .int (Int32.ofInt (k : Int)) := by decide +kernel
theorem tz_cret {x : Int} (hd : decode μ.2.1 pc = .ok (.ireturn, 1)) (ht : μ.2.2.2.1 = some .char) (hx : 0 ≤ x ∧ x < 256) (h : R (some (vI x)) K ρ m) : gT l γ μ d cb sb R X K ρ m pc ls [vI x] := tz_zret hd ht (by have := g_nc x.toNat (by omega); rw [show ((x.toNat : Nat) : Int) = x by omega] at this; exact this) h
theorem tz_yret0 (hd : decode μ.2.1 pc = .ok (.ireturn, 1)) (ht : μ.2.2.2.1 = some .byte) (h : R (some (vI 0)) K ρ m) : gT l γ μ d cb sb R X K ρ m pc ls [vI 0] := tz_zret hd ht rfl h
end
theorem g_len_v : g_len = [30, 9, 8, 4, 6, 3, 5, 3, 5, 5, 4, 3, 3, 2, 5, 12, 16, 12, 14, 16, 14, 12, 25] := by unfold g_len; rw [g_st_v]; decide +kernel
theorem g_byt_v : g_byt = [[116, 104, 101, 32, 116, 97, 112, 101, 32, 104, 97, 115, 32, 110, 111, 116, 32, 115, 111, 32, 109, 97, 110, 121, 32, 98, 121, 116, 101, 115], [59, 40, 41, 43, 45, 42, 47, 60, 61], [99, 114, 111, 115, 115, 105, 110, 103], [114, 111, 97, 100], [112, 101, 114, 115, 111, 110], [97, 114, 109], [104, 101, 101, 100, 115], [110, 111, 116], [114, 111, 97, 100, 115], [112, 117, 114, 115, 101], [119, 105, 116, 104], [100, 97, 121], [97, 110, 100], [111, 114], [116, 117, 114, 110, 115], [110, 111, 32, 115, 117, 99, 104, 32, 119, 104, 97, 116], [110, 111, 32, 115, 117, 99, 104, 32, 99, 114, 111, 115, 115, 105, 110, 103], [110, 111, 32, 115, 117, 99, 104, 32, 114, 111, 97, 100], [110, 111, 32, 115, 117, 99, 104, 32, 112, 101, 114, 115, 111, 110], [110, 111, 116, 32, 115, 111, 32, 109, 97, 110, 121, 32, 100, 97, 121, 115], [110, 111, 32, 115, 117, 99, 104, 32, 116, 101, 110, 116, 104, 115], [98, 111, 116, 104, 32, 97, 114, 101, 32, 111, 110, 101], [110, 111, 32, 115, 117, 99, 104, 32, 112, 108, 97, 99, 101, 32, 105, 110, 32, 116, 104, 101, 32, 116, 111, 117, 114]] := by unfold g_byt; rw [g_st_v]; decide +kernel
theorem g_st_n : g_st.length = 23 := by rw [g_st_v]; rfl
theorem sn_0 : 0 < g_st.length := by rw [g_st_n]; decide
theorem sn_1 : 1 < g_st.length := by rw [g_st_n]; decide
theorem sn_2 : 2 < g_st.length := by rw [g_st_n]; decide
theorem sn_3 : 3 < g_st.length := by rw [g_st_n]; decide
theorem sn_4 : 4 < g_st.length := by rw [g_st_n]; decide
theorem sn_5 : 5 < g_st.length := by rw [g_st_n]; decide
theorem sn_6 : 6 < g_st.length := by rw [g_st_n]; decide
theorem sn_7 : 7 < g_st.length := by rw [g_st_n]; decide
theorem sn_8 : 8 < g_st.length := by rw [g_st_n]; decide
theorem sn_9 : 9 < g_st.length := by rw [g_st_n]; decide
theorem sn_10 : 10 < g_st.length := by rw [g_st_n]; decide
theorem sn_11 : 11 < g_st.length := by rw [g_st_n]; decide
theorem sn_12 : 12 < g_st.length := by rw [g_st_n]; decide
theorem sn_13 : 13 < g_st.length := by rw [g_st_n]; decide
theorem sn_14 : 14 < g_st.length := by rw [g_st_n]; decide
theorem sn_15 : 15 < g_st.length := by rw [g_st_n]; decide
theorem sn_16 : 16 < g_st.length := by rw [g_st_n]; decide
theorem sn_17 : 17 < g_st.length := by rw [g_st_n]; decide
theorem sn_18 : 18 < g_st.length := by rw [g_st_n]; decide
theorem sn_19 : 19 < g_st.length := by rw [g_st_n]; decide
theorem sn_20 : 20 < g_st.length := by rw [g_st_n]; decide
theorem sn_21 : 21 < g_st.length := by rw [g_st_n]; decide
theorem sn_22 : 22 < g_st.length := by rw [g_st_n]; decide
theorem sLen_rg {i : Nat} (hi : i < g_st.length) : 0 ≤ sLen i ∧ sLen i ≤ 40 := by
  rw [g_st_n] at hi
  have h : ∀ k : Nat, k < 23 → g_len.getD k 0 ≤ 40 := by rw [g_len_v]; decide
  have := h i hi
  unfold sLen
  omega
theorem sCh_rg {i : Nat} (hi : i < g_st.length) {j : Int} (hj : 0 ≤ j ∧ j < sLen i) : 0 ≤ sCh i j ∧ sCh i j < 128 := by
  rw [g_st_n] at hi
  have h : ∀ k : Nat, k < 23 → ∀ q : Nat, q < g_len.getD k 0 → 0 ≤ ((g_byt.getD k []).getD q 0).toInt ∧ ((g_byt.getD k []).getD q 0).toInt < 128 := by rw [g_len_v, g_byt_v]; decide +kernel
  unfold sLen at hj
  exact h i hi j.toNat (by omega)
theorem sf_J0_38 : Cond.fieldLink RJ0 38 "java/lang/String" "COMPACT_STRINGS" "Z" ∈ g_TS := (g_in (g_m4 (List.mem_of_getElem? (i := 5) rfl)) rfl)
theorem sf_J0_1053 : Cond.fieldLink RJ0 1053 "jdk/internal/util/Preconditions" "SIOOBE_FORMATTER" "Ljava/util/function/BiFunction;" ∈ g_TS := (g_in (g_m4 (List.mem_of_getElem? (i := 44) rfl)) rfl)
theorem sf_J0_15 : Cond.fieldLink RJ0 15 "java/lang/String" "coder" "B" ∈ g_TS := (g_in (g_m10 (List.mem_of_getElem? (i := 4) rfl)) rfl)
theorem sf_J0_9 : Cond.fieldLink RJ0 9 "java/lang/String" "value" "[B" ∈ g_TS := (g_in (g_m10 (List.mem_of_getElem? (i := 5) rfl)) rfl)
