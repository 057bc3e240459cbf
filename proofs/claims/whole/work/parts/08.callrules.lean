section
variable {l : Launch} {γ : Gh} {μ : MD} {d cb sb : Nat} {R : RR} {X : XX} {K : List Kd} {ρ m : Mm} {pc n : Nat} {ls : List (Option VV)} {st : List VV}
variable {μ' : MD} {d' mc' ms' cb' sb' idx : Nat} {R' : Option VV → Mm → Mm → Prop} {X' : String → Mm → Mm → Prop}
theorem g_rmok {d mc ms : Nat} (h : d' + 1 ≤ d ∧ μ'.2.2.1 ≤ 40) : (g_rm d' mc' ms').frames + 1 ≤ (g_rm d mc ms).frames ∧ 8 + (μ'.2.2.1 + 11) + (g_rm d' mc' ms').locals ≤ (g_rm d mc ms).locals := by
  show d' + 1 ≤ d ∧ 8 + (μ'.2.2.1 + 11) + 60 * d' ≤ 60 * d
  omega
theorem g_CB {args : Array Value} {s : State} {d mc ms k : Nat} (hts : ∀ w ∈ g_TS, w.before args s = true) (mo : g_MO μ') (hh : μ'.2.2.2.2 = []) (np : g_NP μ' k) (hdd : d' + 1 ≤ d ∧ μ'.2.2.1 ≤ 40) (hl9 : Cond.methodLink μ.1.cls idx μ'.1 ∈ g_TS) : CallB (g_rm d mc ms) s args μ.1.cls idx μ'.1 μ'.2.1 μ'.2.2.1 μ'.2.2.2.1 (g_w0 μ' :: g_TS) (g_rm d' mc' ms') mc' ms' k := by
  have hw : g_w0 μ' = Cond.code μ'.1 μ'.2.1 μ'.2.2.1 μ'.2.2.2.1 := by unfold g_w0; rw [hh]
  have hr := g_rmok (mc := mc) (ms := ms) (mc' := mc') (ms' := ms') hdd
  exact ⟨rfl, rfl, hr.1, hr.2, g_pay mo hts, by rw [hw]; exact List.mem_cons_self, by rw [← hw]; exact hts _ mo.1, hts _ mo.2.1, mo.2.2.1, g_np np, hts _ hl9⟩
theorem g_CN {args : Array Value} {s : State} {d mc ms k : Nat} {host : String} (hts : ∀ w ∈ g_TS, w.before args s = true) (mo : g_MO μ') (hh : μ'.2.2.2.2 = []) (np : g_NP μ' k) (hdd : d' + 1 ≤ d ∧ μ'.2.2.1 ≤ 40) (hl9 : va_Nw (Cond.methodLinkNest μ.1.cls idx μ'.1 host) s) : va_CN (g_rm d mc ms) s args μ.1.cls idx μ'.1 host μ'.2.1 μ'.2.2.1 μ'.2.2.2.1 (g_w0 μ' :: g_TS) (g_rm d' mc' ms') mc' ms' k := by
  have hw : g_w0 μ' = Cond.code μ'.1 μ'.2.1 μ'.2.2.1 μ'.2.2.2.1 := by unfold g_w0; rw [hh]
  have hr := g_rmok (mc := mc) (ms := ms) (mc' := mc') (ms' := ms') hdd
  exact ⟨⟨rfl, rfl, hr.1, hr.2, g_pay mo hts, by rw [hw]; exact List.mem_cons_self⟩, by rw [← hw]; exact hts _ mo.1, hts _ mo.2.1, mo.2.2.1, g_np np, hl9.use rfl⟩
theorem g_stk {ad : Nat → Nat} {As : List VV} {r : Int} (h : 0 < r) : (As.reverse ++ vR r :: st).map (tv γ ad) = (As.map (tv γ ad)).reverse ++ .ref (ad r.toNat) :: st.map (tv γ ad) := by
  rw [List.map_append, List.map_reverse, List.map_cons, tv_R, rv_pos h]
theorem g_arr {ad : Nat → Nat} {As : List VV} {r : Int} (h : 0 < r) : (Value.ref (ad r.toNat) :: As.map (tv γ ad)) = (vR r :: As).map (tv γ ad) := by
  rw [List.map_cons, tv_R, rv_pos h]
theorem tz_cvG {As : List VV} {ci : Nat} {r : Int} (hl9 : g_ML μ.1.cls idx μ'.1) (mo : g_MO μ') (mv : g_MV μ') (hh : μ'.2.2.2.2 = []) (np : g_NP μ' As.length) (hk : g_k K r = some (.inl ci)) (hcl : (vwCl[ci]?).map (fun q => q.1) = some μ'.1.cls) (hd : decode μ.2.1 pc = .ok (.invokevirtual idx, 3)) (hn : pc + 3 = n) (hdd : d' + 1 ≤ d ∧ μ'.2.2.1 ≤ 40) (hcat : g_cat st ≤ 8) (hcb : mc' + cb' ≤ cb) (hsb : ms' + sb' ≤ sb) (hE : gE l γ μ' d' mc' ms' (rK K R') xN K ρ m (vR r :: As)) (kk : ∀ (v : Option VV) (ρ9 m9 : Mm), R' v ρ9 m9 → gT l γ μ d cb' sb' R X K ρ9 m9 n ls (v.toList ++ st)) : gT l γ μ d cb sb R X K ρ m pc ls (As.reverse ++ vR r :: st) := by
  intro p e s mth args below meth c A K0 ad0 mc ms H locs cells slots ad lsr C E P D S hc hs hl
  have h1 := g_k_spec hk
  have he := g_ws_at (γ := γ) (ad := ad) (ρ := ρ) (m := m) hk
  obtain ⟨q9, hq9, hq8⟩ := Option.map_eq_some_iff.mp hcl
  have hcx := C
  obtain ⟨c1, c2, c3, c4, c5, c6, c7, c8, c9, c10, c11, c12⟩ := C
  have hrecv := va_recv c11.1 P hq9 he
  rw [hq8] at hrecv
  have hsz : (F0 mth pc lsr ((As.reverse ++ vR r :: st).map (tv γ ad))).locals.size = c.maxLocals := by rw [c4]; exact hl.1
  have hfit : cells + mc' ≤ (g_rm d mc ms).cells ∧ slots + ms' ≤ (g_rm d mc ms).slots := ⟨show cells + mc' ≤ mc by omega, show slots + ms' ≤ ms by omega⟩
  have hWst : 2 * (F0 mth pc lsr ((As.reverse ++ vR r :: st).map (tv γ ad))).monitorRoom + ((st.map (tv γ ad)).map fun v => v.category).sum ≤ 8 := by
    have := g_cat_le (γ := γ) (ad := ad) st
    show 2 * 0 + _ ≤ 8
    omega
  have hpre : PreV s H μ'.1.cls (ad r.toNat) (g_Pc γ ad K ρ m (vR r :: As) H.size) (As.map (tv γ ad)) := ⟨g_Pc_blind, hrecv, fun U hU hW => by rw [g_arr h1.1]; exact g_pre hcx P D S U hU hW⟩
  have hM := hE.met (fun _ _ _ _ h => h) c12 ad H.size
  rcases hl9 with hl9 | ⟨host, hl9⟩
  · have hrun := va_runV (g := F0 mth pc lsr ((As.reverse ++ vR r :: st).map (tv γ ad))) (e := e) (below := below) (meth := meth) (locs := locs) (S := ⟨c1, c2, rfl, c6, c9⟩) hM ⟨g_CB c9 mo hh np hdd hl9, c9 _ mv.1, c9 _ mv.2⟩ hpre rfl (by simp) hsz (g_stk h1.1) hWst hd hfit
    exact g_behind (X' := fun _ _ _ => False) (d' := d') hcx E D S hc hs hl hcb hsb hrun.toX hn (fun _ _ _ h => h.elim) kk
  · have hrun := va_runVN (g := F0 mth pc lsr ((As.reverse ++ vR r :: st).map (tv γ ad))) (e := e) (below := below) (meth := meth) (locs := locs) (S := ⟨c1, c2, rfl, c6, c9⟩) hM ⟨g_CN c9 mo hh np hdd (c11.2.1 _ hl9), c9 _ mv.1, c9 _ mv.2⟩ hpre rfl (by simp) hsz (g_stk h1.1) hWst hd hfit
    exact g_behind (X' := fun _ _ _ => False) (d' := d') hcx E D S hc hs hl hcb hsb hrun.toX hn (fun _ _ _ h => h.elim) kk

theorem tz_cvxG {As : List VV} {ci : Nat} {r : Int} (hl9 : g_ML μ.1.cls idx μ'.1) (mo : g_MO μ') (mv : g_MV μ') (hh : μ'.2.2.2.2 = []) (np : g_NP μ' As.length) (hk : g_k K r = some (.inl ci)) (hcl : (vwCl[ci]?).map (fun q => q.1) = some μ'.1.cls) (hd : decode μ.2.1 pc = .ok (.invokevirtual idx, 3)) (hn : pc + 3 = n) (hdd : d' + 1 ≤ d ∧ μ'.2.2.1 ≤ 40) (hcat : g_cat st ≤ 8) (hcb : mc' + cb' ≤ cb) (hsb : ms' + sb' ≤ sb) (hpl : Cond.methodLink μ.1.cls idx μ'.1 ∈ g_TS) (hE : gE l γ μ' d' mc' ms' (rK K R') (xK K X') K ρ m (vR r :: As)) (kx : ∀ (E9 : String) (ρ9 m9 : Mm), X' E9 ρ9 m9 → gX l γ μ d cb' sb' R X K ρ9 m9 pc ls E9) (kk : ∀ (v : Option VV) (ρ9 m9 : Mm), R' v ρ9 m9 → gT l γ μ d cb' sb' R X K ρ9 m9 n ls (v.toList ++ st)) : gT l γ μ d cb sb R X K ρ m pc ls (As.reverse ++ vR r :: st) := by
  intro p e s mth args below meth c A K0 ad0 mc ms H locs cells slots ad lsr C E P D S hc hs hl
  have h1 := g_k_spec hk
  have he := g_ws_at (γ := γ) (ad := ad) (ρ := ρ) (m := m) hk
  obtain ⟨q9, hq9, hq8⟩ := Option.map_eq_some_iff.mp hcl
  have hcx := C
  obtain ⟨c1, c2, c3, c4, c5, c6, c7, c8, c9, c10, c11, c12⟩ := C
  have hrecv := va_recv c11.1 P hq9 he
  rw [hq8] at hrecv
  have hsz : (F0 mth pc lsr ((As.reverse ++ vR r :: st).map (tv γ ad))).locals.size = c.maxLocals := by rw [c4]; exact hl.1
  have hfit : cells + mc' ≤ (g_rm d mc ms).cells ∧ slots + ms' ≤ (g_rm d mc ms).slots := ⟨show cells + mc' ≤ mc by omega, show slots + ms' ≤ ms by omega⟩
  have hWst : 2 * (F0 mth pc lsr ((As.reverse ++ vR r :: st).map (tv γ ad))).monitorRoom + ((st.map (tv γ ad)).map fun v => v.category).sum ≤ 8 := by
    have := g_cat_le (γ := γ) (ad := ad) st
    show 2 * 0 + _ ≤ 8
    omega
  have hpre : PreV s H μ'.1.cls (ad r.toNat) (g_Pc γ ad K ρ m (vR r :: As) H.size) (As.map (tv γ ad)) := ⟨g_Pc_blind, hrecv, fun U hU hW => by rw [g_arr h1.1]; exact g_pre hcx P D S U hU hW⟩
  have hrun := vx_runV (g := F0 mth pc lsr ((As.reverse ++ vR r :: st).map (tv γ ad))) (e := e) (below := below) (meth := meth) (locs := locs) (S := ⟨c1, c2, rfl, c6, c9⟩) (hE c12 ad H.size) ⟨g_CB c9 mo hh np hdd hpl, c9 _ mv.1, c9 _ mv.2⟩ hpre rfl (by simp) hsz (g_stk h1.1) hWst hd hfit
  exact g_behind (d' := d') hcx E D S hc hs hl hcb hsb hrun hn kx kk

theorem tz_csG {As : List VV} (hl9 : g_ML μ.1.cls idx μ'.1) (mo : g_MO μ') (mv : g_MS μ') (hh : μ'.2.2.2.2 = []) (np : g_NP μ' As.length) (hd : decode μ.2.1 pc = .ok (.invokestatic idx, 3)) (hn : pc + 3 = n) (hdd : d' + 1 ≤ d ∧ μ'.2.2.1 ≤ 40) (hcat : g_cat st ≤ 8) (hcb : mc' + cb' ≤ cb) (hsb : ms' + sb' ≤ sb) (hE : gE l γ μ' d' mc' ms' (rK K R') xN K ρ m As) (kk : ∀ (v : Option VV) (ρ9 m9 : Mm), R' v ρ9 m9 → gT l γ μ d cb' sb' R X K ρ9 m9 n ls (v.toList ++ st)) : gT l γ μ d cb sb R X K ρ m pc ls (As.reverse ++ st) := by
  intro p e s mth args below meth c A K0 ad0 mc ms H locs cells slots ad lsr C E P D S hc hs hl
  have hcx := C
  obtain ⟨c1, c2, c3, c4, c5, c6, c7, c8, c9, c10, c11, c12⟩ := C
  have hsz : (F0 mth pc lsr ((As.reverse ++ st).map (tv γ ad))).locals.size = c.maxLocals := by rw [c4]; exact hl.1
  have hfit : cells + mc' ≤ (g_rm d mc ms).cells ∧ slots + ms' ≤ (g_rm d mc ms).slots := ⟨show cells + mc' ≤ mc by omega, show slots + ms' ≤ ms by omega⟩
  have hWst : 2 * (F0 mth pc lsr ((As.reverse ++ st).map (tv γ ad))).monitorRoom + ((st.map (tv γ ad)).map fun v => v.category).sum ≤ 8 := by
    have := g_cat_le (γ := γ) (ad := ad) st
    show 2 * 0 + _ ≤ 8
    omega
  have hstk : (As.reverse ++ st).map (tv γ ad) = (As.map (tv γ ad)).reverse ++ st.map (tv γ ad) := by rw [List.map_append, List.map_reverse]
  have hpre : PreS s H (g_Pc γ ad K ρ m As H.size) (As.map (tv γ ad)) := ⟨g_Pc_blind, fun U hU hW => g_pre hcx P D S U hU hW⟩
  have hM := hE.met (fun _ _ _ _ h => h) c12 ad H.size
  rcases hl9 with hl9 | ⟨host, hl9⟩
  · have hrun := va_runS (g := F0 mth pc lsr ((As.reverse ++ st).map (tv γ ad))) (e := e) (below := below) (meth := meth) (locs := locs) (S := ⟨c1, c2, rfl, c6, c9⟩) hM ⟨g_CB c9 mo hh np hdd hl9, c9 _ mv⟩ hpre rfl (by simp) hsz hstk hWst hd hfit
    exact g_behind (X' := fun _ _ _ => False) (d' := d') hcx E D S hc hs hl hcb hsb hrun.toX hn (fun _ _ _ h => h.elim) kk
  · have hrun := va_runSN (g := F0 mth pc lsr ((As.reverse ++ st).map (tv γ ad))) (e := e) (below := below) (meth := meth) (locs := locs) (S := ⟨c1, c2, rfl, c6, c9⟩) hM ⟨g_CN c9 mo hh np hdd (c11.2.1 _ hl9), c9 _ mv, trivial⟩ hpre rfl (by simp) hsz hstk hWst hd hfit
    exact g_behind (X' := fun _ _ _ => False) (d' := d') hcx E D S hc hs hl hcb hsb hrun.toX hn (fun _ _ _ h => h.elim) kk

theorem tz_csxG {As : List VV} (hl9 : g_ML μ.1.cls idx μ'.1) (mo : g_MO μ') (mv : g_MS μ') (hh : μ'.2.2.2.2 = []) (np : g_NP μ' As.length) (hd : decode μ.2.1 pc = .ok (.invokestatic idx, 3)) (hn : pc + 3 = n) (hdd : d' + 1 ≤ d ∧ μ'.2.2.1 ≤ 40) (hcat : g_cat st ≤ 8) (hcb : mc' + cb' ≤ cb) (hsb : ms' + sb' ≤ sb) (hpl : Cond.methodLink μ.1.cls idx μ'.1 ∈ g_TS) (hE : gE l γ μ' d' mc' ms' (rK K R') (xK K X') K ρ m As) (kx : ∀ (E9 : String) (ρ9 m9 : Mm), X' E9 ρ9 m9 → gX l γ μ d cb' sb' R X K ρ9 m9 pc ls E9) (kk : ∀ (v : Option VV) (ρ9 m9 : Mm), R' v ρ9 m9 → gT l γ μ d cb' sb' R X K ρ9 m9 n ls (v.toList ++ st)) : gT l γ μ d cb sb R X K ρ m pc ls (As.reverse ++ st) := by
  intro p e s mth args below meth c A K0 ad0 mc ms H locs cells slots ad lsr C E P D S hc hs hl
  have hcx := C
  obtain ⟨c1, c2, c3, c4, c5, c6, c7, c8, c9, c10, c11, c12⟩ := C
  have hsz : (F0 mth pc lsr ((As.reverse ++ st).map (tv γ ad))).locals.size = c.maxLocals := by rw [c4]; exact hl.1
  have hfit : cells + mc' ≤ (g_rm d mc ms).cells ∧ slots + ms' ≤ (g_rm d mc ms).slots := ⟨show cells + mc' ≤ mc by omega, show slots + ms' ≤ ms by omega⟩
  have hWst : 2 * (F0 mth pc lsr ((As.reverse ++ st).map (tv γ ad))).monitorRoom + ((st.map (tv γ ad)).map fun v => v.category).sum ≤ 8 := by
    have := g_cat_le (γ := γ) (ad := ad) st
    show 2 * 0 + _ ≤ 8
    omega
  have hstk : (As.reverse ++ st).map (tv γ ad) = (As.map (tv γ ad)).reverse ++ st.map (tv γ ad) := by rw [List.map_append, List.map_reverse]
  have hpre : PreS s H (g_Pc γ ad K ρ m As H.size) (As.map (tv γ ad)) := ⟨g_Pc_blind, fun U hU hW => g_pre hcx P D S U hU hW⟩
  have hrun := vx_runS (g := F0 mth pc lsr ((As.reverse ++ st).map (tv γ ad))) (e := e) (below := below) (meth := meth) (locs := locs) (S := ⟨c1, c2, rfl, c6, c9⟩) (hE c12 ad H.size) ⟨g_CB c9 mo hh np hdd hpl, c9 _ mv⟩ hpre rfl (by simp) hsz hstk hWst hd hfit
  exact g_behind (d' := d') hcx E D S hc hs hl hcb hsb hrun hn kx kk

theorem tz_cshG {As : List VV} (hl9 : g_ML μ.1.cls idx μ'.1) (mo : g_MO μ') (mv : g_MS μ') {h0 : Nat × Nat × Nat × Nat} {h1 : List (Nat × Nat × Nat × Nat)} (hh : μ'.2.2.2.2 = h0 :: h1) (np : g_NP μ' As.length) (hd : decode μ.2.1 pc = .ok (.invokestatic idx, 3)) (hn : pc + 3 = n) (hdd : d' + 1 ≤ d ∧ μ'.2.2.1 ≤ 40) (hcat : g_cat st ≤ 8) (hcb : mc' + cb' ≤ cb) (hsb : ms' + sb' ≤ sb) (hpl : Cond.methodLink μ.1.cls idx μ'.1 ∈ g_TS) (hE : gE l γ μ' d' mc' ms' (rK K R') xN K ρ m As) (kk : ∀ (v : Option VV) (ρ9 m9 : Mm), R' v ρ9 m9 → gT l γ μ d cb' sb' R X K ρ9 m9 n ls (v.toList ++ st)) : gT l γ μ d cb sb R X K ρ m pc ls (As.reverse ++ st) := by
  intro p e s mth args below meth c A K0 ad0 mc ms H locs cells slots ad lsr C E P D S hc hs hl
  have hcx := C
  obtain ⟨c1, c2, c3, c4, c5, c6, c7, c8, c9, c10, c11, c12⟩ := C
  have hsz : (F0 mth pc lsr ((As.reverse ++ st).map (tv γ ad))).locals.size = c.maxLocals := by rw [c4]; exact hl.1
  have hfit : cells + mc' ≤ (g_rm d mc ms).cells ∧ slots + ms' ≤ (g_rm d mc ms).slots := ⟨show cells + mc' ≤ mc by omega, show slots + ms' ≤ ms by omega⟩
  have hWst : 2 * (F0 mth pc lsr ((As.reverse ++ st).map (tv γ ad))).monitorRoom + ((st.map (tv γ ad)).map fun v => v.category).sum ≤ 8 := by
    have := g_cat_le (γ := γ) (ad := ad) st
    show 2 * 0 + _ ≤ 8
    omega
  have hstk : (As.reverse ++ st).map (tv γ ad) = (As.map (tv γ ad)).reverse ++ st.map (tv γ ad) := by rw [List.map_append, List.map_reverse]
  have hpre : PreS s H (g_Pc γ ad K ρ m As H.size) (As.map (tv γ ad)) := ⟨g_Pc_blind, fun U hU hW => g_pre hcx P D S U hU hW⟩
  have hM := hE.met (fun _ _ _ _ h => h) c12 ad H.size
  have hw : g_w0 μ' = Cond.codeWith μ'.1 μ'.2.1 μ'.2.2.1 μ'.2.2.2.1 μ'.2.2.2.2 := by unfold g_w0; rw [hh]
  have hrm := g_rmok (mc := mc) (ms := ms) (mc' := mc') (ms' := ms') hdd
  have hrun := vx_runSW (g := F0 mth pc lsr ((As.reverse ++ st).map (tv γ ad))) (e := e) (below := below) (meth := meth) (locs := locs) (S := ⟨c1, c2, rfl, c6, c9⟩) hM ⟨⟨rfl, rfl, hrm.1, hrm.2, g_pay mo c9, by rw [← hw]; exact List.mem_cons_self⟩, by rw [← hw]; exact c9 _ mo.1, c9 _ mo.2.1, mo.2.2.1, g_np np, c9 _ hpl, c9 _ mv⟩ hpre rfl (by simp) hsz hstk hWst hd hfit
  exact g_behind (X' := fun _ _ _ => False) (d' := d') hcx E D S hc hs hl hcb hsb hrun.toX hn (fun _ _ _ h => h.elim) kk

end
