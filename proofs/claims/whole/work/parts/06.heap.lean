/-! The rows of the logic that read and write cells. -/
section
variable {l : Launch} {γ : Gh} {μ : MD} {d cb sb : Nat} {R : RR} {X : XX} {K : List Kd} {ρ m : Mm} {pc n : Nat} {ls : List (Option VV)} {st : List VV}
/-- the kind of cell r -/
def g_k (K : List Kd) (r : Int) : Option Kd := if r ≤ 0 then none else K[(r - 1).toNat]?
theorem g_k_spec {r : Int} {kd : Kd} (h : g_k K r = some kd) : 0 < r ∧ K[(r - 1).toNat]? = some kd ∧ (((r - 1).toNat : Nat) : Int) + 1 = r ∧ (r - 1).toNat + 1 = r.toNat := by
  unfold g_k at h
  split at h
  · cases h
  · exact ⟨by omega, h, by omega, by omega⟩
def wr (m : Mm) (r k x : Int) : Mm := fun a j => if a = r ∧ j = k then x else m a j
theorem wr_ne {m : Mm} {r k x a : Int} (h : a ≠ r) : wr m r k x a = m a := funext fun j => if_neg fun h9 => h h9.1
theorem wr_same {m : Mm} {r k x : Int} : wr m r k x r k = x := if_pos ⟨rfl, rfl⟩
theorem wr_at {m : Mm} {r k x j : Int} : wr m r k x r j = if j = k then x else m r j := by simp [wr]
theorem g_ws_get (γ : Gh) (ad : Nat → Nat) (K : List Kd) (ρ m : Mm) (i : Nat) : (g_ws γ ad K ρ m)[i]? = (K[i]?).map fun kd => (ad (i + 1), g_ce γ ad ρ m ((i : Int) + 1) kd) := by
  unfold g_ws
  by_cases h : i < K.length
  · rw [List.getElem?_map, List.getElem?_range h, List.getElem?_eq_getElem h, Option.map_some, Option.map_some, List.getD_eq_getElem?_getD, List.getElem?_eq_getElem h]
    rfl
  · rw [List.getElem?_eq_none (by simpa using h), List.getElem?_eq_none (by omega)]
    rfl
theorem g_ws_at {ad : Nat → Nat} {r : Int} {kd : Kd} (h : g_k K r = some kd) : (g_ws γ ad K ρ m)[(r - 1).toNat]? = some (ad r.toNat, g_ce γ ad ρ m r kd) := by
  obtain ⟨h1, h2, h3, h4⟩ := g_k_spec h
  rw [g_ws_get, h2, Option.map_some, h3, h4]
theorem g_ce_off {ad : Nat → Nat} {ρ m ρ' m' : Mm} {r : Int} (h1 : ρ' r = ρ r) (h : m' r = m r) (kd : Kd) : g_ce γ ad ρ' m' r kd = g_ce γ ad ρ m r kd := by
  unfold g_ce g_fs g_rd
  rw [h, h1]
theorem g_ws_set {ad : Nat → Nat} {ρ' m' : Mm} {r : Int} {kd : Kd} (h : g_k K r = some kd) (hr : ∀ a, a ≠ r → ρ' a = ρ a) (hm : ∀ a, a ≠ r → m' a = m a) : (g_ws γ ad K ρ m).set (r - 1).toNat (ad r.toNat, g_ce γ ad ρ' m' r kd) = g_ws γ ad K ρ' m' := by
  obtain ⟨h1, h2, h3, h4⟩ := g_k_spec h
  refine List.ext_getElem? fun i => ?_
  rw [List.getElem?_set]
  have hlen : (g_ws γ ad K ρ m).length = K.length := by simp [g_ws]
  split
  · next hi =>
    subst hi
    rw [if_pos (by rw [hlen]; exact (List.getElem?_eq_some_iff.mp h2).1), g_ws_at h]
  · next hi =>
    rw [g_ws_get, g_ws_get]
    cases hk : K[i]? with
    | none => rfl
    | some k9 =>
      rw [Option.map_some, Option.map_some, g_ce_off (hr _ (by omega)) (hm _ (by omega))]
theorem g_fs_get {ad : Nat → Nat} {r : Int} {c k : Nat} (hk : k < g_nF c) : (g_fs γ ad ρ m r c)[k]? = some (tv γ ad (g_ft c k, g_rd ρ m (g_ft c k) r k)) := by
  unfold g_fs
  rw [List.getElem?_map, List.getElem?_range hk]
  rfl
theorem g_fs_set {ad : Nat → Nat} {r x : Int} {c k : Nat} (hk : k < g_nF c) : (g_fs γ ad ρ m r c).set k (tv γ ad (g_ft c k, x)) = g_fs γ ad (if g_ft c k = 0 then ρ else wr ρ r k x) (if g_ft c k = 0 then wr m r k x else m) r c := by
  refine List.ext_getElem? fun i => ?_
  rw [List.getElem?_set]
  split
  · next hi =>
    subst hi
    rw [if_pos (by simpa [g_fs] using hk), g_fs_get hk]
    unfold g_rd
    by_cases h2 : g_ft c k = 0
    · simp only [h2, if_true, wr_same]
    · simp only [h2, if_false, wr_same]
  · next hi =>
    unfold g_fs
    rw [List.getElem?_map, List.getElem?_map]
    cases h9 : (List.range (g_nF c))[i]? with
    | none => rfl
    | some j =>
      obtain ⟨h8, h7⟩ := List.getElem?_eq_some_iff.mp h9
      rw [List.getElem_range] at h7
      subst h7
      have e1 : ∀ z : Mm, wr z r k x r i = z r i := fun z => by rw [wr_at, if_neg (by omega)]
      unfold g_rd
      by_cases h2 : g_ft c k = 0
      · simp only [Option.map_some, h2, if_true, e1]
      · simp only [Option.map_some, h2, if_false, e1]
theorem g_nF_of {ci : Nat} {Cn : String} {T : u_T} {N : Nat} (h : vwCl[ci]? = some (Cn, T, N)) : g_nF ci = N := by unfold g_nF; rw [h]
theorem g_ft_of {ci k : Nat} {Cn : String} {T : u_T} {N : Nat} {ty : FieldType} (h : vwCl[ci]? = some (Cn, T, N)) (hp : parseFieldDescriptor (T k).2.2.1 = some ty) : g_ft ci k = g_tag ty := by unfold g_ft; rw [h]; simp only [hp]

theorem tz_getG {r : Int} {idx ci k : Nat} {fin : Bool} {ty : FieldType} (hf : g_FK μ.1.cls idx ci k fin ty) (hk : g_k K r = some (.inl ci)) (hd : decode μ.2.1 pc = .ok (.getfield idx, 3)) (hn : pc + 3 = n) (kk : gT l γ μ d cb sb R X K ρ m n ls ((g_tag ty, g_rd ρ m (g_tag ty) r k) :: st)) : gT l γ μ d cb sb R X K ρ m pc ls (vR r :: st) := by
  subst hn
  intro p e s mth args below meth c A K0 ad0 mc ms H locs cells slots ad lsr C E P D S hc hs hl
  obtain ⟨Cn, T, N, hcl, hkN, hfin, hp, hlk⟩ := hf
  obtain ⟨hin, ty0, hty, hnm⟩ := g_co hcl
  have k9 := kk p e s mth args below meth c A K0 ad0 mc ms H locs cells slots ad lsr C E P D S hc hs hl
  have h1 := g_k_spec hk
  have he := g_ws_at (γ := γ) (ad := ad) (ρ := ρ) (m := m) hk
  have hv : (g_fs γ ad ρ m r ci)[k]? = some (tv γ ad (g_tag ty, g_rd ρ m (g_tag ty) r k)) := by rw [g_fs_get (by rw [g_nF_of hcl]; exact hkN), g_ft_of hcl hp]
  simp only [List.map_cons, tv_R, rv_pos h1.1] at k9 ⊢
  obtain ⟨c1, c2, c3, c4, c5, c6, c7, c8, c9, c10, c11, c12⟩ := C
  rcases hlk with hlk | ⟨host, hlk⟩
  · exact va_get c1 c2 c9 hin c6 c11.1 P _ he hcl k hkN (c9 _ hlk) (fun _ h => h) hv hd k9
  · exact va_getN c1 c2 c9 hin c6 c11.1 P _ he hcl k hkN ((c11.2.1 _ hlk).use rfl) (fun _ h => h) hv hd k9
theorem tz_getI {r : Int} {idx ci k : Nat} {fin : Bool} (hf : g_FK μ.1.cls idx ci k fin .int) (hk : g_k K r = some (.inl ci)) (hd : decode μ.2.1 pc = .ok (.getfield idx, 3)) (hn : pc + 3 = n) (kk : gT l γ μ d cb sb R X K ρ m n ls (vI (m r k) :: st)) : gT l γ μ d cb sb R X K ρ m pc ls (vR r :: st) := tz_getG hf hk hd hn kk
theorem tz_getZ {r : Int} {idx ci k : Nat} {fin : Bool} (hf : g_FK μ.1.cls idx ci k fin .boolean) (hk : g_k K r = some (.inl ci)) (hd : decode μ.2.1 pc = .ok (.getfield idx, 3)) (hn : pc + 3 = n) (kk : gT l γ μ d cb sb R X K ρ m n ls (vI (m r k) :: st)) : gT l γ μ d cb sb R X K ρ m pc ls (vR r :: st) := tz_getG hf hk hd hn kk
theorem tz_getL {r : Int} {idx ci k : Nat} {fin : Bool} (hf : g_FK μ.1.cls idx ci k fin .long) (hk : g_k K r = some (.inl ci)) (hd : decode μ.2.1 pc = .ok (.getfield idx, 3)) (hn : pc + 3 = n) (kk : gT l γ μ d cb sb R X K ρ m n ls (vL (ρ r k) :: st)) : gT l γ μ d cb sb R X K ρ m pc ls (vR r :: st) := tz_getG hf hk hd hn kk
theorem tz_getA {r : Int} {idx ci k : Nat} {fin : Bool} {ty : FieldType} (hf : g_FK μ.1.cls idx ci k fin (.array ty)) (hk : g_k K r = some (.inl ci)) (hd : decode μ.2.1 pc = .ok (.getfield idx, 3)) (hn : pc + 3 = n) (kk : gT l γ μ d cb sb R X K ρ m n ls (vR (ρ r k) :: st)) : gT l γ μ d cb sb R X K ρ m pc ls (vR r :: st) := tz_getG hf hk hd hn kk
theorem tz_getO {r : Int} {idx ci k : Nat} {fin : Bool} {ty : String} (hf : g_FK μ.1.cls idx ci k fin (.object ty)) (hk : g_k K r = some (.inl ci)) (hd : decode μ.2.1 pc = .ok (.getfield idx, 3)) (hn : pc + 3 = n) (kk : gT l γ μ d cb sb R X K ρ m n ls (vR (ρ r k) :: st)) : gT l γ μ d cb sb R X K ρ m pc ls (vR r :: st) := tz_getG hf hk hd hn kk
theorem tz_putG {r x : Int} {idx ci k : Nat} {fin : Bool} {ty : FieldType} (hf : g_FK μ.1.cls idx ci k fin ty) (hF : fin = false ∨ (μ.1.name = "<init>" ∧ Cond.fieldLink μ.1.cls idx μ.1.cls ((vwCl.getD ci ("", fun _ => ("", "", "", false), 0)).2.1 k).2.1 ((vwCl.getD ci ("", fun _ => ("", "", "", false), 0)).2.1 k).2.2.1 ∈ g_TS ∧ ((vwCl.getD ci ("", fun _ => ("", "", "", false), 0)).2.1 k).1 = μ.1.cls)) (hy : ∀ ad, narrow ty (tv γ ad (g_tag ty, x)) = tv γ ad (g_tag ty, x) ∧ fits ty (tv γ ad (g_tag ty, x)) = true) (hk : g_k K r = some (.inl ci)) (hd : decode μ.2.1 pc = .ok (.putfield idx, 3)) (hn : pc + 3 = n) (kk : gT l γ μ d cb sb R X K (if g_tag ty = 0 then ρ else wr ρ r k x) (if g_tag ty = 0 then wr m r k x else m) n ls st) : gT l γ μ d cb sb R X K ρ m pc ls ((g_tag ty, x) :: vR r :: st) := by
  subst hn
  intro p e s mth args below meth c A K0 ad0 mc ms H locs cells slots ad lsr C E P D S hc hs hl
  obtain ⟨Cn, T, N, hcl, hkN, hfin, hp, hlk⟩ := hf
  obtain ⟨hin, ty0, hty, hnm⟩ := g_co hcl
  have h1 := g_k_spec hk
  have he := g_ws_at (γ := γ) (ad := ad) (ρ := ρ) (m := m) hk
  have hset : (g_ws γ ad K ρ m).set (r - 1).toNat (ad r.toNat, .inr (ci, (g_fs γ ad ρ m r ci).set k (tv γ ad (g_tag ty, x)))) = g_ws γ ad K (if g_tag ty = 0 then ρ else wr ρ r k x) (if g_tag ty = 0 then wr m r k x else m) := by
    rw [← g_ws_set hk (ρ' := if g_tag ty = 0 then ρ else wr ρ r k x) (m' := if g_tag ty = 0 then wr m r k x else m) (fun a ha => by split <;> first | exact wr_ne ha | rfl) (fun a ha => by split <;> first | exact wr_ne ha | rfl)]
    rw [← g_ft_of hcl hp, g_fs_set (by rw [g_nF_of hcl]; exact hkN)]
    rfl
  have hlen : k < (g_fs γ ad ρ m r ci).length := by simp [g_fs, g_nF_of hcl, hkN]
  have k9 : ∀ (H1 : Heap) (locs1 : List Loc), va_P (g_D γ) vwCl ((g_ws γ ad K ρ m).set (r - 1).toNat (ad r.toNat, .inr (ci, (g_fs γ ad ρ m r ci).set k (tv γ ad (g_tag ty, x))))) H1 → va_D A ((g_ws γ ad K ρ m).set (r - 1).toNat (ad r.toNat, .inr (ci, (g_fs γ ad ρ m r ci).set k (tv γ ad (g_tag ty, x))))) → va_S A s.heap H1 locs1 → W p l e (g_rm d mc ms) s mth args below meth c H1 locs1 cells slots (vx_MQ below (g_Qc γ R K0 ad0 A) (g_Xc γ X K0 ad0 A) args s mc ms A) (F0 mth (pc + 3) lsr (st.map (tv γ ad))) := by
    rw [hset]
    intro H1 locs1 P1 D1 S1
    exact kk p e s mth args below meth c A K0 ad0 mc ms H1 locs1 cells slots ad lsr C E P1 D1 S1 hc hs hl
  simp only [List.map_cons, tv_R, rv_pos h1.1]
  obtain ⟨c1, c2, c3, c4, c5, c6, c7, c8, c9, c10, c11, c12⟩ := C
  rcases hF with rfl | ⟨hi, hl9, hdecl⟩
  · rcases hlk with hlk | ⟨host, hlk⟩
    · exact va_put c1 c2 c9 hin ty0 hty hnm c6 c11.1 P D S _ he hcl k hkN (c9 _ hlk) (fun _ h => h) hfin hp (hy ad).1 (hy ad).2 hlen hd k9
    · exact va_putN c1 c2 c9 hin ty0 hty hnm c6 c11.1 P D S _ he hcl k hkN ((c11.2.1 _ hlk).use rfl) (fun _ h => h) hfin hp (hy ad).1 (hy ad).2 hlen hd k9
  · have hg : vwCl.getD ci ("", fun _ => ("", "", "", false), 0) = (Cn, T, N) := by rw [List.getD_eq_getElem?_getD, hcl]; rfl
    rw [hg] at hl9 hdecl
    cases fin with
    | false =>
      rcases hlk with hlk | ⟨host, hlk⟩
      · exact va_put c1 c2 c9 hin ty0 hty hnm c6 c11.1 P D S _ he hcl k hkN (c9 _ hlk) (fun _ h => h) hfin hp (hy ad).1 (hy ad).2 hlen hd k9
      · exact va_putN c1 c2 c9 hin ty0 hty hnm c6 c11.1 P D S _ he hcl k hkN ((c11.2.1 _ hlk).use rfl) (fun _ h => h) hfin hp (hy ad).1 (hy ad).2 hlen hd k9
    | true => exact va_putF c1 c2 c9 hin ty0 hty hnm c6 c11.1 P D S _ he hcl k hkN (c9 _ hl9) (by rw [hdecl]; exact fun _ h => h) hfin (c7.trans hi) hdecl hp (hy ad).1 (hy ad).2 hlen hd k9
theorem g_nI {x : Int} (ad : Nat → Nat) : narrow .int (tv γ ad (g_tag .int, x)) = tv γ ad (g_tag .int, x) ∧ fits .int (tv γ ad (g_tag .int, x)) = true := ⟨rfl, rfl⟩
theorem g_nL {x : Int} (ad : Nat → Nat) : narrow .long (tv γ ad (g_tag .long, x)) = tv γ ad (g_tag .long, x) ∧ fits .long (tv γ ad (g_tag .long, x)) = true := ⟨rfl, rfl⟩
theorem g_nZ {x : Int} (h : x = 0 ∨ x = 1) (ad : Nat → Nat) : narrow .boolean (tv γ ad (g_tag .boolean, x)) = tv γ ad (g_tag .boolean, x) ∧ fits .boolean (tv γ ad (g_tag .boolean, x)) = true := by
  rcases h with rfl | rfl <;> exact ⟨by rfl, by rfl⟩
theorem g_nA {x : Int} {ty : FieldType} (ad : Nat → Nat) : narrow (.array ty) (tv γ ad (g_tag (.array ty), x)) = tv γ ad (g_tag (.array ty), x) ∧ fits (.array ty) (tv γ ad (g_tag (.array ty), x)) = true := by
  show narrow (.array ty) (rv γ ad x) = rv γ ad x ∧ fits (.array ty) (rv γ ad x) = true
  unfold rv
  split
  · exact ⟨rfl, rfl⟩
  · split <;> exact ⟨rfl, rfl⟩
theorem g_nO {x : Int} {ty : String} (ad : Nat → Nat) : narrow (.object ty) (tv γ ad (g_tag (.object ty), x)) = tv γ ad (g_tag (.object ty), x) ∧ fits (.object ty) (tv γ ad (g_tag (.object ty), x)) = true := by
  show narrow (.object ty) (rv γ ad x) = rv γ ad x ∧ fits (.object ty) (rv γ ad x) = true
  unfold rv
  split
  · exact ⟨rfl, rfl⟩
  · split <;> exact ⟨rfl, rfl⟩

theorem tz_putI {r x : Int} {idx ci k : Nat} (hf : g_FK μ.1.cls idx ci k false .int) (hk : g_k K r = some (.inl ci)) (hd : decode μ.2.1 pc = .ok (.putfield idx, 3)) (hn : pc + 3 = n) (kk : gT l γ μ d cb sb R X K ρ (wr m r k x) n ls st) : gT l γ μ d cb sb R X K ρ m pc ls (vI x :: vR r :: st) := tz_putG hf (Or.inl rfl) g_nI hk hd hn kk
theorem tz_putZ {r x : Int} {idx ci k : Nat} (hf : g_FK μ.1.cls idx ci k false .boolean) (hk : g_k K r = some (.inl ci)) (hd : decode μ.2.1 pc = .ok (.putfield idx, 3)) (hn : pc + 3 = n) (h01 : x = 0 ∨ x = 1) (kk : gT l γ μ d cb sb R X K ρ (wr m r k x) n ls st) : gT l γ μ d cb sb R X K ρ m pc ls (vI x :: vR r :: st) := tz_putG hf (Or.inl rfl) (g_nZ h01) hk hd hn kk
theorem tz_putL {r x : Int} {idx ci k : Nat} (hf : g_FK μ.1.cls idx ci k false .long) (hk : g_k K r = some (.inl ci)) (hd : decode μ.2.1 pc = .ok (.putfield idx, 3)) (hn : pc + 3 = n) (kk : gT l γ μ d cb sb R X K (wr ρ r k x) m n ls st) : gT l γ μ d cb sb R X K ρ m pc ls (vL x :: vR r :: st) := tz_putG hf (Or.inl rfl) g_nL hk hd hn kk
theorem tz_putA {r x : Int} {idx ci k : Nat} {ty : FieldType} (hf : g_FK μ.1.cls idx ci k false (.array ty)) (hk : g_k K r = some (.inl ci)) (hd : decode μ.2.1 pc = .ok (.putfield idx, 3)) (hn : pc + 3 = n) (kk : gT l γ μ d cb sb R X K (wr ρ r k x) m n ls st) : gT l γ μ d cb sb R X K ρ m pc ls (vR x :: vR r :: st) := tz_putG hf (Or.inl rfl) g_nA hk hd hn kk
theorem tz_putO {r x : Int} {idx ci k : Nat} {ty : String} (hf : g_FK μ.1.cls idx ci k false (.object ty)) (hk : g_k K r = some (.inl ci)) (hd : decode μ.2.1 pc = .ok (.putfield idx, 3)) (hn : pc + 3 = n) (kk : gT l γ μ d cb sb R X K (wr ρ r k x) m n ls st) : gT l γ μ d cb sb R X K ρ m pc ls (vR x :: vR r :: st) := tz_putG hf (Or.inl rfl) g_nO hk hd hn kk
theorem tz_putFA {r x : Int} {idx ci k : Nat} {fin : Bool} {ty : FieldType} (hf : g_FK μ.1.cls idx ci k fin (.array ty)) (hi : μ.1.name = "<init>") (hl9 : Cond.fieldLink μ.1.cls idx μ.1.cls ((vwCl.getD ci ("", fun _ => ("", "", "", false), 0)).2.1 k).2.1 ((vwCl.getD ci ("", fun _ => ("", "", "", false), 0)).2.1 k).2.2.1 ∈ g_TS) (hdc : ((vwCl.getD ci ("", fun _ => ("", "", "", false), 0)).2.1 k).1 = μ.1.cls) (hk : g_k K r = some (.inl ci)) (hd : decode μ.2.1 pc = .ok (.putfield idx, 3)) (hn : pc + 3 = n) (kk : gT l γ μ d cb sb R X K (wr ρ r k x) m n ls st) : gT l γ μ d cb sb R X K ρ m pc ls (vR x :: vR r :: st) := tz_putG hf (Or.inr ⟨hi, hl9, hdc⟩) g_nA hk hd hn kk
theorem tz_putFO {r x : Int} {idx ci k : Nat} {fin : Bool} {ty : String} (hf : g_FK μ.1.cls idx ci k fin (.object ty)) (hi : μ.1.name = "<init>") (hl9 : Cond.fieldLink μ.1.cls idx μ.1.cls ((vwCl.getD ci ("", fun _ => ("", "", "", false), 0)).2.1 k).2.1 ((vwCl.getD ci ("", fun _ => ("", "", "", false), 0)).2.1 k).2.2.1 ∈ g_TS) (hdc : ((vwCl.getD ci ("", fun _ => ("", "", "", false), 0)).2.1 k).1 = μ.1.cls) (hk : g_k K r = some (.inl ci)) (hd : decode μ.2.1 pc = .ok (.putfield idx, 3)) (hn : pc + 3 = n) (kk : gT l γ μ d cb sb R X K (wr ρ r k x) m n ls st) : gT l γ μ d cb sb R X K ρ m pc ls (vR x :: vR r :: st) := tz_putG hf (Or.inr ⟨hi, hl9, hdc⟩) g_nO hk hd hn kk
theorem g_in32 {j : Int} {N : Nat} (h0 : 0 ≤ j) (h1 : j < N) (hN : N < 2147483648) : vp_in (Int32.ofInt j) N ∧ (Int32.ofInt j).toNatClampNeg = j.toNat := by
  have h : (Int32.ofInt j).toInt = j := w32_id ⟨by omega, by omega⟩
  refine ⟨vp_in_iff.mpr (by rw [h]; exact ⟨h0, h1⟩), ?_⟩
  unfold Int32.toNatClampNeg
  rw [h]
theorem tz_iald {r j : Int} {N : Nat} (hk : g_k K r = some (.inr (0, N))) (h0 : 0 ≤ j ∧ j < N ∧ N < 2147483648) (hd : decode μ.2.1 pc = .ok (.iaload, 1)) (hn : pc + 1 = n) (kk : gT l γ μ d cb sb R X K ρ m n ls (vI (m r j) :: st)) : gT l γ μ d cb sb R X K ρ m pc ls (vI j :: vR r :: st) := by
  subst hn
  intro p e s mth args below meth c A K0 ad0 mc ms H locs cells slots ad lsr C E P D S hc hs hl
  have k9 := kk p e s mth args below meth c A K0 ad0 mc ms H locs cells slots ad lsr C E P D S hc hs hl
  have h1 := g_k_spec hk
  obtain ⟨i1, i2⟩ := g_in32 h0.1 h0.2.1 h0.2.2
  have he := g_ws_at (γ := γ) (ad := ad) (ρ := ρ) (m := m) hk
  simp only [List.map_cons, tv_R, tv_I, tv_L, rv_pos h1.1] at k9 ⊢
  refine va_iald C.1 C.2.1 C.2.2.2.2.2.2.2.2.2.2.1.1 P _ 0 he rfl i1 hd ?_
  rw [i2]
  have h9 : ((j.toNat : Nat) : Int) = j := by omega
  simp only [h9]
  exact k9

theorem tz_zald {r j : Int} {N : Nat} (hk : g_k K r = some (.inr (1, N))) (h0 : 0 ≤ j ∧ j < N ∧ N < 2147483648) (hd : decode μ.2.1 pc = .ok (.baload, 1)) (hn : pc + 1 = n) (kk : gT l γ μ d cb sb R X K ρ m n ls (vI (m r j) :: st)) : gT l γ μ d cb sb R X K ρ m pc ls (vI j :: vR r :: st) := by
  subst hn
  intro p e s mth args below meth c A K0 ad0 mc ms H locs cells slots ad lsr C E P D S hc hs hl
  have k9 := kk p e s mth args below meth c A K0 ad0 mc ms H locs cells slots ad lsr C E P D S hc hs hl
  have h1 := g_k_spec hk
  obtain ⟨i1, i2⟩ := g_in32 h0.1 h0.2.1 h0.2.2
  have he := g_ws_at (γ := γ) (ad := ad) (ρ := ρ) (m := m) hk
  simp only [List.map_cons, tv_R, tv_I, tv_L, rv_pos h1.1] at k9 ⊢
  refine va_zald C.1 C.2.1 C.2.2.2.2.2.2.2.2.2.2.1.1 P _ 1 he rfl i1 hd ?_
  rw [i2]
  have h9 : ((j.toNat : Nat) : Int) = j := by omega
  simp only [h9]
  exact k9

theorem tz_lald {r j : Int} {N : Nat} (hk : g_k K r = some (.inr (2, N))) (h0 : 0 ≤ j ∧ j < N ∧ N < 2147483648) (hd : decode μ.2.1 pc = .ok (.laload, 1)) (hn : pc + 1 = n) (kk : gT l γ μ d cb sb R X K ρ m n ls (vL (m r j) :: st)) : gT l γ μ d cb sb R X K ρ m pc ls (vI j :: vR r :: st) := by
  subst hn
  intro p e s mth args below meth c A K0 ad0 mc ms H locs cells slots ad lsr C E P D S hc hs hl
  have k9 := kk p e s mth args below meth c A K0 ad0 mc ms H locs cells slots ad lsr C E P D S hc hs hl
  have h1 := g_k_spec hk
  obtain ⟨i1, i2⟩ := g_in32 h0.1 h0.2.1 h0.2.2
  have he := g_ws_at (γ := γ) (ad := ad) (ρ := ρ) (m := m) hk
  simp only [List.map_cons, tv_R, tv_I, tv_L, rv_pos h1.1] at k9 ⊢
  refine va_lald C.1 C.2.1 C.2.2.2.2.2.2.2.2.2.2.1.1 P _ 2 he rfl i1 hd ?_
  rw [i2]
  have h9 : ((j.toNat : Nat) : Int) = j := by omega
  simp only [h9]
  exact k9

theorem tz_iast {r j x : Int} {N : Nat} (hk : g_k K r = some (.inr (0, N))) (h0 : 0 ≤ j ∧ j < N ∧ N < 2147483648) (hd : decode μ.2.1 pc = .ok (.iastore, 1)) (hn : pc + 1 = n) (kk : gT l γ μ d cb sb R X K ρ (wr m r j x) n ls st) : gT l γ μ d cb sb R X K ρ m pc ls (vI x :: vI j :: vR r :: st) := by
  subst hn
  intro p e s mth args below meth c A K0 ad0 mc ms H locs cells slots ad lsr C E P D S hc hs hl
  have h1 := g_k_spec hk
  obtain ⟨i1, i2⟩ := g_in32 h0.1 h0.2.1 h0.2.2
  have he := g_ws_at (γ := γ) (ad := ad) (ρ := ρ) (m := m) hk
  have h9 : ((j.toNat : Nat) : Int) = j := by omega
  simp only [List.map_cons, tv_R, tv_I, tv_L, rv_pos h1.1]
  refine va_iast C.1 C.2.1 C.2.2.2.2.2.2.2.2.2.2.1.1 P D S _ 0 he rfl i1 hd ?_
  rw [i2]
  have hf : upd (fun i : Nat => Int32.ofInt (m r i)) j.toNat (Int32.ofInt x) = fun i : Nat => Int32.ofInt (wr m r j x r i) := by
    funext i
    simp only [upd, wr_at]
    by_cases hi : i = j.toNat
    · rw [if_pos hi, if_pos (by omega)]
    · rw [if_neg hi, if_neg (by omega)]
  have hset : (g_ws γ ad K ρ m).set (r - 1).toNat (ad r.toNat, .inl (g_cA γ 0, N, .inl (upd (fun i : Nat => Int32.ofInt (m r i)) j.toNat (Int32.ofInt x)))) = g_ws γ ad K ρ (wr m r j x) := by
    rw [hf]
    exact g_ws_set hk (ρ' := ρ) (m' := wr m r j x) (fun _ _ => rfl) (fun a ha => wr_ne ha)
  rw [hset]
  intro H1 locs1 P1 D1 S1
  exact kk p e s mth args below meth c A K0 ad0 mc ms H1 locs1 cells slots ad lsr C E P1 D1 S1 hc hs hl

theorem tz_zast {r j x : Int} {N : Nat} (hk : g_k K r = some (.inr (1, N))) (h0 : 0 ≤ j ∧ j < N ∧ N < 2147483648) (h01 : x = 0 ∨ x = 1) (hd : decode μ.2.1 pc = .ok (.bastore, 1)) (hn : pc + 1 = n) (kk : gT l γ μ d cb sb R X K ρ (wr m r j x) n ls st) : gT l γ μ d cb sb R X K ρ m pc ls (vI x :: vI j :: vR r :: st) := by
  subst hn
  intro p e s mth args below meth c A K0 ad0 mc ms H locs cells slots ad lsr C E P D S hc hs hl
  have h1 := g_k_spec hk
  obtain ⟨i1, i2⟩ := g_in32 h0.1 h0.2.1 h0.2.2
  have he := g_ws_at (γ := γ) (ad := ad) (ρ := ρ) (m := m) hk
  have h9 : ((j.toNat : Nat) : Int) = j := by omega
  have h01z : vp_nar .boolean (Int32.ofInt x) = Int32.ofInt x := by rcases h01 with rfl | rfl <;> rfl
  simp only [List.map_cons, tv_R, tv_I, tv_L, rv_pos h1.1]
  refine va_zast C.1 C.2.1 C.2.2.2.2.2.2.2.2.2.2.1.1 P D S _ 1 he rfl i1 hd ?_
  rw [i2, h01z]
  have hf : upd (fun i : Nat => Int32.ofInt (m r i)) j.toNat (Int32.ofInt x) = fun i : Nat => Int32.ofInt (wr m r j x r i) := by
    funext i
    simp only [upd, wr_at]
    by_cases hi : i = j.toNat
    · rw [if_pos hi, if_pos (by omega)]
    · rw [if_neg hi, if_neg (by omega)]
  have hset : (g_ws γ ad K ρ m).set (r - 1).toNat (ad r.toNat, .inl (g_cA γ 1, N, .inl (upd (fun i : Nat => Int32.ofInt (m r i)) j.toNat (Int32.ofInt x)))) = g_ws γ ad K ρ (wr m r j x) := by
    rw [hf]
    exact g_ws_set hk (ρ' := ρ) (m' := wr m r j x) (fun _ _ => rfl) (fun a ha => wr_ne ha)
  rw [hset]
  intro H1 locs1 P1 D1 S1
  exact kk p e s mth args below meth c A K0 ad0 mc ms H1 locs1 cells slots ad lsr C E P1 D1 S1 hc hs hl

theorem tz_last {r j x : Int} {N : Nat} (hk : g_k K r = some (.inr (2, N))) (h0 : 0 ≤ j ∧ j < N ∧ N < 2147483648) (hd : decode μ.2.1 pc = .ok (.lastore, 1)) (hn : pc + 1 = n) (kk : gT l γ μ d cb sb R X K ρ (wr m r j x) n ls st) : gT l γ μ d cb sb R X K ρ m pc ls (vL x :: vI j :: vR r :: st) := by
  subst hn
  intro p e s mth args below meth c A K0 ad0 mc ms H locs cells slots ad lsr C E P D S hc hs hl
  have h1 := g_k_spec hk
  obtain ⟨i1, i2⟩ := g_in32 h0.1 h0.2.1 h0.2.2
  have he := g_ws_at (γ := γ) (ad := ad) (ρ := ρ) (m := m) hk
  have h9 : ((j.toNat : Nat) : Int) = j := by omega
  simp only [List.map_cons, tv_R, tv_I, tv_L, rv_pos h1.1]
  refine va_last C.1 C.2.1 C.2.2.2.2.2.2.2.2.2.2.1.1 P D S _ 2 he rfl i1 hd ?_
  rw [i2]
  have hf : vp_updL (fun i : Nat => Int64.ofInt (m r i)) j.toNat (Int64.ofInt x) = fun i : Nat => Int64.ofInt (wr m r j x r i) := by
    funext i
    simp only [vp_updL, wr_at]
    by_cases hi : i = j.toNat
    · rw [if_pos hi, if_pos (by omega)]
    · rw [if_neg hi, if_neg (by omega)]
  have hset : (g_ws γ ad K ρ m).set (r - 1).toNat (ad r.toNat, .inl (g_cA γ 2, N, .inr (.inl (vp_updL (fun i : Nat => Int64.ofInt (m r i)) j.toNat (Int64.ofInt x))))) = g_ws γ ad K ρ (wr m r j x) := by
    rw [hf]
    exact g_ws_set hk (ρ' := ρ) (m' := wr m r j x) (fun _ _ => rfl) (fun a ha => wr_ne ha)
  rw [hset]
  intro H1 locs1 P1 D1 S1
  exact kk p e s mth args below meth c A K0 ad0 mc ms H1 locs1 cells slots ad lsr C E P1 D1 S1 hc hs hl

theorem tz_alen {r : Int} {t N : Nat} (hk : g_k K r = some (.inr (t, N))) (hd : decode μ.2.1 pc = .ok (.arraylength, 1)) (hn : pc + 1 = n) (kk : gT l γ μ d cb sb R X K ρ m n ls (vI N :: st)) : gT l γ μ d cb sb R X K ρ m pc ls (vR r :: st) := by
  subst hn
  intro p e s mth args below meth c A K0 ad0 mc ms H locs cells slots ad lsr C E P D S hc hs hl
  have k9 := kk p e s mth args below meth c A K0 ad0 mc ms H locs cells slots ad lsr C E P D S hc hs hl
  have h1 := g_k_spec hk
  have he := g_ws_at (γ := γ) (ad := ad) (ρ := ρ) (m := m) hk
  simp only [List.map_cons, tv_R, tv_I, rv_pos h1.1] at k9 ⊢
  match t, he with
  | 0, he => exact va_alen C.1 C.2.1 C.2.2.2.2.2.2.2.2.2.2.1.1 P _ 0 he rfl (Int32.ofInt_eq_ofNat).symm hd k9
  | 1, he => exact va_alen C.1 C.2.1 C.2.2.2.2.2.2.2.2.2.2.1.1 P _ 1 he rfl (Int32.ofInt_eq_ofNat).symm hd k9
  | t + 2, he => exact va_alen C.1 C.2.1 C.2.2.2.2.2.2.2.2.2.2.1.1 P _ 2 he rfl (Int32.ofInt_eq_ofNat).symm hd k9
/-- the script -/
theorem tz_sld {j : Int} (h0 : 0 ≤ j ∧ j < γ.2.2.2.2.1 ∧ γ.2.2.2.2.1 < 2147483648) (hd : decode μ.2.1 pc = .ok (.iaload, 1)) (hn : pc + 1 = n) (kk : gT l γ μ d cb sb R X K ρ m n ls (vI (γ.2.2.2.2.2 j.toNat).toInt :: st)) : gT l γ μ d cb sb R X K ρ m pc ls (vI j :: vR (-1) :: st) := by
  subst hn
  intro p e s mth args below meth c A K0 ad0 mc ms H locs cells slots ad lsr C E P D S hc hs hl
  have k9 := kk p e s mth args below meth c A K0 ad0 mc ms H locs cells slots ad lsr C E P D S hc hs hl
  obtain ⟨i1, i2⟩ := g_in32 h0.1 h0.2.1 h0.2.2
  obtain ⟨c1, c2, c3, c4, c5, c6, c7, c8, c9, c10, c11, c12⟩ := C
  obtain ⟨x1, x2, x3⟩ := c11.2.2.2.2.1
  simp only [List.map_cons, tv_R, tv_I, rv_neg (show (-1 : Int) < 0 by decide), Int32.ofInt_toInt] at k9 ⊢
  refine va_sld c1 c2 x1 x3 x2 S i1 hd ?_
  rw [i2]
  exact k9
theorem tz_slen (hd : decode μ.2.1 pc = .ok (.arraylength, 1)) (hn : pc + 1 = n) (kk : gT l γ μ d cb sb R X K ρ m n ls (vI γ.2.2.2.2.1 :: st)) : gT l γ μ d cb sb R X K ρ m pc ls (vR (-1) :: st) := by
  subst hn
  intro p e s mth args below meth c A K0 ad0 mc ms H locs cells slots ad lsr C E P D S hc hs hl
  have k9 := kk p e s mth args below meth c A K0 ad0 mc ms H locs cells slots ad lsr C E P D S hc hs hl
  obtain ⟨c1, c2, c3, c4, c5, c6, c7, c8, c9, c10, c11, c12⟩ := C
  obtain ⟨x1, x2, x3⟩ := c11.2.2.2.2.1
  simp only [List.map_cons, tv_R, tv_I, rv_neg (show (-1 : Int) < 0 by decide)] at k9 ⊢
  rw [Int32.ofInt_eq_ofNat] at k9
  exact va_slen c1 c2 x1 x3 x2 S hd k9
end
