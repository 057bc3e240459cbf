/-! Making cells: memories as tables. -/
def tf : List (Int × Int × Int) → Mm
  | [] => fun _ _ => 0
  | (r, k, x) :: T => wr (tf T) r k x
def BK (T : List (Int × Int × Int)) (n : Int) : Prop := ∀ q ∈ T, q.1 ≤ n ∧ q.2.2 ≤ n
theorem BK.nil {n : Int} : BK [] n := fun q h => nomatch h
theorem BK.up {T : List (Int × Int × Int)} {n n9 : Int} (h : BK T n) (e : n ≤ n9) : BK T n9 := fun q hq => ⟨Int.le_trans (h q hq).1 e, Int.le_trans (h q hq).2 e⟩
theorem BK.c {T : List (Int × Int × Int)} {n r k x : Int} (h : BK T n) (hr : r ≤ n) (hx : x ≤ n) : BK ((r, k, x) :: T) n := fun q hq => by
  rcases List.mem_cons.mp hq with rfl | hq
  · exact ⟨hr, hx⟩
  · exact h q hq
theorem tf_le {n : Int} (h0 : 0 ≤ n) : ∀ {T : List (Int × Int × Int)}, BK T n → ∀ a k, tf T a k ≤ n
  | [], _, a, k => h0
  | (r, j, x) :: T, h, a, k => by
    show (if a = r ∧ k = j then x else tf T a k) ≤ n
    split
    · exact (h _ List.mem_cons_self).2
    · exact tf_le h0 (fun q hq => h q (List.mem_cons_of_mem _ hq)) a k
theorem tf_z {n : Int} : ∀ {T : List (Int × Int × Int)}, BK T n → ∀ a k, n < a → tf T a k = 0
  | [], _, a, k, _ => rfl
  | (r, j, x) :: T, h, a, k, ha => by
    show (if a = r ∧ k = j then x else tf T a k) = 0
    have h1 := (h _ List.mem_cons_self).1
    rw [if_neg (fun h9 => by have h8 := h9.1; have h7 : r ≤ n := h1; omega)]
    exact tf_z (fun q hq => h q (List.mem_cons_of_mem _ hq)) a k ha
theorem tf_nw {n : Int} {T : List (Int × Int × Int)} (h : BK T n) : nw (tf T) (n + 1) = tf T := funext fun a => funext fun j => by
  show (if a = n + 1 then 0 else tf T a j) = tf T a j
  by_cases e : a = n + 1
  · rw [if_pos e, tf_z h a j (by omega)]
  · rw [if_neg e]
def okl (n : Int) : List (Option VV) → Prop
  | [] => True
  | none :: r => okl n r
  | some v :: r => (v.1 < 2 ∨ v.2 ≤ n) ∧ okl n r
def okq (n : Int) : List VV → Prop
  | [] => True
  | v :: r => (v.1 < 2 ∨ v.2 ≤ n) ∧ okq n r
theorem okl_s {K : List Kd} {n : Int} (hK : (K.length : Int) = n) : ∀ {ls : List (Option VV)}, okl n ls → ∀ (i : Nat) (v : VV), ls[i]? = some (some v) → g_ok K v
  | [], _, i, v, e => by simp at e
  | none :: r, h, 0, v, e => by simp at e
  | none :: r, h, i + 1, v, e => okl_s hK (ls := r) h i v (by simpa using e)
  | some u :: r, h, 0, v, e => by
    simp at e
    subst e
    unfold g_ok
    rw [hK]
    exact h.1
  | some u :: r, h, i + 1, v, e => okl_s hK (ls := r) h.2 i v (by simpa using e)
theorem okq_s {K : List Kd} {n : Int} (hK : (K.length : Int) = n) : ∀ {st : List VV}, okq n st → ∀ v ∈ st, g_ok K v
  | [], _, v, e => nomatch e
  | u :: r, h, v, e => by
    rcases List.mem_cons.mp e with rfl | e
    · unfold g_ok
      rw [hK]
      exact h.1
    · exact okq_s hK h.2 v e
theorem g_k_app {K K1 : List Kd} {r : Int} {kd : Kd} (h : g_k K r = some kd) : g_k (K ++ K1) r = some kd := by
  have h1 := g_k_spec h
  unfold g_k
  rw [if_neg (by omega), List.getElem?_append_left (List.getElem?_eq_some_iff.mp h1.2.1).1]
  exact h1.2.1
theorem g_k_new {K : List Kd} {n n9 : Int} {kd : Kd} (hK : (K.length : Int) = n) (e : n + 1 = n9) : g_k (K ++ [kd]) n9 = some kd := by
  unfold g_k
  rw [if_neg (by omega), show (n9 - 1).toNat = K.length by omega]
  simp
def CS (K : List Kd) (T S : List (Int × Int × Int)) (n : Int) : Prop := (K.length : Int) = n ∧ BK T n ∧ BK S n
theorem okR {x n : Int} (h : x ≤ n) : (vR x).1 < 2 ∨ (vR x).2 ≤ n := Or.inr h
theorem okI {x n : Int} : (vI x).1 < 2 ∨ (vI x).2 ≤ n := Or.inl (by show (0 : Nat) < 2; decide)
def rC (K1 : List Kd) (T1 S1 : List (Int × Int × Int)) : RR := fun v K' ρ' m' => v = none ∧ K' = K1 ∧ ρ' = tf T1 ∧ m' = tf S1
theorem CS.push {K : List Kd} {T S : List (Int × Int × Int)} {n n9 : Int} {kd : Kd} (h : CS K T S n) (e : n + 1 = n9) : CS (K ++ [kd]) T S n9 := ⟨by rw [List.length_append]; have := h.1; simp only [List.length_cons, List.length_nil]; omega, h.2.1.up (by omega), h.2.2.up (by omega)⟩
theorem CS.put {K : List Kd} {T S : List (Int × Int × Int)} {n r k x : Int} (h : CS K T S n) (hr : r ≤ n) (hx : x ≤ n) : CS K ((r, k, x) :: T) S n := ⟨h.1, h.2.1.c hr hx, h.2.2⟩
theorem CS.puti {K : List Kd} {T S : List (Int × Int × Int)} {n r k x : Int} (h : CS K T S n) (hr : r ≤ n) (hx : x ≤ n) : CS K T ((r, k, x) :: S) n := ⟨h.1, h.2.1, h.2.2.c hr hx⟩
section
variable {l : Launch} {γ : Gh} {μ : MD} {d cb sb : Nat} {R : RR} {X : XX} {K : List Kd} {pc nx : Nat} {ls : List (Option VV)} {st : List VV} {T S : List (Int × Int × Int)} {n : Int}
theorem tq_new {idx ci cb' sb' : Nat} {n9 : Int} (hC : CS K T S n) (e : n + 1 = n9) (nw9 : g_NW μ.1.cls idx ci) (hls : okl n ls) (hst : okq n st) (hd : decode μ.2.1 pc = .ok (.new idx, 3)) (hn : pc + 3 = nx) (hb : cb' + 1 ≤ cb ∧ sb' + g_nF ci ≤ sb) (k : CS (K ++ [.inl ci]) T S n9 → gT l γ μ d cb' sb' R X (K ++ [.inl ci]) (tf T) (tf S) nx ls (vR n9 :: st)) : gT l γ μ d cb sb R X K (tf T) (tf S) pc ls st := by
  have hK := hC.1
  refine tz_new nw9 (fun a k => by rw [hK]; exact tf_le (by omega) hC.2.1 a k) (okl_s hK hls) (okq_s hK hst) hd hn hb ?_
  rw [hK, tf_nw hC.2.1, tf_nw hC.2.2, e]
  exact k (hC.push e)
theorem tq_newaI {N cb' sb' : Nat} {n9 N9 : Int} (hC : CS K T S n) (e : n + 1 = n9) (eN : (N : Int) = N9) (hls : okl n ls) (hst : okq n st) (hN : N < 100000) (hd : decode μ.2.1 pc = .ok (.newarray .int, 2)) (hn : pc + 2 = nx) (hb : cb' + 1 ≤ cb ∧ sb' + N ≤ sb) (k : CS (K ++ [.inr (0, N)]) T S n9 → gT l γ μ d cb' sb' R X (K ++ [.inr (0, N)]) (tf T) (tf S) nx ls (vR n9 :: st)) : gT l γ μ d cb sb R X K (tf T) (tf S) pc ls (vI N9 :: st) := by
  subst eN
  have hK := hC.1
  refine tz_newaI (fun a k => by rw [hK]; exact tf_le (by omega) hC.2.1 a k) (okl_s hK hls) (okq_s hK hst) hN ac_int hd hn hb ?_
  rw [hK, tf_nw hC.2.1, tf_nw hC.2.2, e]
  exact k (hC.push e)
theorem tq_newaZ {N cb' sb' : Nat} {n9 N9 : Int} (hC : CS K T S n) (e : n + 1 = n9) (eN : (N : Int) = N9) (hls : okl n ls) (hst : okq n st) (hN : N < 100000) (hd : decode μ.2.1 pc = .ok (.newarray .boolean, 2)) (hn : pc + 2 = nx) (hb : cb' + 1 ≤ cb ∧ sb' + N ≤ sb) (k : CS (K ++ [.inr (1, N)]) T S n9 → gT l γ μ d cb' sb' R X (K ++ [.inr (1, N)]) (tf T) (tf S) nx ls (vR n9 :: st)) : gT l γ μ d cb sb R X K (tf T) (tf S) pc ls (vI N9 :: st) := by
  subst eN
  have hK := hC.1
  refine tz_newaZ (fun a k => by rw [hK]; exact tf_le (by omega) hC.2.1 a k) (okl_s hK hls) (okq_s hK hst) hN ac_boolean hd hn hb ?_
  rw [hK, tf_nw hC.2.1, tf_nw hC.2.2, e]
  exact k (hC.push e)
theorem tq_newaJ {N cb' sb' : Nat} {n9 N9 : Int} (hC : CS K T S n) (e : n + 1 = n9) (eN : (N : Int) = N9) (hls : okl n ls) (hst : okq n st) (hN : N < 100000) (hd : decode μ.2.1 pc = .ok (.newarray .long, 2)) (hn : pc + 2 = nx) (hb : cb' + 1 ≤ cb ∧ sb' + N ≤ sb) (k : CS (K ++ [.inr (2, N)]) T S n9 → gT l γ μ d cb' sb' R X (K ++ [.inr (2, N)]) (tf T) (tf S) nx ls (vR n9 :: st)) : gT l γ μ d cb sb R X K (tf T) (tf S) pc ls (vI N9 :: st) := by
  subst eN
  have hK := hC.1
  refine tz_newaJ (fun a k => by rw [hK]; exact tf_le (by omega) hC.2.1 a k) (okl_s hK hls) (okq_s hK hst) hN ac_long hd hn hb ?_
  rw [hK, tf_nw hC.2.1, tf_nw hC.2.2, e]
  exact k (hC.push e)
theorem tq_putA {r x kz : Int} {idx ci k : Nat} {ty : FieldType} (hC : CS K T S n) (hf : g_FK μ.1.cls idx ci k false (.array ty)) (hk : g_k K r = some (.inl ci)) (hd : decode μ.2.1 pc = .ok (.putfield idx, 3)) (hn : pc + 3 = nx) (hz : (k : Int) = kz) (hr : r ≤ n) (hx : x ≤ n) (kk : CS K ((r, kz, x) :: T) S n → gT l γ μ d cb sb R X K (tf ((r, kz, x) :: T)) (tf S) nx ls st) : gT l γ μ d cb sb R X K (tf T) (tf S) pc ls (vR x :: vR r :: st) := by
  subst hz
  exact tz_putA hf hk hd hn (kk (hC.put hr hx))
theorem tq_putO {r x kz : Int} {idx ci k : Nat} {ty : String} (hC : CS K T S n) (hf : g_FK μ.1.cls idx ci k false (.object ty)) (hk : g_k K r = some (.inl ci)) (hd : decode μ.2.1 pc = .ok (.putfield idx, 3)) (hn : pc + 3 = nx) (hz : (k : Int) = kz) (hr : r ≤ n) (hx : x ≤ n) (kk : CS K ((r, kz, x) :: T) S n → gT l γ μ d cb sb R X K (tf ((r, kz, x) :: T)) (tf S) nx ls st) : gT l γ μ d cb sb R X K (tf T) (tf S) pc ls (vR x :: vR r :: st) := by
  subst hz
  exact tz_putO hf hk hd hn (kk (hC.put hr hx))
theorem tq_putFA {r x kz : Int} {idx ci k : Nat} {fin : Bool} {ty : FieldType} (hC : CS K T S n) (hf : g_FK μ.1.cls idx ci k fin (.array ty)) (hi : μ.1.name = "<init>") (hl9 : Cond.fieldLink μ.1.cls idx μ.1.cls ((vwCl.getD ci ("", fun _ => ("", "", "", false), 0)).2.1 k).2.1 ((vwCl.getD ci ("", fun _ => ("", "", "", false), 0)).2.1 k).2.2.1 ∈ g_TS) (hdc : ((vwCl.getD ci ("", fun _ => ("", "", "", false), 0)).2.1 k).1 = μ.1.cls) (hk : g_k K r = some (.inl ci)) (hd : decode μ.2.1 pc = .ok (.putfield idx, 3)) (hn : pc + 3 = nx) (hz : (k : Int) = kz) (hr : r ≤ n) (hx : x ≤ n) (kk : CS K ((r, kz, x) :: T) S n → gT l γ μ d cb sb R X K (tf ((r, kz, x) :: T)) (tf S) nx ls st) : gT l γ μ d cb sb R X K (tf T) (tf S) pc ls (vR x :: vR r :: st) := by
  subst hz
  exact tz_putFA hf hi hl9 hdc hk hd hn (kk (hC.put hr hx))
theorem tq_putFO {r x kz : Int} {idx ci k : Nat} {fin : Bool} {ty : String} (hC : CS K T S n) (hf : g_FK μ.1.cls idx ci k fin (.object ty)) (hi : μ.1.name = "<init>") (hl9 : Cond.fieldLink μ.1.cls idx μ.1.cls ((vwCl.getD ci ("", fun _ => ("", "", "", false), 0)).2.1 k).2.1 ((vwCl.getD ci ("", fun _ => ("", "", "", false), 0)).2.1 k).2.2.1 ∈ g_TS) (hdc : ((vwCl.getD ci ("", fun _ => ("", "", "", false), 0)).2.1 k).1 = μ.1.cls) (hk : g_k K r = some (.inl ci)) (hd : decode μ.2.1 pc = .ok (.putfield idx, 3)) (hn : pc + 3 = nx) (hz : (k : Int) = kz) (hr : r ≤ n) (hx : x ≤ n) (kk : CS K ((r, kz, x) :: T) S n → gT l γ μ d cb sb R X K (tf ((r, kz, x) :: T)) (tf S) nx ls st) : gT l γ μ d cb sb R X K (tf T) (tf S) pc ls (vR x :: vR r :: st) := by
  subst hz
  exact tz_putFO hf hi hl9 hdc hk hd hn (kk (hC.put hr hx))
theorem tq_putI {r x kz : Int} {idx ci k : Nat} (hC : CS K T S n) (hf : g_FK μ.1.cls idx ci k false .int) (hk : g_k K r = some (.inl ci)) (hd : decode μ.2.1 pc = .ok (.putfield idx, 3)) (hn : pc + 3 = nx) (hz : (k : Int) = kz) (hr : r ≤ n) (hx : x ≤ n) (kk : CS K T ((r, kz, x) :: S) n → gT l γ μ d cb sb R X K (tf T) (tf ((r, kz, x) :: S)) nx ls st) : gT l γ μ d cb sb R X K (tf T) (tf S) pc ls (vI x :: vR r :: st) := by
  subst hz
  exact tz_putI hf hk hd hn (kk (hC.puti hr hx))
theorem tq_ci {μ' : MD} {d' mc' ms' cb' sb' idx : Nat} {As : List VV} {r : Int} {K1 : List Kd} {T1 S1 : List (Int × Int × Int)} (hC : CS K T S n) (hl9 : g_ML μ.1.cls idx μ'.1) (mo : g_MO μ') (mi : g_MI μ') (hh : μ'.2.2.2.2 = []) (hvd : μ'.2.2.2.1 = none) (np : g_NP μ' As.length) (hr : 0 < r) (hd : decode μ.2.1 pc = .ok (.invokespecial idx, 3)) (hn : pc + 3 = nx) (hdd : d' + 1 ≤ d ∧ μ'.2.2.1 ≤ 40) (hcat : g_cat st ≤ 8) (hcb : mc' + cb' ≤ cb) (hsb : ms' + sb' ≤ sb) (hls : okl n ls) (hst : okq n st) (hE : gE l γ μ' d' mc' ms' (rC K1 T1 S1) xN K (tf T) (tf S) (vR r :: As)) (kk : gT l γ μ d cb' sb' R X K1 (tf T1) (tf S1) nx ls st) : gT l γ μ d cb sb R X K (tf T) (tf S) pc ls (As.reverse ++ vR r :: st) :=
  tz_ciG hl9 mo mi hh hvd np hr hd hn hdd hcat hcb hsb (okl_s hC.1 hls) (okq_s hC.1 hst) hE (fun K' ρ' m' h _ => by obtain ⟨_, rfl, rfl, rfl⟩ := h; exact kk) (fun v K' ρ' m' h => h.1)
end
