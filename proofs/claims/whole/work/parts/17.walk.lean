/-! Rows in the form that the walks use. -/
section
variable {l : Launch} {γ : Gh} {μ : MD} {d cb sb : Nat} {R : RR} {X : XX} {K : List Kd} {ρ m : Mm} {pc n : Nat} {ls : List (Option VV)} {st : List VV}
theorem g_ne {r : Int} {kd : Kd} (h : g_k K r = some kd) : r ≠ 0 := by have := (g_k_spec h).1; omega
theorem g_hpI {x : Int} : ∀ u, some (vI x) = some u → u.1 ≠ 1 := fun u h => by cases h; show (0 : Nat) ≠ 1; decide
theorem g_hpR {x : Int} : ∀ u, some (vR x) = some u → u.1 ≠ 1 := fun u h => by cases h; show (2 : Nat) ≠ 1; decide
theorem g_hpN : ∀ u : VV, (none : Option VV) = some u → u.1 ≠ 1 := fun u h => by cases h
theorem g_na {args : List VV} (h : (args.all fun v => v.1 != 1) = true) : ∀ v ∈ args, v.1 ≠ 1 := fun v hv => by
  have := List.all_eq_true.mp h v hv
  simpa using this
theorem gE.ofw {mc ms : Nat} {args : List VV} (hp : plainName μ.1.cls = true) (k : gT l γ μ d mc ms R X K ρ m 0 (g_ent args μ.2.2.1) []) (hh : μ.2.2.2.2 = []) (ha : (args.all fun v => v.1 != 1) = true) (hn : args.length ≤ μ.2.2.1) : gE l γ μ d mc ms R X K ρ m args := gE.of hh hp (g_na ha) hn k
theorem gE.ofwH {mc ms : Nat} {args : List VV} {h0 : Nat × Nat × Nat × Nat} {h1 : List (Nat × Nat × Nat × Nat)} (hp : plainName μ.1.cls = true) (k : gT l γ μ d mc ms R X K ρ m 0 (g_ent args μ.2.2.1) []) (hh : μ.2.2.2.2 = h0 :: h1) (ha : (args.all fun v => v.1 != 1) = true) (hn : args.length ≤ μ.2.2.1) : gE l γ μ d mc ms R X K ρ m args := gE.ofH hh hp (g_na ha) hn k
theorem tz_putIr {r x kz : Int} {idx ci k : Nat} (hf : g_FK μ.1.cls idx ci k false .int) (hk : g_k K r = some (.inl ci)) (hd : decode μ.2.1 pc = .ok (.putfield idx, 3)) (hn : pc + 3 = n) (hR : MR m) (hx : -2147483648 ≤ x ∧ x < 2147483648) (hz : (k : Int) = kz) (kk : MR (wr m r kz x) → gT l γ μ d cb sb R X K ρ (wr m r kz x) n ls st) : gT l γ μ d cb sb R X K ρ m pc ls (vI x :: vR r :: st) := by subst hz; exact tz_putI hf hk hd hn (kk (hR.wr hx))
theorem tz_putZr {r x kz : Int} {idx ci k : Nat} (hf : g_FK μ.1.cls idx ci k false .boolean) (hk : g_k K r = some (.inl ci)) (hd : decode μ.2.1 pc = .ok (.putfield idx, 3)) (hn : pc + 3 = n) (hR : MR m) (hx : x = 0 ∨ x = 1) (hz : (k : Int) = kz) (kk : MR (wr m r kz x) → gT l γ μ d cb sb R X K ρ (wr m r kz x) n ls st) : gT l γ μ d cb sb R X K ρ m pc ls (vI x :: vR r :: st) := by subst hz; exact tz_putZ hf hk hd hn hx (kk (hR.wr (by omega)))
theorem tz_iastr {r j x : Int} {N : Nat} (hk : g_k K r = some (.inr (0, N))) (h0 : 0 ≤ j ∧ j < N ∧ N < 2147483648) (hd : decode μ.2.1 pc = .ok (.iastore, 1)) (hn : pc + 1 = n) (hR : MR m) (hx : -2147483648 ≤ x ∧ x < 2147483648) (kk : MR (wr m r j x) → gT l γ μ d cb sb R X K ρ (wr m r j x) n ls st) : gT l γ μ d cb sb R X K ρ m pc ls (vI x :: vI j :: vR r :: st) := tz_iast hk h0 hd hn (kk (hR.wr hx))
theorem tz_zastr {r j x : Int} {N : Nat} (hk : g_k K r = some (.inr (1, N))) (h0 : 0 ≤ j ∧ j < N ∧ N < 2147483648) (hd : decode μ.2.1 pc = .ok (.bastore, 1)) (hn : pc + 1 = n) (hR : MR m) (hx : x = 0 ∨ x = 1) (kk : MR (wr m r j x) → gT l γ μ d cb sb R X K ρ (wr m r j x) n ls st) : gT l γ μ d cb sb R X K ρ m pc ls (vI x :: vI j :: vR r :: st) := tz_zast hk h0 hx hd hn (kk (hR.wr (by omega)))
theorem tz_getIw {r kz : Int} {idx ci k : Nat} {fin : Bool} (hf : g_FK μ.1.cls idx ci k fin .int) (hk : g_k K r = some (.inl ci)) (hd : decode μ.2.1 pc = .ok (.getfield idx, 3)) (hn : pc + 3 = n) (hz : (k : Int) = kz) (kk : gT l γ μ d cb sb R X K ρ m n ls (vI (m r kz) :: st)) : gT l γ μ d cb sb R X K ρ m pc ls (vR r :: st) := by subst hz; exact tz_getI hf hk hd hn kk
theorem tz_getZw {r kz : Int} {idx ci k : Nat} {fin : Bool} (hf : g_FK μ.1.cls idx ci k fin .boolean) (hk : g_k K r = some (.inl ci)) (hd : decode μ.2.1 pc = .ok (.getfield idx, 3)) (hn : pc + 3 = n) (hz : (k : Int) = kz) (kk : gT l γ μ d cb sb R X K ρ m n ls (vI (m r kz) :: st)) : gT l γ μ d cb sb R X K ρ m pc ls (vR r :: st) := by subst hz; exact tz_getZ hf hk hd hn kk
theorem tz_getLw {r kz : Int} {idx ci k : Nat} {fin : Bool} (hf : g_FK μ.1.cls idx ci k fin .long) (hk : g_k K r = some (.inl ci)) (hd : decode μ.2.1 pc = .ok (.getfield idx, 3)) (hn : pc + 3 = n) (hz : (k : Int) = kz) (kk : gT l γ μ d cb sb R X K ρ m n ls (vL (ρ r kz) :: st)) : gT l γ μ d cb sb R X K ρ m pc ls (vR r :: st) := by subst hz; exact tz_getL hf hk hd hn kk
theorem tz_putLw {r x kz : Int} {idx ci k : Nat} (hf : g_FK μ.1.cls idx ci k false .long) (hk : g_k K r = some (.inl ci)) (hd : decode μ.2.1 pc = .ok (.putfield idx, 3)) (hn : pc + 3 = n) (hz : (k : Int) = kz) (kk : gT l γ μ d cb sb R X K (wr ρ r kz x) m n ls st) : gT l γ μ d cb sb R X K ρ m pc ls (vL x :: vR r :: st) := by subst hz; exact tz_putL hf hk hd hn kk
theorem tz_putOw {r x kz : Int} {idx ci k : Nat} {ty : String} (hf : g_FK μ.1.cls idx ci k false (.object ty)) (hk : g_k K r = some (.inl ci)) (hd : decode μ.2.1 pc = .ok (.putfield idx, 3)) (hn : pc + 3 = n) (hz : (k : Int) = kz) (kk : gT l γ μ d cb sb R X K (wr ρ r kz x) m n ls st) : gT l γ μ d cb sb R X K ρ m pc ls (vR x :: vR r :: st) := by subst hz; exact tz_putO hf hk hd hn kk
theorem tz_acopyr {idx : Nat} {a b sp dp k : Int} {n0 n1 : Nat} (hl9 : Cond.methodLink μ.1.cls idx arraycopyName ∈ g_TS) (ha : g_k K a = some (.inr (0, n0))) (hb : g_k K b = some (.inr (0, n1))) (hk : 0 ≤ sp ∧ 0 ≤ dp ∧ 0 ≤ k ∧ sp + k ≤ n0 ∧ dp + k ≤ n1 ∧ n0 < 2147483648 ∧ n1 < 2147483648) (hd : decode μ.2.1 pc = .ok (.invokestatic idx, 3)) (hn : pc + 3 = n) (hdd : 2 ≤ d) (hcat : g_cat st ≤ 8) (hR : MR m) (kk : MR (cpy m a sp b dp k) → gT l γ μ d cb sb R X K ρ (cpy m a sp b dp k) n ls st) : gT l γ μ d cb sb R X K ρ m pc ls (vI k :: vI dp :: vR b :: vI sp :: vR a :: st) := tz_acopy hl9 cp_1 cp_2 cp_3 ha hb hk hd hn hdd hcat (kk hR.cpy)
end
theorem bAnd_rg (x y : Int) : -2147483648 ≤ bAnd x y ∧ bAnd x y < 2147483648 := ⟨Int32.le_toInt _, Int32.toInt_lt _⟩
theorem bOr_rg (x y : Int) : -2147483648 ≤ bOr x y ∧ bOr x y < 2147483648 := ⟨Int32.le_toInt _, Int32.toInt_lt _⟩
theorem bXor_rg (x y : Int) : -2147483648 ≤ bXor x y ∧ bXor x y < 2147483648 := ⟨Int32.le_toInt _, Int32.toInt_lt _⟩
theorem bShl_rg (x y : Int) : -2147483648 ≤ bShl x y ∧ bShl x y < 2147483648 := ⟨Int32.le_toInt _, Int32.toInt_lt _⟩
theorem bShr_rg (x y : Int) : -2147483648 ≤ bShr x y ∧ bShr x y < 2147483648 := ⟨Int32.le_toInt _, Int32.toInt_lt _⟩
theorem bUsh_rg (x y : Int) : -2147483648 ≤ bUsh x y ∧ bUsh x y < 2147483648 := ⟨Int32.le_toInt _, Int32.toInt_lt _⟩
theorem bDiv_rg (x y : Int) : -2147483648 ≤ bDiv x y ∧ bDiv x y < 2147483648 := ⟨Int32.le_toInt _, Int32.toInt_lt _⟩
theorem bRem_rg (x y : Int) : -2147483648 ≤ bRem x y ∧ bRem x y < 2147483648 := ⟨Int32.le_toInt _, Int32.toInt_lt _⟩
theorem b2b_rg (x : Int) : -2147483648 ≤ b2b x ∧ b2b x < 2147483648 := ⟨Int32.le_toInt _, Int32.toInt_lt _⟩
theorem b2c_rg (x : Int) : -2147483648 ≤ b2c x ∧ b2c x < 2147483648 := ⟨Int32.le_toInt _, Int32.toInt_lt _⟩
theorem lCmp_rg (x y : Int) : -2147483648 ≤ lCmp x y ∧ lCmp x y < 2147483648 := ⟨Int32.le_toInt _, Int32.toInt_lt _⟩
/-- the whole row a -/
def upA (m : Mm) (a : Int) (s : Int → Int) : Mm := fun r => if r = a then s else m r
def up (f : Int → Int) (k x : Int) : Int → Int := fun j => if j = k then x else f j
theorem up_at {f : Int → Int} {k x : Int} : up f k x k = x := if_pos rfl
theorem up_ne {f : Int → Int} {k x j : Int} (h : j ≠ k) : up f k x j = f j := if_neg h
theorem upA_at {m : Mm} {a : Int} {s : Int → Int} : upA m a s a = s := if_pos rfl
theorem upA_ne {m : Mm} {a r : Int} {s : Int → Int} (h : r ≠ a) : upA m a s r = m r := if_neg h
theorem upA_self {m : Mm} {a : Int} : upA m a (m a) = m := funext fun r => by unfold upA; split <;> simp_all
theorem wr_eq {m : Mm} {a k x : Int} : wr m a k x = upA m a (up (m a) k x) := funext fun r => funext fun j => by
  unfold wr upA up
  by_cases h : r = a
  · subst h
    simp
  · simp [h]
theorem upA_upA {m : Mm} {a : Int} {s t : Int → Int} : upA (upA m a s) a t = upA m a t := funext fun r => by unfold upA; split <;> rfl
theorem wr_upA {m : Mm} {a k x : Int} {s : Int → Int} : wr (upA m a s) a k x = upA m a (up s k x) := by rw [wr_eq, upA_at, upA_upA]
theorem upA_comm {m : Mm} {a b : Int} {s t : Int → Int} (h : a ≠ b) : upA (upA m a s) b t = upA (upA m b t) a s := funext fun r => by
  unfold upA
  by_cases h1 : r = a
  · subst h1
    rw [if_neg h, if_pos rfl, if_pos rfl]
  · rw [if_neg h1]
    split <;> rfl
theorem gT_eq {l : Launch} {γ : Gh} {μ : MD} {d cb sb : Nat} {R : RR} {X : XX} {K : List Kd} {ρ m m' : Mm} {pc : Nat} {ls ls' : List (Option VV)} {st : List VV} (h : gT l γ μ d cb sb R X K ρ m pc ls st) (e1 : m = m') (e2 : ls = ls') : gT l γ μ d cb sb R X K ρ m' pc ls' st := by
  subst e1; subst e2; exact h
theorem MR.upA {m : Mm} (h : MR m) {a : Int} {s : Int → Int} (hs : ∀ j, -2147483648 ≤ s j ∧ s j < 2147483648) : MR (upA m a s) := fun r j => by
  unfold Jvm.Pilot.@@N@@.upA
  split
  · exact hs j
  · exact h r j
theorem up_rg {f : Int → Int} {k x : Int} (h : ∀ j, -2147483648 ≤ f j ∧ f j < 2147483648) (hx : -2147483648 ≤ x ∧ x < 2147483648) : ∀ j, -2147483648 ≤ up f k x j ∧ up f k x j < 2147483648 := fun j => by
  unfold up
  split
  · exact hx
  · exact h j
def Fr (L : List Int) (m m' : Mm) : Prop := ∀ a, a ∉ L → m' a = m a
theorem Fr.rf {L : List Int} {m : Mm} : Fr L m m := fun _ _ => rfl
theorem Fr.tr {L : List Int} {a b c : Mm} (h : Fr L a b) (k : Fr L b c) : Fr L a c := fun x hx => (k x hx).trans (h x hx)
theorem Fr.wr {L : List Int} {a b : Mm} (h : Fr L a b) {r k x : Int} (hr : r ∈ L) : Fr L a (wr b r k x) := fun y hy => by rw [wr_ne fun e => hy (by rw [e]; exact hr)]; exact h y hy
theorem Fr.sub {L L' : List Int} {a b : Mm} (h : Fr L a b) (hs : ∀ x ∈ L, x ∈ L') : Fr L' a b := fun y hy => h y fun z => hy (hs y z)
theorem Fr.upA {L : List Int} {a b : Mm} (h : Fr L a b) {r : Int} {s : Int → Int} (hr : r ∈ L) : Fr L a (upA b r s) := fun y hy => by rw [upA_ne fun e => hy (by rw [e]; exact hr)]; exact h y hy
theorem tz_drop0 {l : Launch} {γ : Gh} {μ : MD} {d cb sb : Nat} {R : RR} {X : XX} {K : List Kd} {ρ m : Mm} {pc : Nat} {st : List VV} {old : Option VV} {r : List (Option VV)} (k : gT l γ μ d cb sb R X K ρ m pc (none :: r) st) : gT l γ μ d cb sb R X K ρ m pc (old :: r) st := tz_weak (fun i v h => by
  match i, h with
  | 0, h => exact absurd h (by simp)
  | i + 1, h => exact h) k
theorem tz_drop1 {l : Launch} {γ : Gh} {μ : MD} {d cb sb : Nat} {R : RR} {X : XX} {K : List Kd} {ρ m : Mm} {pc : Nat} {st : List VV} {a0 old : Option VV} {r : List (Option VV)} (k : gT l γ μ d cb sb R X K ρ m pc (a0 :: none :: r) st) : gT l γ μ d cb sb R X K ρ m pc (a0 :: old :: r) st := tz_weak (fun i v h => by
  match i, h with
  | 0, h => exact h
  | 1, h => exact absurd h (by simp)
  | i + 2, h => exact h) k
theorem tz_drop2 {l : Launch} {γ : Gh} {μ : MD} {d cb sb : Nat} {R : RR} {X : XX} {K : List Kd} {ρ m : Mm} {pc : Nat} {st : List VV} {a0 a1 old : Option VV} {r : List (Option VV)} (k : gT l γ μ d cb sb R X K ρ m pc (a0 :: a1 :: none :: r) st) : gT l γ μ d cb sb R X K ρ m pc (a0 :: a1 :: old :: r) st := tz_weak (fun i v h => by
  match i, h with
  | 0, h => exact h
  | 1, h => exact h
  | 2, h => exact absurd h (by simp)
  | i + 3, h => exact h) k
theorem tz_drop3 {l : Launch} {γ : Gh} {μ : MD} {d cb sb : Nat} {R : RR} {X : XX} {K : List Kd} {ρ m : Mm} {pc : Nat} {st : List VV} {a0 a1 a2 old : Option VV} {r : List (Option VV)} (k : gT l γ μ d cb sb R X K ρ m pc (a0 :: a1 :: a2 :: none :: r) st) : gT l γ μ d cb sb R X K ρ m pc (a0 :: a1 :: a2 :: old :: r) st := tz_weak (fun i v h => by
  match i, h with
  | 0, h => exact h
  | 1, h => exact h
  | 2, h => exact h
  | 3, h => exact absurd h (by simp)
  | i + 4, h => exact h) k
theorem tz_drop4 {l : Launch} {γ : Gh} {μ : MD} {d cb sb : Nat} {R : RR} {X : XX} {K : List Kd} {ρ m : Mm} {pc : Nat} {st : List VV} {a0 a1 a2 a3 old : Option VV} {r : List (Option VV)} (k : gT l γ μ d cb sb R X K ρ m pc (a0 :: a1 :: a2 :: a3 :: none :: r) st) : gT l γ μ d cb sb R X K ρ m pc (a0 :: a1 :: a2 :: a3 :: old :: r) st := tz_weak (fun i v h => by
  match i, h with
  | 0, h => exact h
  | 1, h => exact h
  | 2, h => exact h
  | 3, h => exact h
  | 4, h => exact absurd h (by simp)
  | i + 5, h => exact h) k
theorem tz_drop5 {l : Launch} {γ : Gh} {μ : MD} {d cb sb : Nat} {R : RR} {X : XX} {K : List Kd} {ρ m : Mm} {pc : Nat} {st : List VV} {a0 a1 a2 a3 a4 old : Option VV} {r : List (Option VV)} (k : gT l γ μ d cb sb R X K ρ m pc (a0 :: a1 :: a2 :: a3 :: a4 :: none :: r) st) : gT l γ μ d cb sb R X K ρ m pc (a0 :: a1 :: a2 :: a3 :: a4 :: old :: r) st := tz_weak (fun i v h => by
  match i, h with
  | 0, h => exact h
  | 1, h => exact h
  | 2, h => exact h
  | 3, h => exact h
  | 4, h => exact h
  | 5, h => exact absurd h (by simp)
  | i + 6, h => exact h) k
theorem tz_drop6 {l : Launch} {γ : Gh} {μ : MD} {d cb sb : Nat} {R : RR} {X : XX} {K : List Kd} {ρ m : Mm} {pc : Nat} {st : List VV} {a0 a1 a2 a3 a4 a5 old : Option VV} {r : List (Option VV)} (k : gT l γ μ d cb sb R X K ρ m pc (a0 :: a1 :: a2 :: a3 :: a4 :: a5 :: none :: r) st) : gT l γ μ d cb sb R X K ρ m pc (a0 :: a1 :: a2 :: a3 :: a4 :: a5 :: old :: r) st := tz_weak (fun i v h => by
  match i, h with
  | 0, h => exact h
  | 1, h => exact h
  | 2, h => exact h
  | 3, h => exact h
  | 4, h => exact h
  | 5, h => exact h
  | 6, h => exact absurd h (by simp)
  | i + 7, h => exact h) k
theorem tz_drop7 {l : Launch} {γ : Gh} {μ : MD} {d cb sb : Nat} {R : RR} {X : XX} {K : List Kd} {ρ m : Mm} {pc : Nat} {st : List VV} {a0 a1 a2 a3 a4 a5 a6 old : Option VV} {r : List (Option VV)} (k : gT l γ μ d cb sb R X K ρ m pc (a0 :: a1 :: a2 :: a3 :: a4 :: a5 :: a6 :: none :: r) st) : gT l γ μ d cb sb R X K ρ m pc (a0 :: a1 :: a2 :: a3 :: a4 :: a5 :: a6 :: old :: r) st := tz_weak (fun i v h => by
  match i, h with
  | 0, h => exact h
  | 1, h => exact h
  | 2, h => exact h
  | 3, h => exact h
  | 4, h => exact h
  | 5, h => exact h
  | 6, h => exact h
  | 7, h => exact absurd h (by simp)
  | i + 8, h => exact h) k
theorem tz_drop8 {l : Launch} {γ : Gh} {μ : MD} {d cb sb : Nat} {R : RR} {X : XX} {K : List Kd} {ρ m : Mm} {pc : Nat} {st : List VV} {a0 a1 a2 a3 a4 a5 a6 a7 old : Option VV} {r : List (Option VV)} (k : gT l γ μ d cb sb R X K ρ m pc (a0 :: a1 :: a2 :: a3 :: a4 :: a5 :: a6 :: a7 :: none :: r) st) : gT l γ μ d cb sb R X K ρ m pc (a0 :: a1 :: a2 :: a3 :: a4 :: a5 :: a6 :: a7 :: old :: r) st := tz_weak (fun i v h => by
  match i, h with
  | 0, h => exact h
  | 1, h => exact h
  | 2, h => exact h
  | 3, h => exact h
  | 4, h => exact h
  | 5, h => exact h
  | 6, h => exact h
  | 7, h => exact h
  | 8, h => exact absurd h (by simp)
  | i + 9, h => exact h) k
theorem tz_drop9 {l : Launch} {γ : Gh} {μ : MD} {d cb sb : Nat} {R : RR} {X : XX} {K : List Kd} {ρ m : Mm} {pc : Nat} {st : List VV} {a0 a1 a2 a3 a4 a5 a6 a7 a8 old : Option VV} {r : List (Option VV)} (k : gT l γ μ d cb sb R X K ρ m pc (a0 :: a1 :: a2 :: a3 :: a4 :: a5 :: a6 :: a7 :: a8 :: none :: r) st) : gT l γ μ d cb sb R X K ρ m pc (a0 :: a1 :: a2 :: a3 :: a4 :: a5 :: a6 :: a7 :: a8 :: old :: r) st := tz_weak (fun i v h => by
  match i, h with
  | 0, h => exact h
  | 1, h => exact h
  | 2, h => exact h
  | 3, h => exact h
  | 4, h => exact h
  | 5, h => exact h
  | 6, h => exact h
  | 7, h => exact h
  | 8, h => exact h
  | 9, h => exact absurd h (by simp)
  | i + 10, h => exact h) k
theorem tz_drop10 {l : Launch} {γ : Gh} {μ : MD} {d cb sb : Nat} {R : RR} {X : XX} {K : List Kd} {ρ m : Mm} {pc : Nat} {st : List VV} {a0 a1 a2 a3 a4 a5 a6 a7 a8 a9 old : Option VV} {r : List (Option VV)} (k : gT l γ μ d cb sb R X K ρ m pc (a0 :: a1 :: a2 :: a3 :: a4 :: a5 :: a6 :: a7 :: a8 :: a9 :: none :: r) st) : gT l γ μ d cb sb R X K ρ m pc (a0 :: a1 :: a2 :: a3 :: a4 :: a5 :: a6 :: a7 :: a8 :: a9 :: old :: r) st := tz_weak (fun i v h => by
  match i, h with
  | 0, h => exact h
  | 1, h => exact h
  | 2, h => exact h
  | 3, h => exact h
  | 4, h => exact h
  | 5, h => exact h
  | 6, h => exact h
  | 7, h => exact h
  | 8, h => exact h
  | 9, h => exact h
  | 10, h => exact absurd h (by simp)
  | i + 11, h => exact h) k
theorem tz_drop11 {l : Launch} {γ : Gh} {μ : MD} {d cb sb : Nat} {R : RR} {X : XX} {K : List Kd} {ρ m : Mm} {pc : Nat} {st : List VV} {a0 a1 a2 a3 a4 a5 a6 a7 a8 a9 a10 old : Option VV} {r : List (Option VV)} (k : gT l γ μ d cb sb R X K ρ m pc (a0 :: a1 :: a2 :: a3 :: a4 :: a5 :: a6 :: a7 :: a8 :: a9 :: a10 :: none :: r) st) : gT l γ μ d cb sb R X K ρ m pc (a0 :: a1 :: a2 :: a3 :: a4 :: a5 :: a6 :: a7 :: a8 :: a9 :: a10 :: old :: r) st := tz_weak (fun i v h => by
  match i, h with
  | 0, h => exact h
  | 1, h => exact h
  | 2, h => exact h
  | 3, h => exact h
  | 4, h => exact h
  | 5, h => exact h
  | 6, h => exact h
  | 7, h => exact h
  | 8, h => exact h
  | 9, h => exact h
  | 10, h => exact h
  | 11, h => exact absurd h (by simp)
  | i + 12, h => exact h) k
theorem tz_drop12 {l : Launch} {γ : Gh} {μ : MD} {d cb sb : Nat} {R : RR} {X : XX} {K : List Kd} {ρ m : Mm} {pc : Nat} {st : List VV} {a0 a1 a2 a3 a4 a5 a6 a7 a8 a9 a10 a11 old : Option VV} {r : List (Option VV)} (k : gT l γ μ d cb sb R X K ρ m pc (a0 :: a1 :: a2 :: a3 :: a4 :: a5 :: a6 :: a7 :: a8 :: a9 :: a10 :: a11 :: none :: r) st) : gT l γ μ d cb sb R X K ρ m pc (a0 :: a1 :: a2 :: a3 :: a4 :: a5 :: a6 :: a7 :: a8 :: a9 :: a10 :: a11 :: old :: r) st := tz_weak (fun i v h => by
  match i, h with
  | 0, h => exact h
  | 1, h => exact h
  | 2, h => exact h
  | 3, h => exact h
  | 4, h => exact h
  | 5, h => exact h
  | 6, h => exact h
  | 7, h => exact h
  | 8, h => exact h
  | 9, h => exact h
  | 10, h => exact h
  | 11, h => exact h
  | 12, h => exact absurd h (by simp)
  | i + 13, h => exact h) k
theorem tz_drop13 {l : Launch} {γ : Gh} {μ : MD} {d cb sb : Nat} {R : RR} {X : XX} {K : List Kd} {ρ m : Mm} {pc : Nat} {st : List VV} {a0 a1 a2 a3 a4 a5 a6 a7 a8 a9 a10 a11 a12 old : Option VV} {r : List (Option VV)} (k : gT l γ μ d cb sb R X K ρ m pc (a0 :: a1 :: a2 :: a3 :: a4 :: a5 :: a6 :: a7 :: a8 :: a9 :: a10 :: a11 :: a12 :: none :: r) st) : gT l γ μ d cb sb R X K ρ m pc (a0 :: a1 :: a2 :: a3 :: a4 :: a5 :: a6 :: a7 :: a8 :: a9 :: a10 :: a11 :: a12 :: old :: r) st := tz_weak (fun i v h => by
  match i, h with
  | 0, h => exact h
  | 1, h => exact h
  | 2, h => exact h
  | 3, h => exact h
  | 4, h => exact h
  | 5, h => exact h
  | 6, h => exact h
  | 7, h => exact h
  | 8, h => exact h
  | 9, h => exact h
  | 10, h => exact h
  | 11, h => exact h
  | 12, h => exact h
  | 13, h => exact absurd h (by simp)
  | i + 14, h => exact h) k
theorem tz_drop14 {l : Launch} {γ : Gh} {μ : MD} {d cb sb : Nat} {R : RR} {X : XX} {K : List Kd} {ρ m : Mm} {pc : Nat} {st : List VV} {a0 a1 a2 a3 a4 a5 a6 a7 a8 a9 a10 a11 a12 a13 old : Option VV} {r : List (Option VV)} (k : gT l γ μ d cb sb R X K ρ m pc (a0 :: a1 :: a2 :: a3 :: a4 :: a5 :: a6 :: a7 :: a8 :: a9 :: a10 :: a11 :: a12 :: a13 :: none :: r) st) : gT l γ μ d cb sb R X K ρ m pc (a0 :: a1 :: a2 :: a3 :: a4 :: a5 :: a6 :: a7 :: a8 :: a9 :: a10 :: a11 :: a12 :: a13 :: old :: r) st := tz_weak (fun i v h => by
  match i, h with
  | 0, h => exact h
  | 1, h => exact h
  | 2, h => exact h
  | 3, h => exact h
  | 4, h => exact h
  | 5, h => exact h
  | 6, h => exact h
  | 7, h => exact h
  | 8, h => exact h
  | 9, h => exact h
  | 10, h => exact h
  | 11, h => exact h
  | 12, h => exact h
  | 13, h => exact h
  | 14, h => exact absurd h (by simp)
  | i + 15, h => exact h) k
theorem tz_drop15 {l : Launch} {γ : Gh} {μ : MD} {d cb sb : Nat} {R : RR} {X : XX} {K : List Kd} {ρ m : Mm} {pc : Nat} {st : List VV} {a0 a1 a2 a3 a4 a5 a6 a7 a8 a9 a10 a11 a12 a13 a14 old : Option VV} {r : List (Option VV)} (k : gT l γ μ d cb sb R X K ρ m pc (a0 :: a1 :: a2 :: a3 :: a4 :: a5 :: a6 :: a7 :: a8 :: a9 :: a10 :: a11 :: a12 :: a13 :: a14 :: none :: r) st) : gT l γ μ d cb sb R X K ρ m pc (a0 :: a1 :: a2 :: a3 :: a4 :: a5 :: a6 :: a7 :: a8 :: a9 :: a10 :: a11 :: a12 :: a13 :: a14 :: old :: r) st := tz_weak (fun i v h => by
  match i, h with
  | 0, h => exact h
  | 1, h => exact h
  | 2, h => exact h
  | 3, h => exact h
  | 4, h => exact h
  | 5, h => exact h
  | 6, h => exact h
  | 7, h => exact h
  | 8, h => exact h
  | 9, h => exact h
  | 10, h => exact h
  | 11, h => exact h
  | 12, h => exact h
  | 13, h => exact h
  | 14, h => exact h
  | 15, h => exact absurd h (by simp)
  | i + 16, h => exact h) k
