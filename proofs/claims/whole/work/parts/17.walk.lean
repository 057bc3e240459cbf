/-! Rows in the form that the walks use. -/
section
variable {l : Launch} {γ : Gh} {μ : MD} {d cb sb : Nat} {R : RR} {X : XX} {K : List Kd} {ρ m : Mm} {pc n : Nat} {ls : List (Option VV)} {st : List VV}
theorem g_ne {r : Int} {kd : Kd} (h : g_k K r = some kd) : r ≠ 0 := by have := (g_k_spec h).1; omega
theorem g_hpI {x : Int} : ∀ u, some (vI x) = some u → u.1 ≠ 1 := fun u h => by cases h; show (0 : Nat) ≠ 1; decide
theorem g_hpR {x : Int} : ∀ u, some (vR x) = some u → u.1 ≠ 1 := fun u h => by cases h; show (2 : Nat) ≠ 1; decide
theorem g_hpN : ∀ u : VV, (none : Option VV) = some u → u.1 ≠ 1 := fun u h => by cases h
theorem g_na {args : List VV} (h : (args.all fun v => v.1 != 1) = true) : ∀ v ∈ args, v.1 ≠ 1 := fun v hv => by
  have := List.all_eq_true.mp h v hv
  simpa using this
theorem gE.ofw {mc ms : Nat} {args : List VV} (hp : plainName μ.1.cls = true) (k : gT l γ μ d mc ms R X K ρ m 0 (g_ent args μ.2.2.1) []) (hh : μ.2.2.2.2 = []) (ha : (args.all fun v => v.1 != 1) = true) (hn : args.length ≤ μ.2.2.1) : gE l γ μ d mc ms R X K ρ m args := gE.of hh hp (g_na ha) hn k
theorem gE.ofwH {mc ms : Nat} {args : List VV} {h0 : Nat × Nat × Nat × Nat} {h1 : List (Nat × Nat × Nat × Nat)} (hp : plainName μ.1.cls = true) (k : gT l γ μ d mc ms R X K ρ m 0 (g_ent args μ.2.2.1) []) (hh : μ.2.2.2.2 = h0 :: h1) (ha : (args.all fun v => v.1 != 1) = true) (hn : args.length ≤ μ.2.2.1) : gE l γ μ d mc ms R X K ρ m args := gE.ofH hh hp (g_na ha) hn k
theorem tz_putIr {r x : Int} {idx ci k : Nat} (hf : g_FK μ.1.cls idx ci k false .int) (hk : g_k K r = some (.inl ci)) (hd : decode μ.2.1 pc = .ok (.putfield idx, 3)) (hn : pc + 3 = n) (hR : MR m) (hx : -2147483648 ≤ x ∧ x < 2147483648) (kk : MR (wr m r k x) → gT l γ μ d cb sb R X K ρ (wr m r k x) n ls st) : gT l γ μ d cb sb R X K ρ m pc ls (vI x :: vR r :: st) := tz_putI hf hk hd hn (kk (hR.wr hx))
theorem tz_putZr {r x : Int} {idx ci k : Nat} (hf : g_FK μ.1.cls idx ci k false .boolean) (hk : g_k K r = some (.inl ci)) (hd : decode μ.2.1 pc = .ok (.putfield idx, 3)) (hn : pc + 3 = n) (hR : MR m) (hx : x = 0 ∨ x = 1) (kk : MR (wr m r k x) → gT l γ μ d cb sb R X K ρ (wr m r k x) n ls st) : gT l γ μ d cb sb R X K ρ m pc ls (vI x :: vR r :: st) := tz_putZ hf hk hd hn hx (kk (hR.wr (by omega)))
theorem tz_iastr {r j x : Int} {N : Nat} (hk : g_k K r = some (.inr (0, N))) (h0 : 0 ≤ j ∧ j < N ∧ N < 2147483648) (hd : decode μ.2.1 pc = .ok (.iastore, 1)) (hn : pc + 1 = n) (hR : MR m) (hx : -2147483648 ≤ x ∧ x < 2147483648) (kk : MR (wr m r j x) → gT l γ μ d cb sb R X K ρ (wr m r j x) n ls st) : gT l γ μ d cb sb R X K ρ m pc ls (vI x :: vI j :: vR r :: st) := tz_iast hk h0 hd hn (kk (hR.wr hx))
theorem tz_zastr {r j x : Int} {N : Nat} (hk : g_k K r = some (.inr (1, N))) (h0 : 0 ≤ j ∧ j < N ∧ N < 2147483648) (hd : decode μ.2.1 pc = .ok (.bastore, 1)) (hn : pc + 1 = n) (hR : MR m) (hx : x = 0 ∨ x = 1) (kk : MR (wr m r j x) → gT l γ μ d cb sb R X K ρ (wr m r j x) n ls st) : gT l γ μ d cb sb R X K ρ m pc ls (vI x :: vI j :: vR r :: st) := tz_zast hk h0 hx hd hn (kk (hR.wr (by omega)))
end
