/-! Rules of the law's own walk. -/
def sv (γ : Gh) (i k : Int) : Int := (γ.2.2.2.2.2 (i + k).toNat).toInt
theorem sv_rg (γ : Gh) (i k : Int) : -2147483648 ≤ sv γ i k ∧ sv γ i k < 2147483648 := ⟨Int32.le_toInt _, Int32.toInt_lt _⟩
theorem lCmp_self (x : Int) : lCmp x x = 0 := by
  unfold lCmp lg_cmp
  simp
theorem sq_l {a b : Int} (h : sq a b = 0) : a = 0 := by
  unfold sq at h
  by_cases k : a = 0
  · exact k
  · rw [if_neg k] at h; exact h
theorem sq_r {a b : Int} (h : sq a b = 0) : b = 0 := by
  have k := sq_l h
  unfold sq at h
  rw [if_pos k] at h; exact h
theorem uIf {P : Prop} {e : Int} {A : Int → Prop} (hA : ∀ x y, A x → A y → x = y) : ∀ x y, ((P → x = e) ∧ (¬ P → A x)) → ((P → y = e) ∧ (¬ P → A y)) → x = y := fun x y hx hy => by
  by_cases h : P
  · rw [hx.1 h, hy.1 h]
  · exact hA x y (hx.2 h) (hy.2 h)
theorem cnt_l {w a0 a1 a2 a3 a4 a5 a6 a7 a8 a9 a10 a11 b9 b10 b11 x y : Int} (h9 : a9 = b9) (h10 : a10 = b10) (h11 : a11 = b11) (h : ¬ (0 ≤ w ∧ w < 12) → x = y) : (if w = 0 then a0 else if w = 1 then a1 else if w = 2 then a2 else if w = 3 then a3 else if w = 4 then a4 else if w = 5 then a5 else if w = 6 then a6 else if w = 7 then a7 else if w = 8 then a8 else if w = 9 then a9 else if w = 10 then a10 else if w = 11 then a11 else x) = (if w = 0 then a0 else if w = 1 then a1 else if w = 2 then a2 else if w = 3 then a3 else if w = 4 then a4 else if w = 5 then a5 else if w = 6 then a6 else if w = 7 then a7 else if w = 8 then a8 else if w = 9 then b9 else if w = 10 then b10 else if w = 11 then b11 else y) := by
  subst h9 h10 h11
  by_cases k : 0 ≤ w ∧ w < 12
  · have e : w = 0 ∨ w = 1 ∨ w = 2 ∨ w = 3 ∨ w = 4 ∨ w = 5 ∨ w = 6 ∨ w = 7 ∨ w = 8 ∨ w = 9 ∨ w = 10 ∨ w = 11 := by omega
    rcases e with rfl | rfl | rfl | rfl | rfl | rfl | rfl | rfl | rfl | rfl | rfl | rfl <;> rfl
  · rw [h k]
section
variable {l : Launch} {γ : Gh} {μ : MD} {d cb sb : Nat} {R : RR} {X : XX} {K : List Kd} {ρ m : Mm} {pc n : Nat} {ls : List (Option VV)} {st : List VV}
theorem tz_sv {a1 a2 a3 : Option VV} {r : List (Option VV)} {i k : Int} (d0 : decode μ.2.1 pc = .ok (.aload_n 0, 1)) (d1 : decode μ.2.1 (pc + 1) = .ok (.iload 4, 2)) (d3 : decode μ.2.1 (pc + 3) = .ok (.iconst k, 1)) (d4 : decode μ.2.1 (pc + 4) = .ok (.iadd, 1)) (d5 : decode μ.2.1 (pc + 5) = .ok (.iaload, 1)) (hn : pc + 6 = n) (h : 0 ≤ i + k ∧ i + k < γ.2.2.2.2.1 ∧ γ.2.2.2.2.1 < 2147483648) (kk : gT l γ μ d cb sb R X K ρ m n (some (vR (-1)) :: a1 :: a2 :: a3 :: some (vI i) :: r) (vI (sv γ i k) :: st)) : gT l γ μ d cb sb R X K ρ m pc (some (vR (-1)) :: a1 :: a2 :: a3 :: some (vI i) :: r) st := by
  refine tz_aload0 (n := pc + 1) d0 rfl (by decide) ?_
  refine tz_iload4 (n := pc + 3) d1 (by omega) ?_
  refine tz_iconst (n := pc + 4) d3 (by omega) ?_
  refine tz_iadd (n := pc + 5) d4 (by omega) ?_
  exact tz_sld h d5 (by omega) kk
theorem tz_eqT {x y : Int} {off : Int} {tgt : Nat} (h : x = y) (hd : decode μ.2.1 pc = .ok (.if_icmp .eq off, 3)) (ht : (pc : Int) + off = (tgt : Int)) (kt : gT l γ μ d cb sb R X K ρ m tgt ls st) : gT l γ μ d cb sb R X K ρ m pc ls (vI y :: vI x :: st) := by
  intro p e s mth args below meth c A K0 ad0 mc ms H locs cells slots ad lsr C E P D S hc hs hl
  exact lv_icmp_eq C.1 C.2.1 hd ht (fun _ => kt p e s mth args below meth c A K0 ad0 mc ms H locs cells slots ad lsr C E P D S hc hs hl) (fun z => absurd (congrArg Int32.ofInt h) z)
end
theorem CW.iS {ρ m : Mm} {Λ : Mm} {hl tl : List Int} {s : Int → Int} {n : Int} {α κ : Mm} {h : Int} {s2 : Int → Int} {n2 : Int} {α2 κ2 : Mm} {t : Int → Int} {tn pl : Int} {f : Int → Int} (w : CW ρ m Λ hl tl s n α κ h s2 n2 α2 κ2 t tn pl f) (hL : LY ρ) : isS ρ (ρ 1 3) := by
  rcases w.ld with e | e
  · rw [e]; exact isS_3 hL
  · rw [e]; exact isS_20 hL
theorem lt_tail {l : Launch} {γ : Gh} {cb sb : Nat} {R : RR} {X : XX} {ρ m : Mm} {q : Nat} {off i k b : Int} (d0 : decode μL_law.2.1 q = .ok (.aload_n 2, 1)) (d1 : decode μL_law.2.1 (q + 1) = .ok (.invokevirtual 137, 3)) (d4 : decode μL_law.2.1 (q + 4) = .ok (.iload 5, 2)) (d6 : decode μL_law.2.1 (q + 6) = .ok (.if_icmp .eq 5, 3)) (d11 : decode μL_law.2.1 (q + 11) = .ok (.iload 5, 2)) (d13 : decode μL_law.2.1 (q + 13) = .ok (.ifCond .ne 15, 3)) (d16 : decode μL_law.2.1 (q + 16) = .ok (.aload_n 3, 1)) (d17 : decode μL_law.2.1 (q + 17) = .ok (.iconst 0, 1)) (d18 : decode μL_law.2.1 (q + 18) = .ok (.laload, 1)) (d19 : decode μL_law.2.1 (q + 19) = .ok (.iload 6, 2)) (d21 : decode μL_law.2.1 (q + 21) = .ok (.i2l, 1)) (d22 : decode μL_law.2.1 (q + 22) = .ok (.lcmp, 1)) (d23 : decode μL_law.2.1 (q + 23) = .ok (.ifCond .eq 5, 3)) (d28 : decode μL_law.2.1 (q + 28) = .ok (.goto off, 3)) (ho : ((q + 28 : Nat) : Int) + off = ((2837 : Nat) : Int)) (hR : MR m) (h1 : m 84 0 = k) (h2 : k = 0 → m 122 0 = w32 b) (kk : gT l γ μL_law 60 cb sb R X KK ρ m 2837 [some (vR (-1)), some (vR 1), some (vR 84), some (vR 122), some (vI i), none, none] []) : gT l γ μL_law 60 cb sb R X KK ρ m q [some (vR (-1)), some (vR 1), some (vR 84), some (vR 122), some (vI i), some (vI k), some (vI b)] [] := by
  have hg : gT l γ μL_law 60 cb sb R X KK ρ m (q + 28) [some (vR (-1)), some (vR 1), some (vR 84), some (vR 122), some (vI i), some (vI k), some (vI b)] [] := by
    refine tz_goto (tgt := 2837) d28 ho ?_
    refine tz_drop5 ?_
    refine tz_drop6 ?_
    exact kk
  refine tz_aload2 (n := q + 1) d0 rfl (g_ne kd_84) ?_
  refine tz_cvI0 (n := q + 4) (μ' := μX11_thrown) (cb' := cb) (sb' := sb) ml_L_137 mo_X11_thrown mv_X11_thrown np_X11_thrown kd_84 d1 (mp_thrown hR) rfl rfl (by omega) ⟨by decide, by decide⟩ (Nat.le_of_ble_eq_true rfl) (by omega) (by omega) (fun x1 ρ9 m9 hq => ?_)
  obtain ⟨rfl, hR1, hx, rfl⟩ := hq
  refine tz_iload5 (n := q + 6) d4 (by omega) ?_
  refine tz_eqT (tgt := q + 11) (hx.symm.trans h1) d6 (by omega) ?_
  refine tz_iload5 (n := q + 13) d11 (by omega) ?_
  refine tz_if_ne (n := q + 16) (tgt := q + 28) d13 (by omega) (by omega) (by rw [← h1]; exact hR 84 0) (fun _ => hg) (fun h9 => ?_)
  refine tz_aload3 (n := q + 17) d16 (by omega) (g_ne kd_122) ?_
  refine tz_iconst (n := q + 18) d17 (by omega) ?_
  refine tz_lald (n := q + 19) kd_122 (by decide) d18 (by omega) ?_
  refine tz_iload6 (n := q + 21) d19 (by omega) ?_
  refine tz_i2l (n := q + 22) d21 (by omega) ?_
  refine tz_lcmp (n := q + 23) d22 (by omega) ?_
  exact tz_if_eq (n := q + 26) (tgt := q + 28) d23 (by omega) (by omega) (lCmp_rg _ _) (fun _ => hg) (fun h8 => absurd (by rw [h2 h9]; exact lCmp_self _) h8)
