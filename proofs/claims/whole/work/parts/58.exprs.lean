/-! Rules: the deepest expression; all depths. -/
noncomputable def x6 (t : Int → Int) (n : Int) (s : PS) : PS := if cb9 t n (sP s) = 1 then fl9 t n 2 s else fl9 t n 1 s
theorem sz_readExpr {l : Launch} {γ : Gh} {ρ m : Mm} {t : Int → Int} {n u : Int} {s : PS} (hL : LY ρ) (hB : BY t) (hn : 0 ≤ n ∧ n ≤ 700) (hD : RD ρ m t n u s) (h1 : s.1 = 1) : gE l γ μX3_readExpr 8 0 0 (rI KK fun x ρ9 m9 => ρ = ρ9 ∧ MR m9 ∧ RD ρ9 m9 t n u (x6 t n s) ∧ (x6 t n s).1 = x ∧ FE u m m9) xN KK ρ m [vR 37, vI 6] := by
  refine gE.ofw cl_X3.2 ?_ rfl rfl (Nat.le_of_ble_eq_true rfl)
  show gT l γ μX3_readExpr 8 0 0 _ _ KK ρ m 0 [some (vR 37), some (vI 6), none, none] []
  have hR := hD.r
  have hp := hD.p
  have hr9 := tk_rg (n := n) hB hp
  have hu4 := hD.u4
  unfold isR4 at hu4
  refine tz_iload1 (n := 1) (g_at ck_X3_readExpr 0 rfl) rfl ?_
  refine tz_bipush (n := 3) (g_at ck_X3_readExpr 1 rfl) rfl rfl ?_
  refine tz_icmp_lt (n := 6) (tgt := 23) (g_at ck_X3_readExpr 2 rfl) rfl rfl (by decide) (fun h3 => absurd h3 (by omega)) (fun h3 => ?_)
  refine tz_aload0 (n := 7) (g_at ck_X3_readExpr 3 rfl) rfl (g_ne kd_37) ?_
  refine tz_aload0 (n := 8) (g_at ck_X3_readExpr 4 rfl) rfl (g_ne kd_37) ?_
  refine tz_cvI0 (n := 11) (μ' := μX3_canBegin) (cb' := 0) (sb' := 0) ml_X3_167 mo_X3_canBegin mv_X3_canBegin np_X3_canBegin kd_37 (g_at ck_X3_readExpr 5 rfl) (sp_canBegin hL hB hn hD) rfl rfl rfl ⟨by decide, by decide⟩ (Nat.le_of_ble_eq_true rfl) (by decide) (by decide) (fun x8 ρ9 m8 hq => ?_)
  obtain ⟨rfl, hR1, rfl, rfl⟩ := hq
  have hcb : cb9 t n (sP s) = 0 ∨ cb9 t n (sP s) = 1 := by unfold cb9; split <;> simp
  refine tz_if_eq (n := 14) (tgt := 18) (g_at ck_X3_readExpr 6 rfl) rfl rfl (by omega) (fun h11 => ?_) (fun h11 => ?_)
  · skip
    refine tz_iconst (n := 19) (g_at ck_X3_readExpr 9 rfl) rfl ?_
    refine tz_cvI1 (n := 22) (μ' := μX3_fail) (cb' := 0) (sb' := 0) ml_X3_93 mo_X3_fail mv_X3_fail np_X3_fail kd_37 (g_at ck_X3_readExpr 10 rfl) (sp_fail hL hB hn hD (by decide)) rfl rfl rfl ⟨by decide, by decide⟩ (Nat.le_of_ble_eq_true rfl) (by decide) (by decide) (fun x19 ρ9 m19 hq => ?_)
    obtain ⟨rfl, hR2, hD19, hx19, hF19⟩ := hq
    have hz19 : x19 = 0 := hx19.symm
    exact tz_bret (g_at ck_X3_readExpr 11 rfl) rfl (Or.inl hz19) (rI_mk (by unfold x6; rw [if_neg (by omega)]; exact ⟨rfl, hR2, hD19, hx19, hF19⟩))
  · skip
    refine tz_iconst (n := 15) (g_at ck_X3_readExpr 7 rfl) rfl ?_
    refine tz_goto (tgt := 19) (g_at ck_X3_readExpr 8 rfl) rfl ?_
    refine tz_cvI1 (n := 22) (μ' := μX3_fail) (cb' := 0) (sb' := 0) ml_X3_93 mo_X3_fail mv_X3_fail np_X3_fail kd_37 (g_at ck_X3_readExpr 10 rfl) (sp_fail hL hB hn hD (by decide)) rfl rfl rfl ⟨by decide, by decide⟩ (Nat.le_of_ble_eq_true rfl) (by decide) (by decide) (fun x19 ρ9 m19 hq => ?_)
    obtain ⟨rfl, hR3, hD19, hx19, hF19⟩ := hq
    have hz19 : x19 = 0 := hx19.symm
    exact tz_bret (g_at ck_X3_readExpr 11 rfl) rfl (Or.inl hz19) (rI_mk (by unfold x6; rw [if_pos (by omega)]; exact ⟨rfl, hR3, hD19, hx19, hF19⟩))
section
variable {l : Launch} {γ : Gh} {ρ : Mm} {t : Int → Int} {n : Int}
theorem ct_6z (hL : LY ρ) (hB : BY t) (hn : 0 ≤ n ∧ n ≤ 700) : Ct l γ ρ t n μX3_readExpr 8 6 (x6 t n) := by
  exact fun u m s hD h1 => sz_readExpr hL hB hn hD h1
/-- an expression with k more within it -/
noncomputable def xk (t : Int → Int) (n : Int) : Nat → PS → PS
  | 0 => x6 t n
  | k + 1 => cx9 t n (tO9 t n) (by9 t n (xk t n k))
theorem ct_k (hL : LY ρ) (hB : BY t) (hn : 0 ≤ n ∧ n ≤ 700) : ∀ k : Nat, k ≤ 6 → Ct l γ ρ t n μX3_readExpr (8 + 7 * k) (6 - (k : Int)) (xk t n k)
  | 0, _ => ct_6z hL hB hn
  | k + 1, hk => by
    have ih := ct_k hL hB hn k (by omega)
    rw [show (6 : Int) - (k : Int) = 6 - ((k + 1 : Nat) : Int) + 1 by omega] at ih
    have h := ct_e hL hB hn (by omega) (show 0 ≤ 6 - ((k + 1 : Nat) : Int) ∧ 6 - ((k + 1 : Nat) : Int) < 6 by omega) (ct_b hL hB hn (by omega) ih)
    rw [show 8 + 7 * k + 1 + 1 + 1 + 1 + 1 + 1 + 1 = 8 + 7 * (k + 1) by omega] at h
    exact h
theorem ct_0 (hL : LY ρ) (hB : BY t) (hn : 0 ≤ n ∧ n ≤ 700) : Ct l γ ρ t n μX3_readExpr 50 0 (xk t n 6) := ct_k hL hB hn 6 (by decide)
end
