/-! Lines: rules; one line; all lines. -/
def q37 (ρ ρ9 : Mm) : Prop := ∀ a k : Int, ¬ (a = 37 ∧ k = 2) → ρ9 a k = ρ a k
theorem q37.rf {ρ : Mm} : q37 ρ ρ := fun _ _ _ => rfl
theorem q37.w {ρ : Mm} {x : Int} : q37 ρ (wr ρ 37 2 x) := fun a k h => if_neg h
theorem q37.tr {a b c : Mm} (h : q37 a b) (k : q37 b c) : q37 a c := fun x y h1 => (k x y h1).trans (h x y h1)
theorem LY.q37 {ρ ρ9 : Mm} (h : LY ρ) (k : Jvm.Pilot.@@N@@.q37 ρ ρ9) : LY ρ9 := fun q hq => by
  have h62 : ∀ q ∈ lytab, ¬ (q.1 = 37 ∧ q.2.1 = 2) := by decide
  rw [k q.1 q.2.1 (h62 q hq)]
  exact h q hq
def wL9 (L : List Int) (s : PS) : PS := (s.1, sP s, L, sF s, sW s)
/-- a rule into v -/
noncomputable def rU9 (t : Int → Int) (n v : Int) (s : PS) (Q : Int → List Int) : PS × (Int → List Int) := if (Q v).length = 0 then (xk t n 6 (nx9 t n (wL9 (Q v) s)), upQ Q v (sL (xk t n 6 (nx9 t n (wL9 (Q v) s))))) else (fl9 t n 5 s, Q)
theorem LR.rule {ρ m m9 : Mm} {t : Int → Int} {n sp v : Int} {s y : PS} {ν : Mm} {Q : Int → List Int} (h : LR ρ m t n sp v s ν Q) (hD : RD ρ m9 t n v y) (hG : FE v m m9) : LR ρ m9 t n sp v y ν (upQ Q v (sL y)) := ⟨hD, h.ls, h.s3, h.nl.fe h.s3 hD.u4 hG, h.w, h.q.fe hD.u4 hG hD.l, (if_pos rfl).symm⟩
theorem LR.rho {ρ m : Mm} {t : Int → Int} {n sp u v : Int} {s : PS} {ν : Mm} {Q : Int → List Int} (h : LR ρ m t n sp u s ν Q) (hv : isR4 v) : LR (wr ρ 37 2 v) m t n sp v (wL9 (Q v) s) ν Q := ⟨⟨h.d.r, wr_same, hv, h.d.tk, h.d.p, h.q v hv, h.d.f, h.d.w, h.d.o⟩, by rw [wr_at, if_neg (by decide)]; exact h.ls, h.s3, h.nl, h.w, h.q, rfl⟩
theorem ite01 {P : Prop} [Decidable P] (h : (if P then (0 : Int) else 1) = 0) : P := by
  by_cases k : P
  · exact k
  · rw [if_neg k] at h; exact absurd h (by decide)
theorem ite01n {P : Prop} [Decidable P] (h : ¬ (if P then (0 : Int) else 1) = 0) : ¬ P := fun k => by
  rw [if_pos k] at h
  exact h rfl
theorem sp_readRule {l : Launch} {γ : Gh} {ρ m : Mm} {v : Int} {t : Int → Int} {n sp u : Int} {s : PS} {ν : Mm} {Q : Int → List Int} (hL : LY ρ) (hB : BY t) (hn : 0 ≤ n ∧ n ≤ 700) (hLR : LR ρ m t n sp u s ν Q) (h1 : s.1 = 1) (hv : isR4 v) : gE l γ μX3_readRule 51 0 0 (rI KK fun x ρ9 m9 => q37 ρ ρ9 ∧ MR m9 ∧ (∃ u9, LR ρ9 m9 t n sp u9 (rU9 t n v s Q).1 ν (rU9 t n v s Q).2) ∧ (rU9 t n v s Q).1.1 = x ∧ FL sp m m9) xN KK ρ m [vR 37, vR v] := by
  refine gE.ofw cl_X3.2 ?_ rfl rfl (Nat.le_of_ble_eq_true rfl)
  show gT l γ μX3_readRule 51 0 0 _ _ KK ρ m 0 [some (vR 37), some (vR v)] []
  have hD := hLR.d
  have hR := hD.r
  have hsp := hLR.s3
  have hp := hD.p
  have hr9 := tk_rg (n := n) hB hp
  have hW := hLR.w
  have hw0 := hW.1
  have hw1 := hW.2.1
  have hw2 := hW.2.2.1
  have hN := hLR.nl
  have hn0 := hN.1
  have hu4 := hD.u4
  unfold isR4 at hu4
  have hql := hLR.q v hv
  have hl0 := hql.1
  refine tz_aload1 (n := 1) (g_at ck_X3_readRule 0 rfl) rfl (g_ne (isU_r4 hL hv).k0) ?_
  refine tz_cvI0 (n := 4) (μ' := μX4_isTold) (cb' := 0) (sb' := 0) ml_X3_160 mo_X4_isTold mv_X4_isTold np_X4_isTold (isU_r4 hL hv).k0 (g_at ck_X3_readRule 1 rfl) (sp_isTold (isU_r4 hL hv) hR) rfl rfl rfl ⟨by decide, by decide⟩ (Nat.le_of_ble_eq_true rfl) (by decide) (by decide) (fun x1 ρ9 m1 hq => ?_)
  obtain ⟨rfl, hR1, rfl, rfl⟩ := hq
  refine tz_if_eq (n := 7) (tgt := 13) (g_at ck_X3_readRule 2 rfl) rfl rfl (by split <;> decide) (fun h4 => ?_) (fun h4 => ?_)
  · skip
    refine tz_aload0 (n := 14) (g_at ck_X3_readRule 7 rfl) rfl (g_ne kd_37) ?_
    refine tz_aload1 (n := 15) (g_at ck_X3_readRule 8 rfl) rfl (g_ne (isU_r4 hL hv).k0) ?_
    refine tz_putOw (n := 18) (kz := 2) fk_X3_30 kd_37 (g_at ck_X3_readRule 9 rfl) rfl rfl ?_
    have hL := LY_wr (r := 37) (k := 2) (x := v) hL (by decide)
    have hLV := hLR.rho hv
    refine tz_aload0 (n := 19) (g_at ck_X3_readRule 10 rfl) rfl (g_ne kd_37) ?_
    refine tz_getOv (n := 22) (a := 38) fk_X3_14 kd_37 (ly_37_0 hL) (g_at ck_X3_readRule 11 rfl) rfl ?_
    refine tz_cvV0 (n := 25) (μ' := μX7_advance) (cb' := 0) (sb' := 0) ml_X3_101 mo_X7_advance mv_X7_advance np_X7_advance kd_38 (g_at ck_X3_readRule 12 rfl) (sp_advance hL hR1 hB hn (show 0 ≤ tQ t n (sP (wL9 (Q v) s)) ∧ tQ t n (sP (wL9 (Q v) s)) ≤ n from ⟨by show 0 ≤ tQ t n (sP s); omega, by show tQ t n (sP s) ≤ n; omega⟩) hLV.d.tk.1 hLV.d.tk.2.1 hLV.d.tk.q) rfl rfl rfl ⟨by decide, by decide⟩ (Nat.le_of_ble_eq_true rfl) (by decide) (by decide) (fun ρ9 m22 hq => ?_)
    obtain ⟨rfl, hR2, hF22, hC22⟩ := hq
    have hLW : LR (wr ρ 37 2 v) m22 t n sp v (nx9 t n (wL9 (Q v) s)) ν Q := hLV.st (hLV.d.nx hB hR2 hF22 hC22) (FE.tok hF22) rfl
    have hF22 : FL sp m m22 := FL.fe hv (FE.tok (u := v) hF22)
    refine tz_aload0 (n := 26) (g_at ck_X3_readRule 13 rfl) rfl (g_ne kd_37) ?_
    refine tz_iconst (n := 27) (g_at ck_X3_readRule 14 rfl) rfl ?_
    refine tz_cvI1 (n := 30) (μ' := μX3_readExpr) (cb' := 0) (sb' := 0) ml_X3_164 mo_X3_readExpr mv_X3_readExpr np_X3_readExpr kd_37 (g_at ck_X3_readRule 15 rfl) (ct_0 hL hB hn v _ (nx9 t n (wL9 (Q v) s)) hLW.d h1) rfl rfl rfl ⟨by decide, by decide⟩ (Nat.le_of_ble_eq_true rfl) (by decide) (by decide) (fun x27 ρ9 m27 hq => ?_)
    obtain ⟨rfl, hR3, hD27, rfl, hG27⟩ := hq
    have ho27 := hD27.o
    have hF27 : FL sp m22 m27 := FL.fe hv hG27
    exact tz_bret (g_at ck_X3_readRule 16 rfl) rfl ho27 (rI_mk (by have e9 : rU9 t n v s Q = ((xk t n 6 (nx9 t n (wL9 (Q v) s))), upQ Q v (sL (xk t n 6 (nx9 t n (wL9 (Q v) s))))) := if_pos (by have h8 := ite01 h4; omega); rw [e9]; generalize (xk t n 6 (nx9 t n (wL9 (Q v) s))) = y9 at hD27 ⊢; exact ⟨q37.w, hR3, ⟨v, hLW.rule hD27 hG27⟩, rfl, hF22.tr hF27⟩))
  · skip
    refine tz_aload0 (n := 8) (g_at ck_X3_readRule 3 rfl) rfl (g_ne kd_37) ?_
    refine tz_iconst (n := 9) (g_at ck_X3_readRule 4 rfl) rfl ?_
    refine tz_cvI1 (n := 12) (μ' := μX3_fail) (cb' := 0) (sb' := 0) ml_X3_93 mo_X3_fail mv_X3_fail np_X3_fail kd_37 (g_at ck_X3_readRule 5 rfl) (sp_fail hL hB hn hLR.d (by decide)) rfl rfl rfl ⟨by decide, by decide⟩ (Nat.le_of_ble_eq_true rfl) (by decide) (by decide) (fun x9 ρ9 m9 hq => ?_)
    obtain ⟨rfl, hR4, hD9, hx9, hF9⟩ := hq
    have hz9 : x9 = 0 := hx9.symm
    have hLF9 := hLR.st hD9 hF9 rfl
    exact tz_bret (g_at ck_X3_readRule 6 rfl) rfl (Or.inl hz9) (rI_mk ⟨q37.rf, hR4, ⟨u, by unfold rU9; rw [if_neg (by have h8 := ite01n h4; omega)]; exact hLF9⟩, by unfold rU9; rw [if_neg (by have h8 := ite01n h4; omega)]; exact hx9, FL.fe hD.u4 hF9⟩)
abbrev LZ : Type := PS × Mm × (Int → List Int)
noncomputable def lA9 (t : Int → Int) (n sp : Int) (z : LZ) : LZ :=
  if wdI t n (sP z.1) 2 = 1 then ((rC9 t n z.1 z.2.1).1, (rC9 t n z.1 z.2.1).2, z.2.2)
  else if wdI t n (sP z.1) 3 = 1 then ((rR9 t n z.1 z.2.1).1, (rR9 t n z.1 z.2.1).2, z.2.2)
  else if wdI t n (sP z.1) 4 = 1 then ((rP9 t n z.1 z.2.1).1, (rP9 t n z.1 z.2.1).2, z.2.2)
  else if wdI t n (sP z.1) 5 = 1 then ((rA9 t n z.1 z.2.1).1, (rA9 t n z.1 z.2.1).2, z.2.2)
  else if wdI t n (sP z.1) 6 = 1 then ((rU9 t n (sp + 6) z.1 z.2.2).1, z.2.1, (rU9 t n (sp + 6) z.1 z.2.2).2)
  else if wdI t n (sP z.1) 14 = 1 then ((rU9 t n (sp + 9) z.1 z.2.2).1, z.2.1, (rU9 t n (sp + 9) z.1 z.2.2).2)
  else (fl9 t n 1 z.1, z.2.1, z.2.2)
noncomputable def ln9 (t : Int → Int) (n sp : Int) (z : LZ) : LZ := if (lA9 t n sp z).1.1 = 1 then (sg9 t n 59 (lA9 t n sp z).1, (lA9 t n sp z).2.1, (lA9 t n sp z).2.2) else lA9 t n sp z
noncomputable def lS9 (t : Int → Int) (n sp : Int) (z : LZ) : LZ := if z.1.1 = 1 ∧ tK t n (sP z.1) ≠ 0 then ln9 t n sp z else z
noncomputable def lN9 (t : Int → Int) (n sp : Int) (z : LZ) (k : Nat) : LZ := fd (fun _ y => lS9 t n sp y) z k
theorem lN9_stay {t : Int → Int} {n sp : Int} {z : LZ} {i : Nat} (h : lS9 t n sp (lN9 t n sp z i) = lN9 t n sp z i) : ∀ k : Nat, i ≤ k → lN9 t n sp z k = lN9 t n sp z i
  | 0, hk => by
    have : i = 0 := by omega
    rw [this]
  | k + 1, hk => by
    by_cases e : i = k + 1
    · rw [e]
    · have ih := lN9_stay h k (by omega)
      show lS9 t n sp (lN9 t n sp z k) = _
      rw [ih]
      exact h
theorem sp_readLine {l : Launch} {γ : Gh} {ρ m : Mm} {t : Int → Int} {n sp u : Int} {z : LZ} (hL : LY ρ) (hB : BY t) (hn : 0 ≤ n ∧ n ≤ 700) (hLR : LR ρ m t n sp u z.1 z.2.1 z.2.2) (h1 : z.1.1 = 1) : gE l γ μX3_readLine 52 0 0 (rI KK fun x ρ9 m9 => q37 ρ ρ9 ∧ MR m9 ∧ (∃ u9, LR ρ9 m9 t n sp u9 (ln9 t n sp z).1 (ln9 t n sp z).2.1 (ln9 t n sp z).2.2) ∧ (ln9 t n sp z).1.1 = x ∧ FL sp m m9) xN KK ρ m [vR 37] := by
  refine gE.ofw cl_X3.2 ?_ rfl rfl (Nat.le_of_ble_eq_true rfl)
  show gT l γ μX3_readLine 52 0 0 _ _ KK ρ m 0 [some (vR 37), none] []
  have hD := hLR.d
  have hR := hD.r
  have hsp := hLR.s3
  have hp := hD.p
  refine tz_aload0 (n := 1) (g_at ck_X3_readLine 0 rfl) rfl (g_ne kd_37) ?_
  refine tz_getOv (n := 4) (a := 38) fk_X3_14 kd_37 (ly_37_0 hL) (g_at ck_X3_readLine 1 rfl) rfl ?_
  refine tz_ldcSw (n := 6) st_2 (g_at ck_X3_readLine 2 rfl) rfl ?_
  refine tz_cvI1 (n := 9) (μ' := μX7_isWord) (cb' := 0) (sb' := 0) ml_X3_62 mo_X7_isWord mv_X7_isWord np_X7_isWord kd_38 (g_at ck_X3_readLine 3 rfl) (sp_isWord (i9 := 2) sn_2 hL hR hB hn hD.p hD.tk) rfl rfl rfl ⟨by decide, by decide⟩ (Nat.le_of_ble_eq_true rfl) (by decide) (by decide) (fun x6 ρ9 m6 hq => ?_)
  obtain ⟨rfl, hR1, rfl, rfl⟩ := hq
  have hw2 := wdI_01 (t := t) (n := n) (p := sP z.1) (i9 := 2)
  refine tz_if_eq (n := 12) (tgt := 20) (g_at ck_X3_readLine 4 rfl) rfl rfl (by omega) (fun h9 => ?_) (fun h9 => ?_)
  · skip
    refine tz_aload0 (n := 21) (g_at ck_X3_readLine 9 rfl) rfl (g_ne kd_37) ?_
    refine tz_getOv (n := 24) (a := 38) fk_X3_14 kd_37 (ly_37_0 hL) (g_at ck_X3_readLine 10 rfl) rfl ?_
    refine tz_ldcSw (n := 26) st_3 (g_at ck_X3_readLine 11 rfl) rfl ?_
    refine tz_cvI1 (n := 29) (μ' := μX7_isWord) (cb' := 0) (sb' := 0) ml_X3_62 mo_X7_isWord mv_X7_isWord np_X7_isWord kd_38 (g_at ck_X3_readLine 12 rfl) (sp_isWord (i9 := 3) sn_3 hL hR1 hB hn hD.p hD.tk) rfl rfl rfl ⟨by decide, by decide⟩ (Nat.le_of_ble_eq_true rfl) (by decide) (by decide) (fun x26 ρ9 m26 hq => ?_)
    obtain ⟨rfl, hR2, rfl, rfl⟩ := hq
    have hw3 := wdI_01 (t := t) (n := n) (p := sP z.1) (i9 := 3)
    refine tz_if_eq (n := 32) (tgt := 40) (g_at ck_X3_readLine 13 rfl) rfl rfl (by omega) (fun h29 => ?_) (fun h29 => ?_)
    · skip
      refine tz_aload0 (n := 41) (g_at ck_X3_readLine 18 rfl) rfl (g_ne kd_37) ?_
      refine tz_getOv (n := 44) (a := 38) fk_X3_14 kd_37 (ly_37_0 hL) (g_at ck_X3_readLine 19 rfl) rfl ?_
      refine tz_ldcSw (n := 46) st_4 (g_at ck_X3_readLine 20 rfl) rfl ?_
      refine tz_cvI1 (n := 49) (μ' := μX7_isWord) (cb' := 0) (sb' := 0) ml_X3_62 mo_X7_isWord mv_X7_isWord np_X7_isWord kd_38 (g_at ck_X3_readLine 21 rfl) (sp_isWord (i9 := 4) sn_4 hL hR2 hB hn hD.p hD.tk) rfl rfl rfl ⟨by decide, by decide⟩ (Nat.le_of_ble_eq_true rfl) (by decide) (by decide) (fun x46 ρ9 m46 hq => ?_)
      obtain ⟨rfl, hR3, rfl, rfl⟩ := hq
      have hw4 := wdI_01 (t := t) (n := n) (p := sP z.1) (i9 := 4)
      refine tz_if_eq (n := 52) (tgt := 60) (g_at ck_X3_readLine 22 rfl) rfl rfl (by omega) (fun h49 => ?_) (fun h49 => ?_)
      · skip
        refine tz_aload0 (n := 61) (g_at ck_X3_readLine 27 rfl) rfl (g_ne kd_37) ?_
        refine tz_getOv (n := 64) (a := 38) fk_X3_14 kd_37 (ly_37_0 hL) (g_at ck_X3_readLine 28 rfl) rfl ?_
        refine tz_ldcSw (n := 66) st_5 (g_at ck_X3_readLine 29 rfl) rfl ?_
        refine tz_cvI1 (n := 69) (μ' := μX7_isWord) (cb' := 0) (sb' := 0) ml_X3_62 mo_X7_isWord mv_X7_isWord np_X7_isWord kd_38 (g_at ck_X3_readLine 30 rfl) (sp_isWord (i9 := 5) sn_5 hL hR3 hB hn hD.p hD.tk) rfl rfl rfl ⟨by decide, by decide⟩ (Nat.le_of_ble_eq_true rfl) (by decide) (by decide) (fun x66 ρ9 m66 hq => ?_)
        obtain ⟨rfl, hR4, rfl, rfl⟩ := hq
        have hw5 := wdI_01 (t := t) (n := n) (p := sP z.1) (i9 := 5)
        refine tz_if_eq (n := 72) (tgt := 80) (g_at ck_X3_readLine 31 rfl) rfl rfl (by omega) (fun h69 => ?_) (fun h69 => ?_)
        · skip
          refine tz_aload0 (n := 81) (g_at ck_X3_readLine 36 rfl) rfl (g_ne kd_37) ?_
          refine tz_getOv (n := 84) (a := 38) fk_X3_14 kd_37 (ly_37_0 hL) (g_at ck_X3_readLine 37 rfl) rfl ?_
          refine tz_ldcSw (n := 86) st_6 (g_at ck_X3_readLine 38 rfl) rfl ?_
          refine tz_cvI1 (n := 89) (μ' := μX7_isWord) (cb' := 0) (sb' := 0) ml_X3_62 mo_X7_isWord mv_X7_isWord np_X7_isWord kd_38 (g_at ck_X3_readLine 39 rfl) (sp_isWord (i9 := 6) sn_6 hL hR4 hB hn hD.p hD.tk) rfl rfl rfl ⟨by decide, by decide⟩ (Nat.le_of_ble_eq_true rfl) (by decide) (by decide) (fun x86 ρ9 m86 hq => ?_)
          obtain ⟨rfl, hR5, rfl, rfl⟩ := hq
          have hw6 := wdI_01 (t := t) (n := n) (p := sP z.1) (i9 := 6)
          refine tz_if_eq (n := 92) (tgt := 107) (g_at ck_X3_readLine 40 rfl) rfl rfl (by omega) (fun h89 => ?_) (fun h89 => ?_)
          · skip
            refine tz_aload0 (n := 108) (g_at ck_X3_readLine 48 rfl) rfl (g_ne kd_37) ?_
            refine tz_getOv (n := 111) (a := 38) fk_X3_14 kd_37 (ly_37_0 hL) (g_at ck_X3_readLine 49 rfl) rfl ?_
            refine tz_ldcSw (n := 113) st_14 (g_at ck_X3_readLine 50 rfl) rfl ?_
            refine tz_cvI1 (n := 116) (μ' := μX7_isWord) (cb' := 0) (sb' := 0) ml_X3_62 mo_X7_isWord mv_X7_isWord np_X7_isWord kd_38 (g_at ck_X3_readLine 51 rfl) (sp_isWord (i9 := 14) sn_14 hL hR5 hB hn hD.p hD.tk) rfl rfl rfl ⟨by decide, by decide⟩ (Nat.le_of_ble_eq_true rfl) (by decide) (by decide) (fun x113 ρ9 m113 hq => ?_)
            obtain ⟨rfl, hR6, rfl, rfl⟩ := hq
            have hw14 := wdI_01 (t := t) (n := n) (p := sP z.1) (i9 := 14)
            refine tz_if_eq (n := 119) (tgt := 134) (g_at ck_X3_readLine 52 rfl) rfl rfl (by omega) (fun h116 => ?_) (fun h116 => ?_)
            · skip
              refine tz_aload0 (n := 135) (g_at ck_X3_readLine 60 rfl) rfl (g_ne kd_37) ?_
              refine tz_iconst (n := 136) (g_at ck_X3_readLine 61 rfl) rfl ?_
              refine tz_cvI1 (n := 139) (μ' := μX3_fail) (cb' := 0) (sb' := 0) ml_X3_93 mo_X3_fail mv_X3_fail np_X3_fail kd_37 (g_at ck_X3_readLine 62 rfl) (sp_fail hL hB hn hD (by decide)) rfl rfl rfl ⟨by decide, by decide⟩ (Nat.le_of_ble_eq_true rfl) (by decide) (by decide) (fun x136 ρ9 m136 hq => ?_)
              obtain ⟨rfl, hR7, hD136, hx136, hF136⟩ := hq
              have hLA0 := hLR.st hD136 hF136 rfl
              have eA : lA9 t n sp z = (fl9 t n 1 z.1, z.2.1, z.2.2) := by unfold lA9; rw [if_neg (by omega), if_neg (by omega), if_neg (by omega), if_neg (by omega), if_neg (by omega), if_neg (by omega)]
              have hLA : LR ρ m136 t n sp u (lA9 t n sp z).1 (lA9 t n sp z).2.1 (lA9 t n sp z).2.2 := by rw [eA]; exact hLA0
              have hx9 : (lA9 t n sp z).1.1 = x136 := by rw [eA]; exact hx136
              have hqA := q37.rf (ρ := ρ)
              have hLY := hL
              have hFA : FL sp m m136 := FL.fe hD.u4 hF136
              have ho9 := hLA.d.o
              refine tz_istore1 (n := 140) (g_at ck_X3_readLine 63 rfl) rfl (by decide) g_hpR ?_
              refine tz_iload1 (n := 141) (g_at ck_X3_readLine 64 rfl) rfl ?_
              refine tz_if_eq (n := 144) (tgt := 157) (g_at ck_X3_readLine 65 rfl) rfl rfl (by omega) (fun h141 => ?_) (fun h141 => ?_)
              · skip
                refine tz_iconst (n := 158) (g_at ck_X3_readLine 72 rfl) rfl ?_
                exact tz_bret (g_at ck_X3_readLine 73 rfl) rfl (by decide) (rI_mk ⟨hqA, hR7, ⟨_, by unfold ln9; rw [if_neg (by omega)]; exact hLA⟩, by unfold ln9; rw [if_neg (by omega)]; exact (by omega), hFA⟩)
              · skip
                refine tz_aload0 (n := 145) (g_at ck_X3_readLine 66 rfl) rfl (g_ne kd_37) ?_
                refine tz_bipush (n := 147) (g_at ck_X3_readLine 67 rfl) rfl rfl ?_
                refine tz_cvI1 (n := 150) (μ' := μX3_readSign) (cb' := 0) (sb' := 0) ml_X3_97 mo_X3_readSign mv_X3_readSign np_X3_readSign kd_37 (g_at ck_X3_readLine 68 rfl) (sp_readSign hLY hB hn hLA.d (by omega) (by decide)) rfl rfl rfl ⟨by decide, by decide⟩ (Nat.le_of_ble_eq_true rfl) (by decide) (by decide) (fun x147 ρ9 m147 hq => ?_)
                obtain ⟨rfl, hR8, hD147, hx147, hF147⟩ := hq
                have ho147 := hD147.o
                have hLS := hLA.st hD147 hF147 sg9_l
                refine tz_if_eq (n := 153) (tgt := 157) (g_at ck_X3_readLine 69 rfl) rfl rfl (by omega) (fun h150 => ?_) (fun h150 => ?_)
                · skip
                  refine tz_iconst (n := 158) (g_at ck_X3_readLine 72 rfl) rfl ?_
                  exact tz_bret (g_at ck_X3_readLine 73 rfl) rfl (by decide) (rI_mk ⟨hqA, hR8, ⟨_, by unfold ln9; rw [if_pos (by omega)]; exact hLS⟩, by unfold ln9; rw [if_pos (by omega)]; exact (show (sg9 t n 59 (lA9 t n sp z).1).1 = _ by omega), hFA.tr (FL.fe hLA.d.u4 hF147)⟩)
                · skip
                  refine tz_iconst (n := 154) (g_at ck_X3_readLine 70 rfl) rfl ?_
                  refine tz_goto (tgt := 158) (g_at ck_X3_readLine 71 rfl) rfl ?_
                  exact tz_bret (g_at ck_X3_readLine 73 rfl) rfl (by decide) (rI_mk ⟨hqA, hR8, ⟨_, by unfold ln9; rw [if_pos (by omega)]; exact hLS⟩, by unfold ln9; rw [if_pos (by omega)]; exact (show (sg9 t n 59 (lA9 t n sp z).1).1 = _ by omega), hFA.tr (FL.fe hLA.d.u4 hF147)⟩)
            · skip
              refine tz_aload0 (n := 120) (g_at ck_X3_readLine 53 rfl) rfl (g_ne kd_37) ?_
              refine tz_aload0 (n := 121) (g_at ck_X3_readLine 54 rfl) rfl (g_ne kd_37) ?_
              refine tz_getOv (n := 124) (a := sp) fk_X3_20 kd_37 hLR.ls (g_at ck_X3_readLine 55 rfl) rfl ?_
              refine tz_getOv (n := 127) (a := (sp + 9)) fk_X3_91 (isS_of hL hLR.s3).k0 (isS_of hL hLR.s3).r0_8 (g_at ck_X3_readLine 56 rfl) rfl ?_
              refine tz_cvI1 (n := 130) (μ' := μX3_readRule) (cb' := 0) (sb' := 0) ml_X3_85 mo_X3_readRule mv_X3_readRule np_X3_readRule kd_37 (g_at ck_X3_readLine 57 rfl) (sp_readRule hL hB hn hLR h1 (show isR4 (sp + 9) by unfold isR4; omega)) rfl rfl rfl ⟨by decide, by decide⟩ (Nat.le_of_ble_eq_true rfl) (by decide) (by decide) (fun x127 ρ9 m127 hq => ?_)
              obtain ⟨hqA, hR9, ⟨u9, hLA0⟩, hx127, hFA⟩ := hq
              have eA : lA9 t n sp z = ((rU9 t n (sp + 9) z.1 z.2.2).1, z.2.1, (rU9 t n (sp + 9) z.1 z.2.2).2) := by unfold lA9; rw [if_neg (by omega), if_neg (by omega), if_neg (by omega), if_neg (by omega), if_neg (by omega), if_pos (by omega)]
              have hLA : LR ρ9 m127 t n sp u9 (lA9 t n sp z).1 (lA9 t n sp z).2.1 (lA9 t n sp z).2.2 := by rw [eA]; exact hLA0
              have hx9 : (lA9 t n sp z).1.1 = x127 := by rw [eA]; exact hx127
              have hLY := hL.q37 hqA
              have hL := hLY
              have ho9 := hLA.d.o
              refine tz_istore1 (n := 131) (g_at ck_X3_readLine 58 rfl) rfl (by decide) g_hpR ?_
              refine tz_goto (tgt := 140) (g_at ck_X3_readLine 59 rfl) rfl ?_
              refine tz_iload1 (n := 141) (g_at ck_X3_readLine 64 rfl) rfl ?_
              refine tz_if_eq (n := 144) (tgt := 157) (g_at ck_X3_readLine 65 rfl) rfl rfl (by omega) (fun h141 => ?_) (fun h141 => ?_)
              · skip
                refine tz_iconst (n := 158) (g_at ck_X3_readLine 72 rfl) rfl ?_
                exact tz_bret (g_at ck_X3_readLine 73 rfl) rfl (by decide) (rI_mk ⟨hqA, hR9, ⟨_, by unfold ln9; rw [if_neg (by omega)]; exact hLA⟩, by unfold ln9; rw [if_neg (by omega)]; exact (by omega), hFA⟩)
              · skip
                refine tz_aload0 (n := 145) (g_at ck_X3_readLine 66 rfl) rfl (g_ne kd_37) ?_
                refine tz_bipush (n := 147) (g_at ck_X3_readLine 67 rfl) rfl rfl ?_
                refine tz_cvI1 (n := 150) (μ' := μX3_readSign) (cb' := 0) (sb' := 0) ml_X3_97 mo_X3_readSign mv_X3_readSign np_X3_readSign kd_37 (g_at ck_X3_readLine 68 rfl) (sp_readSign hLY hB hn hLA.d (by omega) (by decide)) rfl rfl rfl ⟨by decide, by decide⟩ (Nat.le_of_ble_eq_true rfl) (by decide) (by decide) (fun x147 ρ9 m147 hq => ?_)
                obtain ⟨rfl, hR10, hD147, hx147, hF147⟩ := hq
                have ho147 := hD147.o
                have hLS := hLA.st hD147 hF147 sg9_l
                refine tz_if_eq (n := 153) (tgt := 157) (g_at ck_X3_readLine 69 rfl) rfl rfl (by omega) (fun h150 => ?_) (fun h150 => ?_)
                · skip
                  refine tz_iconst (n := 158) (g_at ck_X3_readLine 72 rfl) rfl ?_
                  exact tz_bret (g_at ck_X3_readLine 73 rfl) rfl (by decide) (rI_mk ⟨hqA, hR10, ⟨_, by unfold ln9; rw [if_pos (by omega)]; exact hLS⟩, by unfold ln9; rw [if_pos (by omega)]; exact (show (sg9 t n 59 (lA9 t n sp z).1).1 = _ by omega), hFA.tr (FL.fe hLA.d.u4 hF147)⟩)
                · skip
                  refine tz_iconst (n := 154) (g_at ck_X3_readLine 70 rfl) rfl ?_
                  refine tz_goto (tgt := 158) (g_at ck_X3_readLine 71 rfl) rfl ?_
                  exact tz_bret (g_at ck_X3_readLine 73 rfl) rfl (by decide) (rI_mk ⟨hqA, hR10, ⟨_, by unfold ln9; rw [if_pos (by omega)]; exact hLS⟩, by unfold ln9; rw [if_pos (by omega)]; exact (show (sg9 t n 59 (lA9 t n sp z).1).1 = _ by omega), hFA.tr (FL.fe hLA.d.u4 hF147)⟩)
          · skip
            refine tz_aload0 (n := 93) (g_at ck_X3_readLine 41 rfl) rfl (g_ne kd_37) ?_
            refine tz_aload0 (n := 94) (g_at ck_X3_readLine 42 rfl) rfl (g_ne kd_37) ?_
            refine tz_getOv (n := 97) (a := sp) fk_X3_20 kd_37 hLR.ls (g_at ck_X3_readLine 43 rfl) rfl ?_
            refine tz_getOv (n := 100) (a := (sp + 6)) fk_X3_24 (isS_of hL hLR.s3).k0 (isS_of hL hLR.s3).r0_7 (g_at ck_X3_readLine 44 rfl) rfl ?_
            refine tz_cvI1 (n := 103) (μ' := μX3_readRule) (cb' := 0) (sb' := 0) ml_X3_85 mo_X3_readRule mv_X3_readRule np_X3_readRule kd_37 (g_at ck_X3_readLine 45 rfl) (sp_readRule hL hB hn hLR h1 (show isR4 (sp + 6) by unfold isR4; omega)) rfl rfl rfl ⟨by decide, by decide⟩ (Nat.le_of_ble_eq_true rfl) (by decide) (by decide) (fun x100 ρ9 m100 hq => ?_)
            obtain ⟨hqA, hR11, ⟨u9, hLA0⟩, hx100, hFA⟩ := hq
            have eA : lA9 t n sp z = ((rU9 t n (sp + 6) z.1 z.2.2).1, z.2.1, (rU9 t n (sp + 6) z.1 z.2.2).2) := by unfold lA9; rw [if_neg (by omega), if_neg (by omega), if_neg (by omega), if_neg (by omega), if_pos (by omega)]
            have hLA : LR ρ9 m100 t n sp u9 (lA9 t n sp z).1 (lA9 t n sp z).2.1 (lA9 t n sp z).2.2 := by rw [eA]; exact hLA0
            have hx9 : (lA9 t n sp z).1.1 = x100 := by rw [eA]; exact hx100
            have hLY := hL.q37 hqA
            have hL := hLY
            have ho9 := hLA.d.o
            refine tz_istore1 (n := 104) (g_at ck_X3_readLine 46 rfl) rfl (by decide) g_hpR ?_
            refine tz_goto (tgt := 140) (g_at ck_X3_readLine 47 rfl) rfl ?_
            refine tz_iload1 (n := 141) (g_at ck_X3_readLine 64 rfl) rfl ?_
            refine tz_if_eq (n := 144) (tgt := 157) (g_at ck_X3_readLine 65 rfl) rfl rfl (by omega) (fun h141 => ?_) (fun h141 => ?_)
            · skip
              refine tz_iconst (n := 158) (g_at ck_X3_readLine 72 rfl) rfl ?_
              exact tz_bret (g_at ck_X3_readLine 73 rfl) rfl (by decide) (rI_mk ⟨hqA, hR11, ⟨_, by unfold ln9; rw [if_neg (by omega)]; exact hLA⟩, by unfold ln9; rw [if_neg (by omega)]; exact (by omega), hFA⟩)
            · skip
              refine tz_aload0 (n := 145) (g_at ck_X3_readLine 66 rfl) rfl (g_ne kd_37) ?_
              refine tz_bipush (n := 147) (g_at ck_X3_readLine 67 rfl) rfl rfl ?_
              refine tz_cvI1 (n := 150) (μ' := μX3_readSign) (cb' := 0) (sb' := 0) ml_X3_97 mo_X3_readSign mv_X3_readSign np_X3_readSign kd_37 (g_at ck_X3_readLine 68 rfl) (sp_readSign hLY hB hn hLA.d (by omega) (by decide)) rfl rfl rfl ⟨by decide, by decide⟩ (Nat.le_of_ble_eq_true rfl) (by decide) (by decide) (fun x147 ρ9 m147 hq => ?_)
              obtain ⟨rfl, hR12, hD147, hx147, hF147⟩ := hq
              have ho147 := hD147.o
              have hLS := hLA.st hD147 hF147 sg9_l
              refine tz_if_eq (n := 153) (tgt := 157) (g_at ck_X3_readLine 69 rfl) rfl rfl (by omega) (fun h150 => ?_) (fun h150 => ?_)
              · skip
                refine tz_iconst (n := 158) (g_at ck_X3_readLine 72 rfl) rfl ?_
                exact tz_bret (g_at ck_X3_readLine 73 rfl) rfl (by decide) (rI_mk ⟨hqA, hR12, ⟨_, by unfold ln9; rw [if_pos (by omega)]; exact hLS⟩, by unfold ln9; rw [if_pos (by omega)]; exact (show (sg9 t n 59 (lA9 t n sp z).1).1 = _ by omega), hFA.tr (FL.fe hLA.d.u4 hF147)⟩)
              · skip
                refine tz_iconst (n := 154) (g_at ck_X3_readLine 70 rfl) rfl ?_
                refine tz_goto (tgt := 158) (g_at ck_X3_readLine 71 rfl) rfl ?_
                exact tz_bret (g_at ck_X3_readLine 73 rfl) rfl (by decide) (rI_mk ⟨hqA, hR12, ⟨_, by unfold ln9; rw [if_pos (by omega)]; exact hLS⟩, by unfold ln9; rw [if_pos (by omega)]; exact (show (sg9 t n 59 (lA9 t n sp z).1).1 = _ by omega), hFA.tr (FL.fe hLA.d.u4 hF147)⟩)
        · skip
          refine tz_aload0 (n := 73) (g_at ck_X3_readLine 32 rfl) rfl (g_ne kd_37) ?_
          refine tz_cvI0 (n := 76) (μ' := μX3_readArm) (cb' := 0) (sb' := 0) ml_X3_81 mo_X3_readArm mv_X3_readArm np_X3_readArm kd_37 (g_at ck_X3_readLine 33 rfl) (sp_readArm hL hB hn hLR h1) rfl rfl rfl ⟨by decide, by decide⟩ (Nat.le_of_ble_eq_true rfl) (by decide) (by decide) (fun x73 ρ9 m73 hq => ?_)
          obtain ⟨rfl, hR13, hLA0, hx73, hFA⟩ := hq
          have eA : lA9 t n sp z = ((rA9 t n z.1 z.2.1).1, (rA9 t n z.1 z.2.1).2, z.2.2) := by unfold lA9; rw [if_neg (by omega), if_neg (by omega), if_neg (by omega), if_pos (by omega)]
          have hLA : LR ρ m73 t n sp u (lA9 t n sp z).1 (lA9 t n sp z).2.1 (lA9 t n sp z).2.2 := by rw [eA]; exact hLA0
          have hx9 : (lA9 t n sp z).1.1 = x73 := by rw [eA]; exact hx73
          have hqA := q37.rf (ρ := ρ)
          have hLY := hL
          have ho9 := hLA.d.o
          refine tz_istore1 (n := 77) (g_at ck_X3_readLine 34 rfl) rfl (by decide) g_hpR ?_
          refine tz_goto (tgt := 140) (g_at ck_X3_readLine 35 rfl) rfl ?_
          refine tz_iload1 (n := 141) (g_at ck_X3_readLine 64 rfl) rfl ?_
          refine tz_if_eq (n := 144) (tgt := 157) (g_at ck_X3_readLine 65 rfl) rfl rfl (by omega) (fun h141 => ?_) (fun h141 => ?_)
          · skip
            refine tz_iconst (n := 158) (g_at ck_X3_readLine 72 rfl) rfl ?_
            exact tz_bret (g_at ck_X3_readLine 73 rfl) rfl (by decide) (rI_mk ⟨hqA, hR13, ⟨_, by unfold ln9; rw [if_neg (by omega)]; exact hLA⟩, by unfold ln9; rw [if_neg (by omega)]; exact (by omega), hFA⟩)
          · skip
            refine tz_aload0 (n := 145) (g_at ck_X3_readLine 66 rfl) rfl (g_ne kd_37) ?_
            refine tz_bipush (n := 147) (g_at ck_X3_readLine 67 rfl) rfl rfl ?_
            refine tz_cvI1 (n := 150) (μ' := μX3_readSign) (cb' := 0) (sb' := 0) ml_X3_97 mo_X3_readSign mv_X3_readSign np_X3_readSign kd_37 (g_at ck_X3_readLine 68 rfl) (sp_readSign hLY hB hn hLA.d (by omega) (by decide)) rfl rfl rfl ⟨by decide, by decide⟩ (Nat.le_of_ble_eq_true rfl) (by decide) (by decide) (fun x147 ρ9 m147 hq => ?_)
            obtain ⟨rfl, hR14, hD147, hx147, hF147⟩ := hq
            have ho147 := hD147.o
            have hLS := hLA.st hD147 hF147 sg9_l
            refine tz_if_eq (n := 153) (tgt := 157) (g_at ck_X3_readLine 69 rfl) rfl rfl (by omega) (fun h150 => ?_) (fun h150 => ?_)
            · skip
              refine tz_iconst (n := 158) (g_at ck_X3_readLine 72 rfl) rfl ?_
              exact tz_bret (g_at ck_X3_readLine 73 rfl) rfl (by decide) (rI_mk ⟨hqA, hR14, ⟨_, by unfold ln9; rw [if_pos (by omega)]; exact hLS⟩, by unfold ln9; rw [if_pos (by omega)]; exact (show (sg9 t n 59 (lA9 t n sp z).1).1 = _ by omega), hFA.tr (FL.fe hLA.d.u4 hF147)⟩)
            · skip
              refine tz_iconst (n := 154) (g_at ck_X3_readLine 70 rfl) rfl ?_
              refine tz_goto (tgt := 158) (g_at ck_X3_readLine 71 rfl) rfl ?_
              exact tz_bret (g_at ck_X3_readLine 73 rfl) rfl (by decide) (rI_mk ⟨hqA, hR14, ⟨_, by unfold ln9; rw [if_pos (by omega)]; exact hLS⟩, by unfold ln9; rw [if_pos (by omega)]; exact (show (sg9 t n 59 (lA9 t n sp z).1).1 = _ by omega), hFA.tr (FL.fe hLA.d.u4 hF147)⟩)
      · skip
        refine tz_aload0 (n := 53) (g_at ck_X3_readLine 23 rfl) rfl (g_ne kd_37) ?_
        refine tz_cvI0 (n := 56) (μ' := μX3_readPerson) (cb' := 0) (sb' := 0) ml_X3_76 mo_X3_readPerson mv_X3_readPerson np_X3_readPerson kd_37 (g_at ck_X3_readLine 24 rfl) (sp_readPerson hL hB hn hLR h1) rfl rfl rfl ⟨by decide, by decide⟩ (Nat.le_of_ble_eq_true rfl) (by decide) (by decide) (fun x53 ρ9 m53 hq => ?_)
        obtain ⟨rfl, hR15, hLA0, hx53, hFA⟩ := hq
        have eA : lA9 t n sp z = ((rP9 t n z.1 z.2.1).1, (rP9 t n z.1 z.2.1).2, z.2.2) := by unfold lA9; rw [if_neg (by omega), if_neg (by omega), if_pos (by omega)]
        have hLA : LR ρ m53 t n sp u (lA9 t n sp z).1 (lA9 t n sp z).2.1 (lA9 t n sp z).2.2 := by rw [eA]; exact hLA0
        have hx9 : (lA9 t n sp z).1.1 = x53 := by rw [eA]; exact hx53
        have hqA := q37.rf (ρ := ρ)
        have hLY := hL
        have ho9 := hLA.d.o
        refine tz_istore1 (n := 57) (g_at ck_X3_readLine 25 rfl) rfl (by decide) g_hpR ?_
        refine tz_goto (tgt := 140) (g_at ck_X3_readLine 26 rfl) rfl ?_
        refine tz_iload1 (n := 141) (g_at ck_X3_readLine 64 rfl) rfl ?_
        refine tz_if_eq (n := 144) (tgt := 157) (g_at ck_X3_readLine 65 rfl) rfl rfl (by omega) (fun h141 => ?_) (fun h141 => ?_)
        · skip
          refine tz_iconst (n := 158) (g_at ck_X3_readLine 72 rfl) rfl ?_
          exact tz_bret (g_at ck_X3_readLine 73 rfl) rfl (by decide) (rI_mk ⟨hqA, hR15, ⟨_, by unfold ln9; rw [if_neg (by omega)]; exact hLA⟩, by unfold ln9; rw [if_neg (by omega)]; exact (by omega), hFA⟩)
        · skip
          refine tz_aload0 (n := 145) (g_at ck_X3_readLine 66 rfl) rfl (g_ne kd_37) ?_
          refine tz_bipush (n := 147) (g_at ck_X3_readLine 67 rfl) rfl rfl ?_
          refine tz_cvI1 (n := 150) (μ' := μX3_readSign) (cb' := 0) (sb' := 0) ml_X3_97 mo_X3_readSign mv_X3_readSign np_X3_readSign kd_37 (g_at ck_X3_readLine 68 rfl) (sp_readSign hLY hB hn hLA.d (by omega) (by decide)) rfl rfl rfl ⟨by decide, by decide⟩ (Nat.le_of_ble_eq_true rfl) (by decide) (by decide) (fun x147 ρ9 m147 hq => ?_)
          obtain ⟨rfl, hR16, hD147, hx147, hF147⟩ := hq
          have ho147 := hD147.o
          have hLS := hLA.st hD147 hF147 sg9_l
          refine tz_if_eq (n := 153) (tgt := 157) (g_at ck_X3_readLine 69 rfl) rfl rfl (by omega) (fun h150 => ?_) (fun h150 => ?_)
          · skip
            refine tz_iconst (n := 158) (g_at ck_X3_readLine 72 rfl) rfl ?_
            exact tz_bret (g_at ck_X3_readLine 73 rfl) rfl (by decide) (rI_mk ⟨hqA, hR16, ⟨_, by unfold ln9; rw [if_pos (by omega)]; exact hLS⟩, by unfold ln9; rw [if_pos (by omega)]; exact (show (sg9 t n 59 (lA9 t n sp z).1).1 = _ by omega), hFA.tr (FL.fe hLA.d.u4 hF147)⟩)
          · skip
            refine tz_iconst (n := 154) (g_at ck_X3_readLine 70 rfl) rfl ?_
            refine tz_goto (tgt := 158) (g_at ck_X3_readLine 71 rfl) rfl ?_
            exact tz_bret (g_at ck_X3_readLine 73 rfl) rfl (by decide) (rI_mk ⟨hqA, hR16, ⟨_, by unfold ln9; rw [if_pos (by omega)]; exact hLS⟩, by unfold ln9; rw [if_pos (by omega)]; exact (show (sg9 t n 59 (lA9 t n sp z).1).1 = _ by omega), hFA.tr (FL.fe hLA.d.u4 hF147)⟩)
    · skip
      refine tz_aload0 (n := 33) (g_at ck_X3_readLine 14 rfl) rfl (g_ne kd_37) ?_
      refine tz_cvI0 (n := 36) (μ' := μX3_readRoad) (cb' := 0) (sb' := 0) ml_X3_71 mo_X3_readRoad mv_X3_readRoad np_X3_readRoad kd_37 (g_at ck_X3_readLine 15 rfl) (sp_readRoad hL hB hn hLR h1) rfl rfl rfl ⟨by decide, by decide⟩ (Nat.le_of_ble_eq_true rfl) (by decide) (by decide) (fun x33 ρ9 m33 hq => ?_)
      obtain ⟨rfl, hR17, hLA0, hx33, hFA⟩ := hq
      have eA : lA9 t n sp z = ((rR9 t n z.1 z.2.1).1, (rR9 t n z.1 z.2.1).2, z.2.2) := by unfold lA9; rw [if_neg (by omega), if_pos (by omega)]
      have hLA : LR ρ m33 t n sp u (lA9 t n sp z).1 (lA9 t n sp z).2.1 (lA9 t n sp z).2.2 := by rw [eA]; exact hLA0
      have hx9 : (lA9 t n sp z).1.1 = x33 := by rw [eA]; exact hx33
      have hqA := q37.rf (ρ := ρ)
      have hLY := hL
      have ho9 := hLA.d.o
      refine tz_istore1 (n := 37) (g_at ck_X3_readLine 16 rfl) rfl (by decide) g_hpR ?_
      refine tz_goto (tgt := 140) (g_at ck_X3_readLine 17 rfl) rfl ?_
      refine tz_iload1 (n := 141) (g_at ck_X3_readLine 64 rfl) rfl ?_
      refine tz_if_eq (n := 144) (tgt := 157) (g_at ck_X3_readLine 65 rfl) rfl rfl (by omega) (fun h141 => ?_) (fun h141 => ?_)
      · skip
        refine tz_iconst (n := 158) (g_at ck_X3_readLine 72 rfl) rfl ?_
        exact tz_bret (g_at ck_X3_readLine 73 rfl) rfl (by decide) (rI_mk ⟨hqA, hR17, ⟨_, by unfold ln9; rw [if_neg (by omega)]; exact hLA⟩, by unfold ln9; rw [if_neg (by omega)]; exact (by omega), hFA⟩)
      · skip
        refine tz_aload0 (n := 145) (g_at ck_X3_readLine 66 rfl) rfl (g_ne kd_37) ?_
        refine tz_bipush (n := 147) (g_at ck_X3_readLine 67 rfl) rfl rfl ?_
        refine tz_cvI1 (n := 150) (μ' := μX3_readSign) (cb' := 0) (sb' := 0) ml_X3_97 mo_X3_readSign mv_X3_readSign np_X3_readSign kd_37 (g_at ck_X3_readLine 68 rfl) (sp_readSign hLY hB hn hLA.d (by omega) (by decide)) rfl rfl rfl ⟨by decide, by decide⟩ (Nat.le_of_ble_eq_true rfl) (by decide) (by decide) (fun x147 ρ9 m147 hq => ?_)
        obtain ⟨rfl, hR18, hD147, hx147, hF147⟩ := hq
        have ho147 := hD147.o
        have hLS := hLA.st hD147 hF147 sg9_l
        refine tz_if_eq (n := 153) (tgt := 157) (g_at ck_X3_readLine 69 rfl) rfl rfl (by omega) (fun h150 => ?_) (fun h150 => ?_)
        · skip
          refine tz_iconst (n := 158) (g_at ck_X3_readLine 72 rfl) rfl ?_
          exact tz_bret (g_at ck_X3_readLine 73 rfl) rfl (by decide) (rI_mk ⟨hqA, hR18, ⟨_, by unfold ln9; rw [if_pos (by omega)]; exact hLS⟩, by unfold ln9; rw [if_pos (by omega)]; exact (show (sg9 t n 59 (lA9 t n sp z).1).1 = _ by omega), hFA.tr (FL.fe hLA.d.u4 hF147)⟩)
        · skip
          refine tz_iconst (n := 154) (g_at ck_X3_readLine 70 rfl) rfl ?_
          refine tz_goto (tgt := 158) (g_at ck_X3_readLine 71 rfl) rfl ?_
          exact tz_bret (g_at ck_X3_readLine 73 rfl) rfl (by decide) (rI_mk ⟨hqA, hR18, ⟨_, by unfold ln9; rw [if_pos (by omega)]; exact hLS⟩, by unfold ln9; rw [if_pos (by omega)]; exact (show (sg9 t n 59 (lA9 t n sp z).1).1 = _ by omega), hFA.tr (FL.fe hLA.d.u4 hF147)⟩)
  · skip
    refine tz_aload0 (n := 13) (g_at ck_X3_readLine 5 rfl) rfl (g_ne kd_37) ?_
    refine tz_cvI0 (n := 16) (μ' := μX3_readCrossing) (cb' := 0) (sb' := 0) ml_X3_66 mo_X3_readCrossing mv_X3_readCrossing np_X3_readCrossing kd_37 (g_at ck_X3_readLine 6 rfl) (sp_readCrossing hL hB hn hLR h1) rfl rfl rfl ⟨by decide, by decide⟩ (Nat.le_of_ble_eq_true rfl) (by decide) (by decide) (fun x13 ρ9 m13 hq => ?_)
    obtain ⟨rfl, hR19, hLA0, hx13, hFA⟩ := hq
    have eA : lA9 t n sp z = ((rC9 t n z.1 z.2.1).1, (rC9 t n z.1 z.2.1).2, z.2.2) := by unfold lA9; rw [if_pos (by omega)]
    have hLA : LR ρ m13 t n sp u (lA9 t n sp z).1 (lA9 t n sp z).2.1 (lA9 t n sp z).2.2 := by rw [eA]; exact hLA0
    have hx9 : (lA9 t n sp z).1.1 = x13 := by rw [eA]; exact hx13
    have hqA := q37.rf (ρ := ρ)
    have hLY := hL
    have ho9 := hLA.d.o
    refine tz_istore1 (n := 17) (g_at ck_X3_readLine 7 rfl) rfl (by decide) g_hpR ?_
    refine tz_goto (tgt := 140) (g_at ck_X3_readLine 8 rfl) rfl ?_
    refine tz_iload1 (n := 141) (g_at ck_X3_readLine 64 rfl) rfl ?_
    refine tz_if_eq (n := 144) (tgt := 157) (g_at ck_X3_readLine 65 rfl) rfl rfl (by omega) (fun h141 => ?_) (fun h141 => ?_)
    · skip
      refine tz_iconst (n := 158) (g_at ck_X3_readLine 72 rfl) rfl ?_
      exact tz_bret (g_at ck_X3_readLine 73 rfl) rfl (by decide) (rI_mk ⟨hqA, hR19, ⟨_, by unfold ln9; rw [if_neg (by omega)]; exact hLA⟩, by unfold ln9; rw [if_neg (by omega)]; exact (by omega), hFA⟩)
    · skip
      refine tz_aload0 (n := 145) (g_at ck_X3_readLine 66 rfl) rfl (g_ne kd_37) ?_
      refine tz_bipush (n := 147) (g_at ck_X3_readLine 67 rfl) rfl rfl ?_
      refine tz_cvI1 (n := 150) (μ' := μX3_readSign) (cb' := 0) (sb' := 0) ml_X3_97 mo_X3_readSign mv_X3_readSign np_X3_readSign kd_37 (g_at ck_X3_readLine 68 rfl) (sp_readSign hLY hB hn hLA.d (by omega) (by decide)) rfl rfl rfl ⟨by decide, by decide⟩ (Nat.le_of_ble_eq_true rfl) (by decide) (by decide) (fun x147 ρ9 m147 hq => ?_)
      obtain ⟨rfl, hR20, hD147, hx147, hF147⟩ := hq
      have ho147 := hD147.o
      have hLS := hLA.st hD147 hF147 sg9_l
      refine tz_if_eq (n := 153) (tgt := 157) (g_at ck_X3_readLine 69 rfl) rfl rfl (by omega) (fun h150 => ?_) (fun h150 => ?_)
      · skip
        refine tz_iconst (n := 158) (g_at ck_X3_readLine 72 rfl) rfl ?_
        exact tz_bret (g_at ck_X3_readLine 73 rfl) rfl (by decide) (rI_mk ⟨hqA, hR20, ⟨_, by unfold ln9; rw [if_pos (by omega)]; exact hLS⟩, by unfold ln9; rw [if_pos (by omega)]; exact (show (sg9 t n 59 (lA9 t n sp z).1).1 = _ by omega), hFA.tr (FL.fe hLA.d.u4 hF147)⟩)
      · skip
        refine tz_iconst (n := 154) (g_at ck_X3_readLine 70 rfl) rfl ?_
        refine tz_goto (tgt := 158) (g_at ck_X3_readLine 71 rfl) rfl ?_
        exact tz_bret (g_at ck_X3_readLine 73 rfl) rfl (by decide) (rI_mk ⟨hqA, hR20, ⟨_, by unfold ln9; rw [if_pos (by omega)]; exact hLS⟩, by unfold ln9; rw [if_pos (by omega)]; exact (show (sg9 t n 59 (lA9 t n sp z).1).1 = _ by omega), hFA.tr (FL.fe hLA.d.u4 hF147)⟩)
