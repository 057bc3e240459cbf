/-! Beds and the tour: a table that keeps the equations is the only one. -/
theorem bb_eq {Λ : Mm} {s T T' : Int → Int} {p t : Int} (hW : WL Λ) (h : ∀ u, 0 ≤ u → u ≤ abI Λ (Λ 0 0).toNat → okS Λ u → T ((p + 1) * 512 + u) = T' ((p + 1) * 512 + u)) (ht : 0 ≤ t ∧ t ≤ abI Λ (Λ 0 0).toNat) (ho : okS Λ t) : ∀ n : Nat, (n : Int) ≤ Λ 0 0 → bbN Λ s T p t n = bbN Λ s T' p t n
  | 0, _ => by
    show ((-1 : Int), T ((p + 1) * 512 + t)) = (-1, T' ((p + 1) * 512 + t))
    rw [h t ht.1 ht.2 ho]
  | n + 1, hn => by
    have ha := abI_rg hW
    have e : bbN Λ s T p t (n + 1) = bbS Λ s T p t (Λ 0 0 - 1 - (n : Int)) (bbN Λ s T p t n) := rfl
    have e' : bbN Λ s T' p t (n + 1) = bbS Λ s T' p t (Λ 0 0 - 1 - (n : Int)) (bbN Λ s T' p t n) := rfl
    rw [e, e', bb_eq hW h ht ho n (by omega)]
    unfold bbS
    by_cases hc : csP Λ s p t (Λ 0 0 - 1 - (n : Int)) = 0
    · rw [if_pos hc, if_pos hc]
    · have h1 := okS_bed hW (t := t) (b := Λ 0 0 - 1 - (n : Int)) (by omega) ho (by omega) (cs_1 hc).1
      have hg : bbG Λ s T p t (Λ 0 0 - 1 - (n : Int)) = bbG Λ s T' p t (Λ 0 0 - 1 - (n : Int)) := by
        unfold bbG
        rw [h _ h1.2.1 h1.2.2 h1.1]
      rw [if_neg hc, if_neg hc, hg]
theorem lodge_eq {Λ : Mm} {s T T' : Int → Int} (hW : WL Λ) (h : LodgeOK Λ s T) (h' : LodgeOK Λ s T') : ∀ (k : Nat) (p : Int), 0 ≤ p → p + (k : Int) = Λ 0 1 → ∀ u, 0 ≤ u → u ≤ abI Λ (Λ 0 0).toNat → okS Λ u → T (p * 512 + u) = T' (p * 512 + u)
  | 0, p, hp, hk, u, u1, u2, uo => by
    rw [(h p hp (by omega) u u1 u2 uo).1, (h' p hp (by omega) u u1 u2 uo).1, if_pos (by omega), if_pos (by omega)]
  | k + 1, p, hp, hk, u, u1, u2, uo => by
    have hn := hW.1
    rw [(h p hp (by omega) u u1 u2 uo).1, (h' p hp (by omega) u u1 u2 uo).1, if_neg (by omega), if_neg (by omega), bb_eq hW (lodge_eq hW h h' k (p + 1) (by omega) (by omega)) ⟨u1, u2⟩ uo (Λ 0 0).toNat (by omega)]
theorem bb_all {Λ : Mm} {s T T' : Int → Int} (hW : WL Λ) (h : LodgeOK Λ s T) (h' : LodgeOK Λ s T') {p t : Int} (hp : 0 ≤ p ∧ p < Λ 0 1) (ht : 0 ≤ t ∧ t ≤ abI Λ (Λ 0 0).toNat) (ho : okS Λ t) : bbN Λ s T p t (Λ 0 0).toNat = bbN Λ s T' p t (Λ 0 0).toNat := by
  have hn := hW.1
  exact bb_eq hW (lodge_eq hW h h' (Λ 0 1 - (p + 1)).toNat (p + 1) (by omega) (by omega)) ht ho _ (by omega)
theorem tb_z {Λ : Mm} {s T : Int → Int} : tbN Λ s T 0 = (0, 0, 0) := rfl
theorem tb_s {Λ : Mm} {s T : Int → Int} {n : Nat} : tbN Λ s T (n + 1) = tkS Λ s T (n : Int) (tbN Λ s T n) := rfl
theorem tk_eq {Λ : Mm} {s T T' : Int → Int} {p : Int} {q : Int × Int × Int} (h : bbN Λ s T p q.1 (Λ 0 0).toNat = bbN Λ s T' p q.1 (Λ 0 0).toNat) : tkS Λ s T p q = tkS Λ s T' p q := by
  unfold tkS
  rw [h]
theorem tb_eq {Λ : Mm} {s T T' : Int → Int} (hW : WL Λ) (h : LodgeOK Λ s T) (h' : LodgeOK Λ s T') (n : Nat) : (n : Int) ≤ Λ 0 1 → tbN Λ s T n = tbN Λ s T' n := by
  induction n with
  | zero => intro _; rw [tb_z, tb_z]
  | succ n ih =>
    intro hn
    have hr := tbN_rg hW h' n (by omega)
    rw [tb_s, tb_s, ih (by omega)]
    exact tk_eq (bb_all hW h h' (by omega) hr.1.1 hr.1.2)
theorem bd_eq {Λ : Mm} {s T T' : Int → Int} (hW : WL Λ) (h : LodgeOK Λ s T) (h' : LodgeOK Λ s T') {p : Int} (hp : 0 ≤ p ∧ p < Λ 0 1) : bdP Λ s T p = bdP Λ s T' p := by
  have hr := tbN_rg hW h' p.toNat (by omega)
  unfold bdP
  rw [tb_eq hW h h' p.toNat (by omega), bb_all hW h h' hp hr.1.1 hr.1.2]
theorem nx_eq {Λ : Mm} {s T T' : Int → Int} {t a : Int} (h : ∀ z, 0 ≤ z → z < Λ 0 0 → bAnd (bShr t z) 1 = 0 → T (bOr t (bShl 1 z) * 9 + z) = T' (bOr t (bShl 1 z) * 9 + z)) : ∀ n : Nat, (n : Int) ≤ Λ 0 0 → nxN Λ s T t a n = nxN Λ s T' t a n
  | 0, _ => rfl
  | n + 1, hn => by
    have e : nxN Λ s T t a (n + 1) = nxS Λ s T t a (n : Int) (nxN Λ s T t a n) := rfl
    have e' : nxN Λ s T' t a (n + 1) = nxS Λ s T' t a (n : Int) (nxN Λ s T' t a n) := rfl
    rw [e, e', nx_eq h n (by omega)]
    unfold nxS
    by_cases hb : bAnd (bShr t (n : Int)) 1 = 0
    · have hc : coP Λ s T t a (n : Int) = coP Λ s T' t a (n : Int) := by
        unfold coP
        rw [h (n : Int) (by omega) (by omega) hb]
      rw [hc]
    · rw [if_neg (fun h9 => hb h9.1), if_neg (fun h9 => hb h9.1)]
theorem up_in {Λ : Mm} {t z : Int} (hn9 : 0 ≤ Λ 0 0 ∧ Λ 0 0 ≤ 9) (ht : 0 ≤ t ∧ t < ((2 ^ (Λ 0 0).toNat : Nat) : Int)) (ho : t % 2 = 1) (h1 : 0 ≤ z) (h2 : z < Λ 0 0) (hb : bAnd (bShr t z) 1 = 0) : t < bOr t (bShl 1 z) ∧ bOr t (bShl 1 z) < ((2 ^ (Λ 0 0).toNat : Nat) : Int) ∧ bOr t (bShl 1 z) % 2 = 1 ∧ bAnd (bShr (bOr t (bShl 1 z)) z) 1 = 1 := by
  have hu := bor_up (t := t.toNat) (z := z.toNat) (n := (Λ 0 0).toNat) (by omega) (by omega) (by omega) (by rw [show ((t.toNat : Nat) : Int) = t by omega, show ((z.toNat : Nat) : Int) = z by omega]; exact hb) (by omega)
  rw [show ((t.toNat : Nat) : Int) = t by omega, show ((z.toNat : Nat) : Int) = z by omega] at hu
  exact ⟨by omega, hu.2.1, hu.2.2.1, hu.2.2.2⟩
theorem tour_eq {Λ : Mm} {s T T' : Int → Int} (hW : WL Λ) (h : TourOK Λ s T 0) (h' : TourOK Λ s T' 0) : ∀ (k : Nat) (t : Int), 0 < t → whl Λ ≤ t + (k : Int) → t ≤ whl Λ → t % 2 = 1 → ∀ a, 0 ≤ a → a < Λ 0 0 → bAnd (bShr t a) 1 = 1 → T (t * 9 + a) = T' (t * 9 + a)
  | 0, t, t0, hk, t1, to, a, a1, a2, ab => by
    rw [(h t t0 t1 to a a1 a2 ab).1, (h' t t0 t1 to a a1 a2 ab).1, if_pos (by omega), if_pos (by omega)]
  | k + 1, t, t0, hk, t1, to, a, a1, a2, ab => by
    have hn := hW.1
    rw [(h t t0 t1 to a a1 a2 ab).1, (h' t t0 t1 to a a1 a2 ab).1]
    by_cases e : t = whl Λ
    · rw [if_pos e, if_pos e]
    · rw [if_neg e, if_neg e, nx_eq (fun z z1 z2 zb => by
        have hu := up_in (Λ := Λ) hn ⟨by omega, by unfold whl at t1; omega⟩ to z1 z2 zb
        exact tour_eq hW h h' k _ (by omega) (by omega) (by unfold whl; omega) hu.2.2.1 z z1 z2 hu.2.2.2) (Λ 0 0).toNat (by omega)]
theorem tour_9 {Λ : Mm} {s T T' : Int → Int} (hW : WL Λ) (h : TourOK Λ s T 0) (h' : TourOK Λ s T' 0) (h0 : 0 < Λ 0 0) : T 9 = T' 9 := by
  have : 2 ^ 1 ≤ 2 ^ (Λ 0 0).toNat := Nat.pow_le_pow_right (by decide) (by omega)
  exact tour_eq hW h h' (whl Λ).toNat 1 (by decide) (by unfold whl; omega) (by unfold whl; omega) (by decide) 0 (by decide) h0 (by decide)
theorem tsn_z {Λ : Mm} {s T : Int → Int} : tsN Λ s T 0 = (1, 0) := rfl
theorem tsn_s {Λ : Mm} {s T : Int → Int} {n : Nat} : tsN Λ s T (n + 1) = tsS Λ s T (tsN Λ s T n) := rfl
theorem tss_eq {Λ : Mm} {s T T' : Int → Int} {q : Int × Int} (h : nxN Λ s T q.1 q.2 (Λ 0 0).toNat = nxN Λ s T' q.1 q.2 (Λ 0 0).toNat) : tsS Λ s T q = tsS Λ s T' q := by
  unfold tsS
  rw [h]
theorem nx_all {Λ : Mm} {s T T' : Int → Int} (hW : WL Λ) (h : TourOK Λ s T 0) (h' : TourOK Λ s T' 0) {t a : Int} (ht : 1 ≤ t ∧ t < ((2 ^ (Λ 0 0).toNat : Nat) : Int)) (ho : t % 2 = 1) : nxN Λ s T t a (Λ 0 0).toNat = nxN Λ s T' t a (Λ 0 0).toNat := by
  have hn := hW.1
  exact nx_eq (fun z z1 z2 zb => by
    have hu := up_in (Λ := Λ) hn ⟨by omega, ht.2⟩ ho z1 z2 zb
    exact tour_eq hW h h' (whl Λ).toNat _ (by omega) (by omega) (by unfold whl; omega) hu.2.2.1 z z1 z2 hu.2.2.2) (Λ 0 0).toNat (by omega)
theorem ts_eq {Λ : Mm} {s T T' : Int → Int} (hW : WL Λ) (h : TourOK Λ s T 0) (h' : TourOK Λ s T' 0) (h0 : 0 < Λ 0 0) (n : Nat) : tsN Λ s T n = tsN Λ s T' n := by
  induction n with
  | zero => rw [tsn_z, tsn_z]
  | succ n ih =>
    have hr := tsN_rg hW h' h0 n
    rw [tsn_s, tsn_s, ih]
    exact tss_eq (nx_all hW h h' hr.1 hr.2.1)
