/-! A LOGIC OVER NUMBERED CELLS. A cell of the program has a number 1, 2 .. (its order of making); a memory gives each cell's places as integers; what the machine holds there are those integers, wrapped, or the address of the cell of that number. gT: from this point of this method the machine comes to the method's end with R. gE: the same of a whole call. -/
abbrev VV : Type := Nat × Int
abbrev Mm : Type := Int → Int → Int
abbrev Kd : Type := Nat ⊕ (Nat × Nat)
/-- classes, slots, classes of arrays, addresses that no program makes, the script's length, the script -/
abbrev Gh : Type := (Nat → ClassId) × (Nat → Nat → Nat) × (Nat → ClassId) × (Nat → Nat) × Nat × (Nat → Int32)
abbrev MD : Type := MethodName × ByteArray × Nat × Option FieldType × List (Nat × Nat × Nat × Nat)
def vI (x : Int) : VV := (0, x)
def vL (x : Int) : VV := (1, x)
def vR (x : Int) : VV := (2, x)
def g_sp (γ : Gh) : Nat → Nat := γ.2.2.2.1
def g_D (γ : Gh) : va_G := (γ.1, γ.2.1)
def g_cA (γ : Gh) (i : Nat) : ClassId := γ.2.2.1 i
def rv (γ : Gh) (ad : Nat → Nat) (x : Int) : Value := if x = 0 then .null else if x < 0 then .ref (g_sp γ (-x).toNat) else .ref (ad x.toNat)
def tv (γ : Gh) (ad : Nat → Nat) : VV → Value
  | (0, x) => .int (Int32.ofInt x)
  | (1, x) => .long (Int64.ofInt x)
  | (_, x) => rv γ ad x
theorem tv_I (γ : Gh) (ad : Nat → Nat) (x : Int) : tv γ ad (vI x) = .int (Int32.ofInt x) := rfl
theorem tv_L (γ : Gh) (ad : Nat → Nat) (x : Int) : tv γ ad (vL x) = .long (Int64.ofInt x) := rfl
theorem tv_R (γ : Gh) (ad : Nat → Nat) (x : Int) : tv γ ad (vR x) = rv γ ad x := rfl
theorem rv_pos {γ : Gh} {ad : Nat → Nat} {x : Int} (h : 0 < x) : rv γ ad x = .ref (ad x.toNat) := by
  unfold rv
  rw [if_neg (by omega), if_neg (by omega)]
theorem rv_neg {γ : Gh} {ad : Nat → Nat} {x : Int} (h : x < 0) : rv γ ad x = .ref (g_sp γ (-x).toNat) := by
  unfold rv
  rw [if_neg (by omega), if_pos h]
theorem rv_cat (γ : Gh) (ad : Nat → Nat) (x : Int) : (rv γ ad x).category = 1 := by
  unfold rv
  split
  · rfl
  · split <;> rfl
/-- the kinds of fields: 0 an int, 1 a long, 2 a reference -/
def g_tag : FieldType → Nat
  | .long => 1
  | .object _ => 2
  | .array _ => 2
  | _ => 0
def g_ft (c k : Nat) : Nat := match vwCl[c]? with
  | some q => match parseFieldDescriptor (q.2.1 k).2.2.1 with
    | some t => g_tag t
    | none => 0
  | none => 0
def g_nF (c : Nat) : Nat := match vwCl[c]? with
  | some q => q.2.2
  | none => 0
/-- ints lie in the one memory, references and longs of fields in the other -/
def g_rd (ρ m : Mm) (t : Nat) (r k : Int) : Int := if t = 0 then m r k else ρ r k
def g_fs (γ : Gh) (ad : Nat → Nat) (ρ m : Mm) (r : Int) (c : Nat) : List Value := (List.range (g_nF c)).map fun k => tv γ ad (g_ft c k, g_rd ρ m (g_ft c k) r k)
def g_ce (γ : Gh) (ad : Nat → Nat) (ρ m : Mm) (r : Int) : Kd → va_E
  | .inl c => .inr (c, g_fs γ ad ρ m r c)
  | .inr (0, n) => .inl (g_cA γ 0, n, .inl fun j => Int32.ofInt (m r j))
  | .inr (1, n) => .inl (g_cA γ 1, n, .inl fun j => Int32.ofInt (m r j))
  | .inr (_, n) => .inl (g_cA γ 2, n, .inr (.inl fun j => Int64.ofInt (m r j)))
def g_ws (γ : Gh) (ad : Nat → Nat) (K : List Kd) (ρ m : Mm) : va_W := (List.range K.length).map fun i => (ad (i + 1), g_ce γ ad ρ m ((i : Int) + 1) (K.getD i (.inl 0)))
def g_tys (γ : Gh) : List (ClassId × FieldType) := [(g_cA γ 0, .int), (g_cA γ 1, .boolean), (g_cA γ 2, .long)]
/-- the tables' words that every call keeps; those that speak of nest mates -/
def g_TS : List Cond := lw_tbl.filter goodWord
def g_isN : Cond → Bool
  | .fieldLinkNest .. => true
  | .methodLinkNest .. => true
  | .castable .. => true
  | .declares _ => true
  | _ => false
def g_NS : List Cond := tables_1.filter g_isN
def g_isS : Cond → Bool
  | .stringRef .. => true
  | _ => false
/-- the strings that the program holds: own class, entry, text -/
def g_st : List (String × Nat × String) := tables_1.filterMap fun w => match w with
  | .stringRef o k t => some (o, k, t)
  | _ => none
def g_len : List Nat := g_st.map fun q => q.2.2.length
def g_byt : List (List Int32) := g_st.map fun q => q.2.2.toList.map fun c => Int32.ofNat c.toNat
/-- a place's string is special address 2 + 2 i, its bytes 3 + 2 i -/
def g_FS (γ : Gh) (A : Nat → Prop) (U : State) (H : Heap) : Prop :=
  (∀ (i : Nat) (q : String × Nat × String), g_st[i]? = some q → vk_R q.1 q.2.1 q.2.2 (g_sp γ (2 + 2 * i)) U) ∧ vk_S g_st.length g_len g_byt (fun i => g_sp γ (2 + 2 * i)) (fun i => g_sp γ (3 + 2 * i)) A U H
/-- what the whole run leaves as it is -/
def g_Fx (γ : Gh) (A : Nat → Prop) (U : State) (H : Heap) : Prop :=
  va_K (g_D γ) vwCl (g_tys γ) U ∧ (∀ w ∈ g_NS, va_Nw w U) ∧ vx_Zq Bundle.tN "UNASSIGNED_STACK" Bundle.steD A U H ∧ vx_Zq Bundle.tN "SUPPRESSED_SENTINEL" Bundle.listD A U H ∧
  (va_X (g_sp γ 1) γ.2.2.2.2.1 γ.2.2.2.2.2 U H ∧ ¬ A (g_sp γ 1) ∧ g_sp γ 1 < H.size) ∧
  (va_Z "java/lang/String" "COMPACT_STRINGS" "Z" (.int 1) A U H ∧ (va_Z "jdk/internal/util/Preconditions" "SIOOBE_FORMATTER" "Ljava/util/function/BiFunction;" .null A U H ∨ va_Z "jdk/internal/util/Preconditions" "SIOOBE_FORMATTER" "Ljava/util/function/BiFunction;" (.ref (g_sp γ 1000)) A U H)) ∧ g_FS γ A U H ∧ va_Nc "java/lang/IllegalArgumentException" "java/util/NoSuchElementException" U
theorem g_Fx.moved {γ : Gh} {A : Nat → Prop} {u U : State} {H : Heap} (hW : u.WarmedH U.vm) (h : g_Fx γ A u H) : g_Fx γ A U H := by
  obtain ⟨h1, h2, h3, h4, ⟨h5, h6⟩, ⟨h7, h8⟩, ⟨h9, h10⟩, h11⟩ := h
  have ha := hW.alike
  refine ⟨va_K.moved ha h1, fun w hw => ?_, h3.moved ha, h4.moved ha, ⟨h5.moved ha, h6⟩, ⟨h7.moved ha, h8.imp (fun z => z.moved ha) (fun z => z.moved ha)⟩, ⟨fun i q hq => (h9 i q hq).warm hW, h10.moved ha⟩, h11.moved ha⟩
  have hn : g_isN w = true := (List.mem_filter.mp hw).2
  have hz := h2 w hw
  cases w <;> first | exact va_Nw.warmF hW hz | exact va_Nw.warmM hW hz | exact va_Nw.warmC hW hz | exact va_tabs rfl (rfl : (u.setVm U.vm).vm = U.vm) (by rw [Cond.declares_setVm hW.alike]; exact hz) | cases hn
theorem g_Fx.kept {γ : Gh} {A : Nat → Prop} {U : State} {H H1 : Heap} (hz : H.size ≤ H1.size) (hq : ∀ a : Nat, a < H.size → ¬ A a → H1[a]? = H[a]?) (h : g_Fx γ A U H) : g_Fx γ A U H1 := by
  obtain ⟨h1, h2, h3, h4, ⟨h5, h6, h6'⟩, ⟨h7, h8⟩, ⟨h9, h10⟩, h11⟩ := h
  exact ⟨h1, h2, h3.kept hq, h4.kept hq, ⟨h5.kept (hq _ h6' h6), h6, Nat.lt_of_lt_of_le h6' hz⟩, ⟨h7.kept hq, h8.imp (fun z => z.kept hq) (fun z => z.kept hq)⟩, ⟨h9, h10.kept hq⟩, h11⟩
theorem g_Fx.narrow {γ : Gh} {A B : Nat → Prop} {U : State} {H : Heap} (hAB : ∀ q, B q → A q) (h : g_Fx γ A U H) : g_Fx γ B U H := by
  obtain ⟨h1, h2, h3, h4, ⟨h5, h6, h6'⟩, ⟨h7, h8⟩, ⟨h9, h10⟩, h11⟩ := h
  exact ⟨h1, h2, h3.narrow hAB, h4.narrow hAB, ⟨h5, fun z => h6 (hAB _ z), h6'⟩, ⟨h7.narrow hAB, h8.imp (fun z => z.narrow hAB) (fun z => z.narrow hAB)⟩, ⟨h9, h10.narrow hAB⟩, h11⟩
theorem g_Fx.blind {γ : Gh} {A : Nat → Prop} {U : State} {g : JFrame} {mk : MethodId} {a : Array Value} {H : Heap} (h : g_Fx γ A U H) : g_Fx γ A (U.calling g mk a) H :=
  h.moved (show U.WarmedH (U.calling g mk a).vm from State.WarmedH.refl U)
/-- the room of a call that stands d calls over what it calls -/
def g_rm (d mc ms : Nat) : Room := { frames := d, cells := mc, slots := ms, locals := 60 * d }
/-- what a call may change: the program's cells, and what is made in it -/
def g_A (ad : Nat → Nat) (K : List Kd) (sz : Nat) : Nat → Prop := fun q => (∃ i : Nat, i < K.length ∧ q = ad (i + 1)) ∨ sz ≤ q
def g_Ex (K0 : List Kd) (ad0 : Nat → Nat) (K : List Kd) (ad : Nat → Nat) : Prop := (∃ K1, K = K0 ++ K1) ∧ ∀ i : Nat, i ≤ K0.length ∨ K.length < i → ad i = ad0 i
theorem g_Ex.rf {K0 : List Kd} {ad0 : Nat → Nat} : g_Ex K0 ad0 K0 ad0 := ⟨⟨[], by simp⟩, fun _ _ => rfl⟩
theorem g_Ex.tr {K0 K1 K2 : List Kd} {a0 a1 a2 : Nat → Nat} (h : g_Ex K0 a0 K1 a1) (k : g_Ex K1 a1 K2 a2) : g_Ex K0 a0 K2 a2 := by
  obtain ⟨⟨x, rfl⟩, h2⟩ := h
  obtain ⟨⟨y, rfl⟩, k2⟩ := k
  refine ⟨⟨x ++ y, by simp⟩, fun i hi => ?_⟩
  simp only [List.length_append] at *
  rw [k2 i (by omega), h2 i (by omega)]
theorem g_Ex.same {K0 : List Kd} {a0 a1 : Nat → Nat} (h : g_Ex K0 a0 K0 a1) : a1 = a0 := funext fun i => h.2 i (by omega)
abbrev RR : Type := Option VV → List Kd → Mm → Mm → Prop
abbrev XX : Type := String → List Kd → Mm → Mm → Prop
def g_Qc (γ : Gh) (R : RR) (K0 : List Kd) (ad0 : Nat → Nat) (A : Nat → Prop) : Array Value → State → Outcome → State → Prop := fun _ st o t =>
  (∃ (v : Option VV) (K : List Kd) (ρ m : Mm) (ad : Nat → Nat), o = .returned (v.map (tv γ ad)) ∧ R v K ρ m ∧ g_Ex K0 ad0 K ad ∧ va_P (g_D γ) vwCl (g_ws γ ad K ρ m) t.heap ∧ va_D A (g_ws γ ad K ρ m)) ∧ va_F A st t
def g_Xc (γ : Gh) (X : XX) (K0 : List Kd) (ad0 : Nat → Nat) (A : Nat → Prop) : String → State → State → Prop := fun E st t =>
  (∃ (K : List Kd) (ρ m : Mm) (ad : Nat → Nat), X E K ρ m ∧ g_Ex K0 ad0 K ad ∧ va_P (g_D γ) vwCl (g_ws γ ad K ρ m) t.heap ∧ va_D A (g_ws γ ad K ρ m)) ∧ va_F A st t
/-- what stands fixed while a method runs -/
def g_Cx (l : Launch) (γ : Gh) (μ : MD) (p : Program) (s : State) (mth : MethodId) (args : Array Value) (meth : Method) (c : Code) (A : Nat → Prop) : Prop :=
  p.tables.exec = Jvm.exec ∧ c.code = μ.2.1 ∧ meth.sig.returnType = μ.2.2.2.1 ∧ c.maxLocals = μ.2.2.1 ∧ meth.locks = false ∧ s.vm.findClass μ.1.cls = some mth.cls ∧ meth.name = μ.1.name ∧ c.exceptionTable.toList = tableOf μ.2.2.2.2 ∧ (∀ w ∈ g_TS, w.before args s = true) ∧ (∀ q : Nat, s.heap.size ≤ q → A q) ∧ g_Fx γ A s s.heap ∧ l.stackTraces = false
/-- what a frame's local variables hold, as far as it is known -/
def g_ls (γ : Gh) (ad : Nat → Nat) (ls : List (Option VV)) : List (Nat × Value) := ls.zipIdx.filterMap fun q => q.1.map fun v => (q.2, tv γ ad v)
def gT (l : Launch) (γ : Gh) (μ : MD) (d cb sb : Nat) (R : RR) (X : XX) (K : List Kd) (ρ m : Mm) (pc : Nat) (ls : List (Option VV)) (st : List VV) : Prop :=
  ∀ (p : Program) (e : Env) (s : State) (mth : MethodId) (args : Array Value) (below : List Frame) (meth : Method) (c : Code) (A : Nat → Prop) (K0 : List Kd) (ad0 : Nat → Nat) (mc ms : Nat) (H : Heap) (locs : List Loc) (cells slots : Nat) (ad : Nat → Nat) (lsr : Array Slot),
    g_Cx l γ μ p s mth args meth c A → g_Ex K0 ad0 K ad → va_P (g_D γ) vwCl (g_ws γ ad K ρ m) H → va_D A (g_ws γ ad K ρ m) → va_S A s.heap H locs → cells + cb ≤ mc → slots + sb ≤ ms → lv_has lsr μ.2.2.1 (g_ls γ ad ls) →
    W p l e (g_rm d mc ms) s mth args below meth c H locs cells slots (vx_MQ below (g_Qc γ R K0 ad0 A) (g_Xc γ X K0 ad0 A) args s mc ms A) (F0 mth pc lsr (st.map (tv γ ad)))
def g_w0 (μ : MD) : Cond := match μ.2.2.2.2 with
  | [] => .code μ.1 μ.2.1 μ.2.2.1 μ.2.2.2.1
  | h :: t => .codeWith μ.1 μ.2.1 μ.2.2.1 μ.2.2.2.1 (h :: t)
def g_Pc (γ : Gh) (ad : Nat → Nat) (K : List Kd) (ρ m : Mm) (args : List VV) (sz : Nat) : Array Value → State → Prop := va_Pc (args.map (tv γ ad)) fun U => U.heap.size = sz ∧ va_P (g_D γ) vwCl (g_ws γ ad K ρ m) U.heap ∧ va_D (g_A ad K sz) (g_ws γ ad K ρ m) ∧ g_Fx γ (g_A ad K sz) U U.heap
def gE (l : Launch) (γ : Gh) (μ : MD) (d mc ms : Nat) (R : RR) (X : XX) (K : List Kd) (ρ m : Mm) (args : List VV) : Prop :=
  l.stackTraces = false → ∀ (ad : Nat → Nat) (sz : Nat), vx_Met l μ.1 (g_w0 μ :: g_TS) (g_rm d mc ms) (g_Pc γ ad K ρ m args sz) (g_Qc γ R K ad (g_A ad K sz)) (g_Xc γ X K ad (g_A ad K sz)) mc ms (g_A ad K sz)
theorem g_Pc_blind {γ : Gh} {ad : Nat → Nat} {K : List Kd} {ρ m : Mm} {args : List VV} {sz : Nat} : FrameBlind (g_Pc γ ad K ρ m args sz) := by
  intro a U g mk h
  obtain ⟨h1, h2, h3, h4, h5⟩ := h
  exact ⟨h1, h2, h3, h4, h5.blind⟩
/-- a normal end that makes no cell; an end by an exception that makes none of the program's; none -/
def rK (K : List Kd) (R : Option VV → Mm → Mm → Prop) : RR := fun v K' ρ m => K' = K ∧ R v ρ m
def xK (K : List Kd) (X : String → Mm → Mm → Prop) : XX := fun E K' ρ m => K' = K ∧ X E ρ m
def xN : XX := fun _ _ _ _ => False
