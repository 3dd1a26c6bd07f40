/-! THE ABSTRACT MACHINE (x_): values, memory, world. A value: an int, a long, or a cell's number (none: null). -/
def x_tbl : List Cond := lw_tbl.filter goodWord
theorem x_in {w : Cond} (i : Nat) (h : lw_tbl[i]? = some w) (g : goodWord w = true) : w ∈ x_tbl := List.mem_filter.mpr ⟨List.mem_of_getElem? h, g⟩
theorem x_good : ∀ w ∈ x_tbl, goodWord w = true := fun _ h => (List.mem_filter.mp h).2
abbrev XV : Type := Int ⊕ (Int ⊕ Option Nat)
abbrev xI (x : Int) : XV := Sum.inl x
abbrev xL (x : Int) : XV := Sum.inr (Sum.inl x)
abbrev xR (o : Option Nat) : XV := Sum.inr (Sum.inr o)
/-- a cell's shape: an object (number of its class, its final fields' values; none: a field that is an int and changes), or an array (kind, length) -/
abbrev XS : Type := (Nat × List (Option XV)) ⊕ (Nat × Nat)
/-- the memory: shapes, and the numbers in the cells -/
abbrev XM : Type := List XS × (Nat → Nat → Int)
abbrev XRes : Type := Option XV ⊕ String
/-- a method: name, bytes, locals, what it returns, its room -/
abbrev XY : Type := MethodName × ByteArray × Nat × Option FieldType × Room
/-- where the cells lie: address, and an array's class -/
abbrev XAA : Type := List (Nat × ClassId)
def w32 (z : Int) : Int := (z + 2147483648) % 4294967296 - 2147483648
def w64 (z : Int) : Int := (z + 9223372036854775808) % 18446744073709551616 - 9223372036854775808
def x_r32 (z : Int) : Prop := -2147483648 ≤ z ∧ z < 2147483648
def x_r64 (z : Int) : Prop := -9223372036854775808 ≤ z ∧ z < 9223372036854775808
def x_ad (aa : XAA) (i : Nat) : Nat := match aa[i]? with
  | some q => q.1
  | none => 0
def x_cl (aa : XAA) (i : Nat) : ClassId := match aa[i]? with
  | some q => q.2
  | none => 0
def x_cv (aa : XAA) : XV → Value
  | .inl x => .int (Int32.ofInt x)
  | .inr (.inl x) => .long (Int64.ofInt x)
  | .inr (.inr none) => .null
  | .inr (.inr (some i)) => .ref (x_ad aa i)
def x_ok (n : Nat) : XV → Prop
  | .inl x => x_r32 x
  | .inr (.inl x) => x_r64 x
  | .inr (.inr none) => True
  | .inr (.inr (some i)) => i < n
def x_rf (aa : XAA) (z : Int) : Option Nat := if z ≤ 0 then none else some (x_ad aa (z - 1).toNat)
def x_fv (aa : XAA) (fin : List (Option XV)) (g : Nat → Int) (k : Nat) : Value := match fin[k]? with
  | some (some v) => x_cv aa v
  | _ => .int (Int32.ofInt (g k))
def x_flds (aa : XAA) (fin : List (Option XV)) (g : Nat → Int) : List Value := (List.range fin.length).map (x_fv aa fin g)
def x_arr (aa : XAA) (kd len : Nat) (g : Nat → Int) : vp_A := (len, match kd with
  | 0 => .inl (fun j => Int32.ofInt (g j))
  | 1 => .inr (.inl (fun j => Int64.ofInt (g j)))
  | 2 => .inl (fun j => Int32.ofInt (g j))
  | _ => .inr (.inr (.inr (.inr (fun j => x_rf aa (g j))))))
def x_ty (kd : Nat) : FieldType := match kd with
  | 0 => .int
  | 1 => .long
  | 2 => .boolean
  | _ => .object "SmokeTubes$Table"
def x_ent (aa : XAA) (σ : XM) (i : Nat) : va_E := match σ.1[i]? with
  | some (.inl o) => .inr (o.1, x_flds aa o.2 (σ.2 i))
  | some (.inr a) => .inl (x_cl aa i, x_arr aa a.1 a.2 (σ.2 i))
  | none => .inr (0, [])
def x_ws (aa : XAA) (σ : XM) : va_W := (List.range σ.1.length).map (fun i => (x_ad aa i, x_ent aa σ i))
def x_K (aa : XAA) (S : List XS) (D : va_G) (s : State) : Prop := (∀ (c : Nat) (q : vw_C), vwCl[c]? = some q → u_Kn s q.1 q.2.1 q.2.2 (D.1 c) (D.2 c)) ∧ ∀ (i : Nat) (a : Nat × Nat), S[i]? = some (.inr a) → ArrOfT s (x_cl aa i) (x_ty a.1) ∧ va_RA s (x_cl aa i) (x_ty a.1)
def x_World (D : va_G) (aa : XAA) (σ : XM) (A : Nat → Prop) (s : State) (H : Heap) : Prop := aa.length = σ.1.length ∧ x_K aa σ.1 D s ∧ va_P D vwCl (x_ws aa σ) H ∧ va_D A (x_ws aa σ)
def x_okE (n kd : Nat) (z : Int) : Prop := match kd with
  | 0 => x_r32 z
  | 1 => x_r64 z
  | 2 => z = 0 ∨ z = 1
  | _ => 0 ≤ z ∧ z ≤ n
def x_okC (n : Nat) (sh : XS) (g : Nat → Int) : Prop := match sh with
  | .inl o => (∀ (k : Nat) (v : XV), o.2[k]? = some (some v) → x_ok n v) ∧ (∀ k, x_r32 (g k)) ∧ ∃ q : vw_C, vwCl[o.1]? = some q ∧ o.2.length = q.2.2
  | .inr a => a.2 < 2147483648 ∧ ∀ j, x_okE n a.1 (g j)
def x_okM (σ : XM) : Prop := ∀ (i : Nat) (sh : XS), σ.1[i]? = some sh → x_okC σ.1.length sh (σ.2 i)
/-- one number changed -/
def x_up (σ : XM) (i j : Nat) (z : Int) : XM := (σ.1, fun a b => if a = i ∧ b = j then z else σ.2 a b)
/-- the locals as the machine has them -/
def x_L (aa : XAA) (ls : Array Slot) (n : Nat) (lv : List (Option XV)) : Prop := ls.size = n ∧ lv_wf ls ∧ ∀ (k : Nat) (v : XV), lv[k]? = some (some v) → ls[k]? = some (.val (x_cv aa v))
def x_pairs (aa : XAA) (lv : List (Option XV)) : List (Nat × Value) := (List.range lv.length).filterMap (fun k => match lv[k]? with
  | some (some v) => some (k, x_cv aa v)
  | _ => none)
def x_kill (lv : List (Option XV)) (i : Nat) : List (Option XV) := match i with
  | 0 => lv
  | j + 1 => match lv[j]? with
    | some (some (.inr (.inl _))) => lv.set j none
    | _ => lv
def x_st1 (lv : List (Option XV)) (i : Nat) (v : XV) : List (Option XV) := (x_kill lv i).set i (some v)
def x_st2 (lv : List (Option XV)) (i : Nat) (v : XV) : List (Option XV) := ((x_kill lv i).set i (some v)).set (i + 1) none
/-- words that are carried along by themselves -/
def x_X (s : State) : Prop := (∀ w ∈ x_nw, va_Nw w s) ∧ (∀ q ∈ x_str, ∃ a, vk_R q.1 q.2.1 q.2.2 a s) ∧ (∀ q ∈ x_nc, va_Nc q.1 q.2 s) ∧ va_AO "SmokeTubes$Table" s
def x_kw : Cond → Bool
  | .castable _ _ => true
  | .declares _ => true
  | .methodLinkNest _ _ _ _ => true
  | _ => false
theorem x_nw_k : ∀ w ∈ x_nw, x_kw w = true := by decide +kernel
theorem x_kw_warm {w : Cond} (h : x_kw w = true) {s U : State} (hW : s.WarmedH U.vm) (hZ : va_Nw w s) : va_Nw w U := by
  cases w <;> first | exact va_Nw.warmC hW hZ | exact va_Nw.warmD hW hZ | exact va_Nw.warmM hW hZ | (cases h)
theorem x_X.warm {s U : State} (hW : s.WarmedH U.vm) (h : x_X s) : x_X U := by
  refine ⟨fun w hw => x_kw_warm (x_nw_k w hw) hW (h.1 w hw), fun q hq => ?_, fun q hq => (h.2.2.1 q hq).moved hW.alike, h.2.2.2.moved hW.alike⟩
  obtain ⟨a, ha⟩ := h.2.1 q hq
  exact ⟨a, ha.warm hW⟩
/-- what a throw needs of the JDK's own statics -/
def x_E (A : Nat → Prop) (s : State) (H : Heap) : Prop := vx_Zq Bundle.tN "UNASSIGNED_STACK" Bundle.steD A s H ∧ vx_Zq Bundle.tN "SUPPRESSED_SENTINEL" Bundle.listD A s H ∧ x_X s
def x_C (y : XY) (p : Program) (l : Launch) (s : State) (m : MethodId) (args : Array Value) (meth : Method) (c : Code) (A : Nat → Prop) : Prop :=
  p.tables.exec = Jvm.exec ∧ c.code = y.2.1 ∧ meth.sig.returnType = y.2.2.2.1 ∧ c.maxLocals = y.2.2.1 ∧ s.vm.findClass y.1.cls = some m.cls ∧ (∀ w ∈ x_tbl, w.before args s = true) ∧ meth.locks = false ∧ c.exceptionTable.toList = tableOf (x_tab y.1) ∧ l.stackTraces = false ∧ meth.name = y.1.name ∧ x_E A s s.heap ∧ ∀ q : Nat, s.heap.size ≤ q → A q
def x_Qc (Q : XRes → XM → Prop) (D : va_G) (aa0 : XAA) (A : Nat → Prop) : Array Value → State → Outcome → State → Prop := fun _ st o t =>
  ∃ (v : Option XV) (σ : XM) (aa : XAA), o = .returned (v.map (x_cv aa)) ∧ Q (.inl v) σ ∧ aa0 <+: aa ∧ x_World D aa σ A t t.heap ∧ (∀ w, v = some w → x_ok σ.1.length w) ∧ x_okM σ ∧ va_F A st t
def x_XC (Q : XRes → XM → Prop) (D : va_G) (aa0 : XAA) (A : Nat → Prop) : String → State → State → Prop := fun E st t =>
  ∃ (σ : XM) (aa : XAA), Q (.inr E) σ ∧ aa0 <+: aa ∧ x_World D aa σ A t t.heap ∧ x_okM σ ∧ va_F A st t
/-- FROM HERE ON, IN THIS METHOD: at pc, with these locals, this stack, this memory, so many cells and slots made: the method comes to its end, with Q -/
def x_A (y : XY) (pc : Nat) (lv : List (Option XV)) (st : List XV) (σ : XM) (kc ks : Nat) (Q : XRes → XM → Prop) : Prop :=
  (∀ v ∈ st, x_ok σ.1.length v) → (∀ (k : Nat) (v : XV), lv[k]? = some (some v) → x_ok σ.1.length v) → x_okM σ →
  ∀ (p : Program) (l : Launch) (e : Env) (s : State) (m : MethodId) (args : Array Value) (below : List Frame) (meth : Method) (c : Code) (A : Nat → Prop) (D : va_G) (aa0 aa : XAA) (H : Heap) (locs : List Loc) (ls : Array Slot),
    x_C y p l s m args meth c A → aa0 <+: aa → x_World D aa σ A s H → va_S A s.heap H locs → x_L aa ls y.2.2.1 lv →
    W p l e y.2.2.2.2 s m args below meth c H locs kc ks (vx_MQ below (x_Qc Q D aa0 A) (x_XC Q D aa0 A) args s y.2.2.2.2.cells y.2.2.2.2.slots A) (F0 m pc ls (st.map (x_cv aa)))
def x_wsM (y : XY) : List Cond := Cond.code y.1 y.2.1 y.2.2.1 y.2.2.2.1 :: x_tbl
/-- A METHOD'S CONTRACT: called with these arguments in this memory it comes to its end, with Q -/
def x_M (y : XY) (as : List XV) (σ : XM) (Q : XRes → XM → Prop) : Prop :=
  (∀ v ∈ as, x_ok σ.1.length v) → x_okM σ → ∀ (l : Launch) (D : va_G) (aa : XAA) (sz : Nat), l.stackTraces = false →
    vx_Met l y.1 (x_wsM y) y.2.2.2.2 (va_Pc (as.map (x_cv aa)) (fun U => U.heap.size = sz ∧ x_World D aa σ (va_A (x_ws aa σ) sz) U U.heap ∧ x_E (va_A (x_ws aa σ) sz) U U.heap)) (x_Qc Q D aa (va_A (x_ws aa σ) sz)) (x_XC Q D aa (va_A (x_ws aa σ) sz)) y.2.2.2.2.cells y.2.2.2.2.slots (va_A (x_ws aa σ) sz)
