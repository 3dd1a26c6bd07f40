/-! a throw that is caught in the method itself -/
/-- a row of the table that doesn't take it: not there, or of a class that it isn't -/
def xq_pass (pl : Platform) (s₀ : State) (d : ClassId) (pc : Nat) (th : ClassId) (z : ExceptionTableEntry) : Prop := covers z pc = false ∨ (z.catchType ≠ 0 ∧ ∃ k, s₀.vm.ClassLinks pl d z.catchType k ∧ s₀.vm.assignable th k = false)
section XQ
variable {e : Env} {f : JFrame} {a : Addr} {ce : Cell}
/-- one row that covers and names a class: the class is looked up, then it takes or it doesn't -/
theorem xq_row {S : State} {x : ExceptionTableEntry} {t : List ExceptionTableEntry} {k : ClassId} {Q : Handler → Pre} {E : CtlPost} {d : Bool} {acts : List Action} (hx : covers x f.pc = true) (h0 : x.catchType ≠ 0)
    (hl : S.vm.ClassLinks e.platform f.method.cls x.catchType k) (hce : S.heap[a]? = some ce) (hob : ∀ z, ce.vm ≠ .statics z) (h1 : ∃ z, S.vm.classes[ce.cls]? = some z) (h2 : ∃ z, S.vm.classes[k]? = some z) (b : Bool) (hb : S.vm.assignable ce.cls k = b) :
    wp (findHandler.go f a (x :: t)) Q E e d acts S ↔ (if b = true then Q (.found x.handlerPc) d acts (S.setVm (S.vm.noted f.method.cls x.catchType (.cls k))) else wp (findHandler.go f a t) Q E e d acts (S.setVm (S.vm.noted f.method.cls x.catchType (.cls k)))) := by
  have g := (resolveClass_links e.toSetting hl).op (op := VmOp.resolveClass f.method.cls x.catchType) rfl
  have al : S.vm.Alike (S.vm.noted f.method.cls x.catchType (.cls k)) := Vm.Alike.noted (Vm.Alike.refl S.vm) _ _ _
  obtain ⟨z1, e1⟩ := h1
  obtain ⟨z2, e2⟩ := h2
  obtain ⟨y1, e3, -⟩ := al.2.2 _ _ e1
  obtain ⟨y2, e4, -⟩ := al.2.2 _ _ e2
  have e5 : (S.vm.noted f.method.cls x.catchType (.cls k)).assignable ce.cls k = b := (al.assignable _ _).trans hb
  simp only [covers] at hx
  cases b <;> simp [findHandler.go, hx, h0, g.1, g.2, hce, hob, e3, e4, e5, VmOp.dirties, VmOp.acts]
theorem xq_go {s₀ : State} (hob : ∀ z, ce.vm ≠ .statics z) (hk : ∃ z, s₀.vm.classes[ce.cls]? = some z) {x : ExceptionTableEntry} {suf : List ExceptionTableEntry} (hx : covers x f.pc = true) (h0 : x.catchType ≠ 0) {k : ClassId} (hl : s₀.vm.ClassLinks e.platform f.method.cls x.catchType k) (hb : s₀.vm.assignable ce.cls k = true) :
    ∀ (pre : List ExceptionTableEntry), (∀ z ∈ pre, xq_pass e.platform s₀ f.method.cls f.pc ce.cls z) → ∀ S : State, s₀.WarmedH S.vm → S.heap[a]? = some ce →
      ∃ vm', s₀.WarmedH vm' ∧ ∀ (Q : Handler → Pre) (E : CtlPost) (d : Bool) (acts : List Action), wp (findHandler.go f a (pre ++ x :: suf)) Q E e d acts S ↔ Q (.found x.handlerPc) d acts (S.setVm vm') := by
  obtain ⟨z0, e0⟩ := hk
  have step : ∀ (S : State), s₀.WarmedH S.vm → ∀ (y : ExceptionTableEntry) (c : ClassId), s₀.vm.ClassLinks e.platform f.method.cls y.catchType c → (∃ z, S.vm.classes[ce.cls]? = some z) ∧ (∃ z, S.vm.classes[c]? = some z) ∧ S.vm.ClassLinks e.platform f.method.cls y.catchType c ∧ S.vm.assignable ce.cls c = s₀.vm.assignable ce.cls c ∧ s₀.WarmedH (S.vm.noted f.method.cls y.catchType (.cls c)) := by
    intro S hW y c hc
    obtain ⟨z1, e1, -⟩ := hW.alike.2.2 _ _ e0
    obtain ⟨dk, _, _, kt, hd, _, _, _, _, hkt, _, ho⟩ := hc.here
    obtain ⟨z2, e2, -⟩ := hW.alike.2.2 _ _ hkt
    exact ⟨⟨z1, e1⟩, ⟨z2, e2⟩, hW.classLinks hc, hW.alike.assignable _ _, hW.noted hd ho (State.rightAt_cls hc)⟩
  intro pre
  induction pre with
  | nil =>
    intro _ S hW hce
    obtain ⟨g1, g2, g3, g4, g5⟩ := step S hW x k hl
    exact ⟨_, g5, fun Q E d acts => by rw [List.nil_append, xq_row hx h0 g3 hce hob g1 g2 true (g4.trans hb), if_pos rfl]⟩
  | cons y ys ih =>
    intro hp S hW hce
    have hp' : ∀ z ∈ ys, xq_pass e.platform s₀ f.method.cls f.pc ce.cls z := fun z hz => hp z (List.mem_cons_of_mem _ hz)
    cases hcov : covers y f.pc with
    | false =>
      obtain ⟨vm', w, h⟩ := ih hp' S hW hce
      exact ⟨vm', w, fun Q E d acts => by rw [List.cons_append, Jvm.W.findHandler_go_skip hcov]; exact h Q E d acts⟩
    | true =>
      rcases hp y List.mem_cons_self with q | ⟨q0, c, q1, q2⟩
      · rw [q] at hcov; cases hcov
      · obtain ⟨g1, g2, g3, g4, g5⟩ := step S hW y c q1
        obtain ⟨vm', w, h⟩ := ih hp' (S.setVm (S.vm.noted f.method.cls y.catchType (.cls c))) g5 hce
        exact ⟨vm', w, fun Q E d acts => by rw [List.cons_append, xq_row hcov q0 g3 hce hob g1 g2 false (g4.trans q2), if_neg (by decide)]; exact h Q E d acts⟩
theorem xq_step {S : State} {r : List Frame} {pc : Nat} {vm' : Vm} (hf : ∀ (Q : Handler → Pre) (E : CtlPost) (d : Bool) (acts : List Action), wp (findHandler f a) Q E e d acts S ↔ Q (.found pc) d acts (S.setVm vm')) :
    (stepThrowing e S a (.java f :: r)).Is ((S.setVm vm').setFrames (.java { f with pc := pc, stack := [.ref a] } :: r)) [] := by
  simp only [stepThrowing, searchFrame, vmDo]
  generalize hr : Sem.go _ e false [] S = res
  obtain ⟨as, rfl, ha⟩ := Sem.eq_ok_of hr (a := Handler.found pc) (s' := S.setVm vm') (acts' := []) (by simp [hf _ _ _ _])
  exact ⟨rfl, ha⟩
end XQ
section XR
variable {p : Program} {l : Launch} {e : Env} {R : Room} {s : State} {m : MethodId} {args : Array Value} {below : List Frame} {meth : Method} {c : Code} {H : Heap} {locs : List Loc} {cells slots : Nat} {Q : State → Prop} {ls : Array Slot} {pc : Nat} {rest : List Value}
theorem xq_steps {T : State} (X : Stand p l e R s m args below meth c T locs cells slots) {g : JFrame} (hg : g.method = m) (a : Addr) {hp : Nat} {vm' : Vm}
    (hf : ∀ (Q : Handler → Pre) (E : CtlPost) (d : Bool) (acts : List Action), wp (findHandler g a) Q E e d acts ((T.setTop g).pushFrame (.throwing a)) ↔ Q (.found hp) d acts (((T.setTop g).pushFrame (.throwing a)).setVm vm')) :
    Steps p.tables e below ((T.setTop g).pushFrame (.throwing a)) ((T.setVm vm').setTop { g with pc := hp, stack := [.ref a] }) := by
  have h : At T g.method c below := by rw [hg]; exact X.here
  obtain ⟨hgo, hw⟩ := h.throwing a
  refine Steps.head hgo hw ?_
  rw [stepThread_throwing (frames_entered h.top _), (xq_step (S := (T.setTop g).pushFrame (.throwing a)) hf).1]
  obtain ⟨g0, hg0⟩ := Option.isSome_iff_exists.mp h.top
  obtain ⟨r, hr⟩ := State.topJava?_eq_some.mp hg0
  have hr2 : (T.setVm vm').frames = .java g0 :: r := hr
  have sw : ∀ (u : State) (F F' : List Frame), ((u.setFrames F).setVm vm').setFrames F' = (u.setVm vm').setFrames F' := fun u F F' => by
    rw [show (u.setFrames F).setVm vm' = (u.setVm vm').setFrames F from rfl, State.setFrames_setFrames]
  rw [hr, List.tail_cons, State.pushFrame, sw, State.setTop_of_frames _ hr, sw, State.setTop_of_frames _ hr2]
  exact Steps.refl _
/-- caught by the row x; the rows ahead of it don't take it -/
theorem x_catch {own name E : String} {ce : Cell} {q : Addr} (hown : s.vm.findClass own = some m.cls) (pre : List ExceptionTableEntry) (x : ExceptionTableEntry) (suf : List ExceptionTableEntry) (hsp : c.exceptionTable.toList = pre ++ x :: suf)
    (hp : ∀ z ∈ pre, covers z pc = false ∨ (z.catchType ≠ 0 ∧ ∃ nm : String, (Cond.classLink own z.catchType nm).before args s = true ∧ va_Nc E nm s)) (hx : covers x pc = true) (h0 : x.catchType ≠ 0)
    (hlink : (Cond.classLink own x.catchType name).before args s = true) (hcast : (Cond.castable E name).before args s = true) (hcell : H[q]? = some ce) (hv : ce.vm = .none) (hcl : s.vm.findClass E = some ce.cls)
    (kk : W p l e R s m args below meth c H locs cells slots Q (F0 m x.handlerPc ls [.ref q])) : vx_W p l e R s m args below meth c H locs cells slots Q (F0 m pc ls rest) q := by
  intro T hT X
  have hpl : e.platform.magicAccessors = ({} : Platform).magicAccessors := by rw [X.admits.platform]
  obtain ⟨c3, c4, e3, e4, has⟩ := Cond.castable_spec hcast
  cases Option.some.inj (e3.symm.trans hcl)
  obtain ⟨c5, e5, l5⟩ := Cond.classLink_spec hown hlink e.platform hpl
  cases Option.some.inj (e4.symm.trans e5)
  obtain ⟨k9, h9, -⟩ := Vm.findClass_spec hcl
  obtain ⟨vm', hW', hf⟩ := xq_go (e := e) (f := F0 m pc ls rest) (a := q) (ce := ce) (s₀ := s) (VmData.ne_statics_of (by rw [hv]; rfl)) ⟨k9, h9⟩ (suf := suf) hx h0 l5 has pre (fun z hz => by
      rcases hp z hz with h | ⟨hz0, nm, hl1, a8, b8, n1, n2, n3⟩
      · exact Or.inl h
      · obtain ⟨c6, e6, l6⟩ := Cond.classLink_spec hown hl1 e.platform hpl
        cases Option.some.inj (n1.symm.trans hcl)
        cases Option.some.inj (n2.symm.trans e6)
        exact Or.inr ⟨hz0, _, l6, n3⟩) ((T.setTop (F0 m pc ls rest)).pushFrame (.throwing q)) X.warmed (by show T.heap[q]? = some ce; rw [hT]; exact hcell)
  obtain ⟨t, a1, b1⟩ := kk (T.setVm vm') hT (X.noted hW')
  refine ⟨t, Steps.trans (xq_steps X (g := F0 m pc ls rest) rfl q (hp := x.handlerPc) (vm' := vm') (fun Q E d acts => ?_)) a1, b1⟩
  rw [Jvm.W.findHandler_eq (meth := meth) (code := c) X.method' X.code, hsp]
  exact hf Q E d acts
end XR
