/-! the row of such a throw -/
section XNT
variable {p : Program} {l : Launch} {e : Env} {R : Room} {s : State} {m : MethodId} {args : Array Value} {below : List Frame} {meth : Method} {c : Code} {H : Heap} {locs : List Loc} {cells slots : Nat} {mc ms : Nat} {free : Addr → Prop} {ls : Array Slot} {rest : List Value} {Qc : Array Value → State → Outcome → State → Prop} {XC : String → State → State → Prop}
set_option maxHeartbeats 2000000 in
theorem xn_throw {cc : ByteArray} {pc : Nat} (hexec : p.tables.exec = Jvm.exec) (hb : c.code = cc) (hl : l.stackTraces = false) {own cls text cls' : String} {ik is ic ic' ix sa : Nat} {rx : ByteArray} {A : Nat → Prop}
    (x0 : decode rx 0 = .ok (.aload_n 0, 1)) (x1 : decode rx 1 = .ok (.aload_n 1, 1)) (x2 : decode rx 2 = .ok (.invokespecial ix, 3)) (x5 : decode rx 5 = .ok (.return_, 1))
    (hown : s.vm.findClass own = some m.cls) (hcls : Bundle.fit cls = true)
    (hk : (Cond.classLink own ik cls).before args s = true) (hini : (Cond.initialized cls).before args s = true) (hstr : vk_R own is text sa s) (hat : ∀ w ∈ vx_atS own ic' cls' ["java/lang/RuntimeException", "java/lang/Exception"], w.before args s = true) (hat2 : ∀ w ∈ xn_w own ic cls ix rx, w.before args s = true)
    (hgood : ∀ w ∈ Cond.classLink own ik cls :: Cond.initialized cls :: (vx_atS own ic' cls' ["java/lang/RuntimeException", "java/lang/Exception"] ++ xn_w own ic cls ix rx), vx_ot w = true)
    (hU : vx_Zq Bundle.tN "UNASSIGNED_STACK" Bundle.steD A s s.heap) (hN : vx_Zq Bundle.tN "SUPPRESSED_SENTINEL" Bundle.listD A s s.heap) (hS : va_S A s.heap H locs) (hsize : ls.size = c.maxLocals)
    (d0 : decode cc pc = .ok (.new ik, 3)) (d3 : decode cc (pc + 3) = .ok (.dup, 1)) (d4 : decode cc (pc + 4) = .ok (.ldc_w is, 3)) (d7 : decode cc (pc + 7) = .ok (.invokespecial ic, 3)) (d10 : decode cc (pc + 10) = .ok (.athrow, 1))
    (hout : ∀ x ∈ c.exceptionTable.toList, covers x (pc + 10) = false)
    (hRf : 5 < R.frames) (hRl : (rest.map fun v => v.category).sum + 82 ≤ R.locals) (hRc : cells + 1 ≤ R.cells) (hRs : slots + 6 ≤ R.slots) (hlocks : meth.locks = false)
    (hx : ∀ t : State, s.vm.Alike t.vm → H.size ≤ t.heap.size → (∀ q : Nat, q < H.size → t.heap[q]? = H[q]?) → XC cls s t)
    (hf : ∀ z ∈ locs, free z.base) (hc : cells + 1 ≤ mc) (hs : slots + 6 ≤ ms) :
    W p l e R s m args below meth c H locs cells slots (vx_MQ below Qc XC args s mc ms free) (F0 m pc ls rest) := by
  intro T hT X
  have htr : e.platform.stackTraces = false := (show e.platform.stackTraces = l.stackTraces by rw [X.admits.platform]).trans hl
  have Y := vx_rebase X (R' := { frames := R.frames, locals := R.locals, cells := 1, slots := 6 }) (Nat.le_refl _) (Nat.le_refl _) hRc hRs
  obtain ⟨s', hA⟩ : ∃ z, z = (T.setVm s.vm).setFrames (.invoking m args :: below) := ⟨_, rfl⟩
  rw [← hA] at Y
  have hvm : s'.vm = s.vm := by rw [hA]; rfl
  have hhp : s'.heap = H := by rw [hA]; exact hT
  have hW0 : s.WarmedH s'.vm := by rw [hvm]; exact State.WarmedH.refl s
  have mv1 : ∀ w ∈ Cond.classLink own ik cls :: Cond.initialized cls :: (vx_atS own ic' cls' ["java/lang/RuntimeException", "java/lang/Exception"] ++ xn_w own ic cls ix rx), w.before args s = true → w.before args s' = true := fun w hw hb => vx_ot_at hW0 hvm.symm (hgood w hw) hb
  have hat' : ∀ w ∈ vx_atS own ic' cls' ["java/lang/RuntimeException", "java/lang/Exception"], w.before args s' = true := fun w hw => mv1 w (List.mem_cons_of_mem _ (List.mem_cons_of_mem _ (List.mem_append_left _ hw))) (hat w hw)
  have hat2' : ∀ w ∈ xn_w own ic cls ix rx, w.before args s' = true := fun w hw => mv1 w (List.mem_cons_of_mem _ (List.mem_cons_of_mem _ (List.mem_append_right _ hw))) (hat2 w hw)
  have hk' := mv1 _ List.mem_cons_self hk
  have hini' := mv1 _ (List.mem_cons_of_mem _ List.mem_cons_self) hini
  have hU' : vx_Zq Bundle.tN "UNASSIGNED_STACK" Bundle.steD A s' s'.heap := by rw [hhp]; exact vx_Zq.moved hW0.alike (hU.kept hS.2.1)
  have hN' : vx_Zq Bundle.tN "SUPPRESSED_SENTINEL" Bundle.listD A s' s'.heap := by rw [hhp]; exact vx_Zq.moved hW0.alike (hN.kept hS.2.1)
  have h := vx_own hat' (vx_isRefq hU'.1) (vx_isRefq hN'.1) hU'.2.word hN'.2.word
  have hown' : s'.vm.findClass own = some m.cls := by rw [hvm]; exact hown
  have hins : (Cond.instantiable cls 6).before args s' = true := hat2' _ (by simp [xn_w])
  obtain ⟨vm1, cX, kX, hfX, hkX, -, -, X1, st1⟩ := Y.newCold hexec (own := own) (C := cls) (index := ik) (n := 6) hown' hk' hins hini' (g := F0 m pc ls rest) rfl (by rw [hb]; exact d0) (Nat.le_refl _) (Nat.le_refl _)
  generalize hT1 : (T.setVm vm1).pushCell { cls := cX, slots := kX.instanceTypes.map defaultValue, vm := .none } = T1 at X1 st1
  have hcat : (Value.ref T.heap.size).category = 1 := rfl
  have hcellA : T1.heap[T.heap.size]? = some (freshCell cX kX) := by rw [← hT1]; exact State.heap_pushCell_size _ _
  have d3' : decode c.code (pc + 3) = .ok (.dup, 1) := by rw [hb]; exact d3
  have d4' : decode c.code (pc + 4) = .ok (.ldc_w is, 3) := by rw [hb]; exact d4
  have hstr' : vk_R own is text sa s' := vk_R.warm hW0 hstr
  obtain ⟨U, hsteps, hrun, hend, hW, hsame, ce, hce, hO1, hO2⟩ := xn_ctor X1 hexec htr x0 x1 x2 x5 hown' hcls h hat2' (fun x hx => nomatch hx) hfX hkX hcellA (by rw [hhp, hT]; exact Nat.le_refl _) (msg := .ref sa) rfl
    (g := { method := m, pc := pc + 7, locals := ls, stack := .ref sa :: .ref T.heap.size :: .ref T.heap.size :: rest, locked := none }) rfl hsize rfl rfl (rest := rest) rfl
    (by rw [hb]; exact d7) (by rw [hb]; exact d10) hout hRf (by simp only [List.map_cons, List.sum_cons, hcat]; show 2 * 0 + _ + 81 ≤ _; omega) hlocks
  obtain ⟨f1, f2⟩ := vx_frame hsame
  rw [hhp] at f1 f2
  have hWs : s.WarmedH U.vm := State.WarmedH.trans hW0 hW
  have hcl : s.vm.findClass cls = some ce.cls := by rw [hvm] at hO1; exact hO1
  have hall : s.sameButNew ({ U with vm := s.vm } : State) locs mc ms := by
    subst hA
    obtain ⟨e1, e2⟩ := hsame
    rw [State.setFrames_setFrames] at e1
    have h2 : (T.setVm s.vm).sameButNew ({ U with vm := s.vm } : State) [] (0 + 1) (0 + 6) := ⟨e1, e2⟩
    have h3 := X.same.trans h2
    rw [List.append_nil] at h3
    exact h3.mono hc hs
  refine ⟨U, ?_, .threw T.heap.size, hrun, hend, Or.inr ⟨T.heap.size, rfl, cls, ce, locs, hx U hWs.alike f1 (fun q hq => f2 q hq (fun z hz => nomatch hz)), hce, hO2, hcl, hWs, hall, hf⟩⟩
  refine st1 _ ?_
  show Steps p.tables e below (T1.setTop { method := m, pc := pc + 3, locals := ls, stack := .ref T.heap.size :: rest, locked := none }) _
  jvm_step X1.here [X1.here.top, hexec, d3', Value.category]
  exact X1.ldcStringW hexec (own := own) (text := text) (index := is) (a := sa) hown' hstr'.1 hstr'.2
    (g := { method := m, pc := pc + 4, locals := ls, stack := .ref T.heap.size :: .ref T.heap.size :: rest, locked := none }) rfl d4' _ hsteps
end XNT
/-- what such a throw asks of the tables -/
def x_okN (own : String) (ik is ic : Nat) (cls text : String) (ix : Nat) (rx : ByteArray) (ic' : Nat) (cls' : String) : Prop :=
  Bundle.fit cls = true ∧ Cond.classLink own ik cls ∈ x_tbl ∧ Cond.initialized cls ∈ x_tbl ∧ (own, is, text) ∈ x_str ∧ (∀ w ∈ vx_atS own ic' cls' ["java/lang/RuntimeException", "java/lang/Exception"], w ∈ x_tbl ∨ w ∈ x_nw) ∧ (∀ w ∈ xn_w own ic cls ix rx, w ∈ x_tbl ∨ w ∈ x_nw) ∧
  (∀ w ∈ Cond.classLink own ik cls :: Cond.initialized cls :: (vx_atS own ic' cls' ["java/lang/RuntimeException", "java/lang/Exception"] ++ xn_w own ic cls ix rx), vx_ot w = true) ∧
  decode rx 0 = .ok (.aload_n 0, 1) ∧ decode rx 1 = .ok (.aload_n 1, 1) ∧ decode rx 2 = .ok (.invokespecial ix, 3) ∧ decode rx 5 = .ok (.return_, 1)
section XNR
variable {y : XY} {pc : Nat} {lv : List (Option XV)} {st : List XV} {σ : XM} {kc ks : Nat} {Q : XRes → XM → Prop}
theorem x_throwN {own cls text cls' : String} {ik is ic ix ic' : Nat} {rx : ByteArray} (ho : y.1.cls = own) (hT : x_okN own ik is ic cls text ix rx ic' cls') (hty : x_tab y.1 = [])
    (d0 : decode y.2.1 pc = .ok (.new ik, 3)) (d3 : decode y.2.1 (pc + 3) = .ok (.dup, 1)) (d4 : decode y.2.1 (pc + 4) = .ok (.ldc_w is, 3)) (d6 : decode y.2.1 (pc + 7) = .ok (.invokespecial ic, 3)) (d9 : decode y.2.1 (pc + 10) = .ok (.athrow, 1))
    (hf : 5 < y.2.2.2.2.frames) (hl : x_words st + 82 ≤ y.2.2.2.2.locals) (hc : kc + 1 ≤ y.2.2.2.2.cells) (hs : ks + 6 ≤ y.2.2.2.2.slots) (hq : Q (.inr cls) σ) : x_A y pc lv st σ kc ks Q := by
  intro h1 h2 h3 p l e s m args below meth c A D aa0 aa H locs ls hC ha hw hS hL
  obtain ⟨t1, t2, t3, t4, t5, t6, t7, x0, x1, x2, x5⟩ := hT
  have wd : ∀ w : Cond, (w ∈ x_tbl ∨ w ∈ x_nw) → w.before args s = true := fun w hw => by
    rcases hw with h | h
    · exact hC.2.2.2.2.2.1 _ h
    · exact va_tabs (by have := x_nw_k w h; cases w <;> first | rfl | (cases this)) rfl (hC.2.2.2.2.2.2.2.2.2.2.1.2.2.1 w h)
  obtain ⟨sa, q3⟩ := hC.2.2.2.2.2.2.2.2.2.2.1.2.2.2.1 _ t4
  refine xn_throw (XC := x_XC Q D aa0 A) hC.1 hC.2.1 hC.2.2.2.2.2.2.2.2.1 x0 x1 x2 x5 (by rw [← ho]; exact hC.2.2.2.2.1) t1 (hC.2.2.2.2.2.1 _ t2) (hC.2.2.2.2.2.1 _ t3) q3 (fun w hw => wd w (t5 w hw)) (fun w hw => wd w (t6 w hw)) t7 hC.2.2.2.2.2.2.2.2.2.2.1.1 hC.2.2.2.2.2.2.2.2.2.2.1.2.1 hS (hL.1.trans hC.2.2.2.1.symm) d0 d3 d4 d6 d9 (fun x hx => (x_tabNo hty hC.2.2.2.2.2.2.2.1 x hx).elim) hf (by rw [x_words_cat]; exact hl) hc hs hC.2.2.2.2.2.2.1 (fun t hv hz hk => ?_) hS.2.2 hc hs
  exact ⟨σ, aa, hq, ha, (hw.grown hk).moved hv, h3, Nat.le_trans hS.1 hz, fun q z1 z2 => (hk q (Nat.lt_of_lt_of_le z1 hS.1)).trans (hS.2.1 q z1 z2)⟩
end XNR
