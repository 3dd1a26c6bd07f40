/-! more rows of the machine: switches, arrays of references, calls between nest mates, throws, calls that may throw -/
section XT
variable {y y' : XY} {pc : Nat} {lv : List (Option XV)} {st stk as : List XV} {σ σ' : XM} {kc ks : Nat} {Q Q' : XRes → XM → Prop}
theorem x_tabIn {dflt lo hi : Int} {offs : Array Int} {len : Nat} {a off : Int} (tgt : Nat) (d : decode y.2.1 pc = .ok (.tableswitch dflt lo hi offs, len)) (ha1 : lo ≤ a) (ha2 : a ≤ hi) (ho : offs[(a - lo).toNat]? = some off) (ht : (pc : Int) + off = (tgt : Int)) (k : x_A y tgt lv st σ kc ks Q) : x_A y pc lv (xI a :: st) σ kc ks Q := by
  intro h1 h2 h3 p l e s m args below meth c A D aa0 aa H locs ls hC ha hw hS hL
  have e1 : (Int32.ofInt a).toInt = a := i32_toInt_r (x_hd h1)
  exact lv_tableIn (x := Int32.ofInt a) hC.1 hC.2.1 d (by rw [e1]; omega) (by rw [e1]; omega) (by rw [e1]; exact ho) ht (k (x_tl h1) h2 h3 p l e s m args below meth c A D aa0 aa H locs ls hC ha hw hS hL)
theorem x_tabOut {dflt lo hi : Int} {offs : Array Int} {len : Nat} {a : Int} (tgt : Nat) (d : decode y.2.1 pc = .ok (.tableswitch dflt lo hi offs, len)) (hn : a < lo ∨ hi < a) (ht : (pc : Int) + dflt = (tgt : Int)) (k : x_A y tgt lv st σ kc ks Q) : x_A y pc lv (xI a :: st) σ kc ks Q := by
  intro h1 h2 h3 p l e s m args below meth c A D aa0 aa H locs ls hC ha hw hS hL
  have e1 : (Int32.ofInt a).toInt = a := i32_toInt_r (x_hd h1)
  exact lv_tableOut (x := Int32.ofInt a) hC.1 hC.2.1 d (by rw [e1]; exact hn) ht (k (x_tl h1) h2 h3 p l e s m args below meth c A D aa0 aa H locs ls hC ha hw hS hL)
/-- a contract that can't throw, as the kit has it -/
theorem x_met {l : Launch} {y : MethodName} {ws : List Cond} {rm : Room} {Pc : Array Value → State → Prop} {Qc : Array Value → State → Outcome → State → Prop} {XC : String → State → State → Prop} {mc ms : Nat} {free : Addr → Prop} (h : vx_Met l y ws rm Pc Qc XC mc ms free) (hx : ∀ E s t, ¬ XC E s t) : Met l y ws rm Pc Qc mc ms free :=
  MetFree.mono h (fun _ _ z => z) (fun _ _ _ _ _ z => z) (fun _ _ _ _ _ z => z.elim (fun q => q) (fun ⟨q, _, E, ce, L, w, _⟩ => (hx E _ _ w).elim))
theorem x_run {p : Program} {l : Launch} {e : Env} {R : Room} {s : State} {m : MethodId} {args : Array Value} {below : List Frame} {meth : Method} {c : Code} {H : Heap} {locs : List Loc} {cells slots mc ms : Nat} {g : JFrame} {rest : List Value} {Qa : State → Outcome → State → Prop} {XC : String → State → State → Prop} {free : Addr → Prop} (h : va_Run p l e R s m args below meth c H locs cells slots mc ms g rest Qa free) : vx_Run p l e R s m args below meth c H locs cells slots mc ms g rest Qa XC free :=
  fun T hT X => Or.inl (h T hT X)
/-- a static method of a nest mate -/
def x_edgeSN (y y' : XY) (index n : Nat) : Prop :=
  Cond.methodLinkNest y.1.cls index y'.1 "SmokeTubes" ∈ x_nw ∧ Cond.static y'.1 ∈ x_tbl ∧ Cond.initialized y'.1.cls ∈ x_tbl ∧ Cond.code y'.1 y'.2.1 y'.2.2.1 y'.2.2.2.1 ∈ x_tbl ∧
  (y'.1.cls ≠ "java/lang/invoke/MethodHandle" ∧ y'.1.cls ≠ "java/lang/invoke/VarHandle" ∧ (parseMethodDescriptor y'.1.desc).map (fun d => d.parameters.length) = some n) ∧ (y'.2.2.2.2.frames + 1 ≤ y.2.2.2.2.frames ∧ 8 + (y'.2.2.1 + 11) + y'.2.2.2.2.locals ≤ y.2.2.2.2.locals) ∧ x_tab y.1 = []
theorem x_SN1 {index n : Nat} {w : XV} (d : decode y.2.1 pc = .ok (.invokestatic index, 3)) (he : x_edgeSN y y' index n) (hz : y'.2.2.2.2.cells = 0 ∧ y'.2.2.2.2.slots = 0 ∧ kc ≤ y.2.2.2.2.cells ∧ ks ≤ y.2.2.2.2.slots) (hst : stk = as.reverse ++ st) (hn : as.length = n) (hst8 : x_words st ≤ 8) (hM : x_M y' as σ (x_is (.inl (some w)) σ'))
    (k : x_A y (pc + 3) lv (w :: st) σ' kc ks Q) : x_A y pc lv stk σ kc ks Q := by
  intro h1 h2 h3 p l e s m args below meth c A D aa0 aa H locs ls hC ha hw hS0 hL
  subst hst
  obtain ⟨w1, w2, w3, w4, w5, w6, w8⟩ := he
  obtain ⟨z1, z2, z3, z4⟩ := hz
  have hF := x_free hw hS0 hC.2.2.2.2.2.2.2.2.2.2.2
  have hok1 : ∀ v ∈ st, x_ok σ.1.length v := fun v hv => h1 v (List.mem_append_right _ hv)
  have hoka : ∀ v ∈ as, x_ok σ.1.length v := fun v hv => h1 v (List.mem_append_left _ (List.mem_reverse.mpr hv))
  have hts := hC.2.2.2.2.2.1
  have hk := x_met (hM hoka h3 l D aa H.size hC.2.2.2.2.2.2.2.2.1) (fun E s t ⟨τ, aa', q, _⟩ => by cases q.1)
  have cn := va_cnB (R := y.2.2.2.2) (own := y.1.cls) (host := "SmokeTubes") (index := index) n hts (x_goodM w4) (show x_wsM y' = _ from rfl) rfl rfl (hC.2.2.2.2.2.2.2.2.2.2.1.2.2.1 _ w1) (hts _ w3) w5 w6
  have hc : kc + y'.2.2.2.2.cells ≤ y.2.2.2.2.cells := by rw [z1]; exact z3
  have hs : ks + y'.2.2.2.2.slots ≤ y.2.2.2.2.slots := by rw [z2]; exact z4
  refine x_behind (Q' := x_is (.inl (some w)) σ') hok1 h2 w8 hC ha hw hS0 hL rfl hc hs (x_run (va_runSN (As := as.map (x_cv aa)) ⟨hC.1, hC.2.1, hC.2.2.2.1, hC.2.2.2.2.1, hts⟩ hk ⟨cn, hts _ w2, trivial⟩ ⟨x_blind, fun U hU hW => ⟨rfl, by rw [hU], by rw [hU]; exact (hw.self).moved hW.alike, by rw [hU]; exact ((hC.2.2.2.2.2.2.2.2.2.2.1.kept hS0.2.1).narrow hF).moved hW⟩⟩ rfl (by rw [List.length_map]; exact hn) hL.1 (by simp) (lv_room (by rw [x_words_cat]; exact hst8)) d ⟨hc, hs⟩)) (fun v τ h => ?_) (fun E τ h => ?_)
  · obtain ⟨q1, q2⟩ := h
    cases q1; subst q2
    rw [z1, z2]
    exact k
  · cases h.1
theorem x_World.grown {D : va_G} {aa : XAA} {A : Nat → Prop} {s : State} {H H1 : Heap} (h : x_World D aa σ A s H) (hk : ∀ q : Nat, q < H.size → H1[q]? = H[q]?) : x_World D aa σ A s H1 :=
  ⟨h.1, h.2.1, h.2.2.1.kept (fun k x hx => hk x.1 ((h.2.2.1 k x hx).lt)), h.2.2.2⟩
/-- what a throw of cls out of own's constant pool asks of the tables -/
def x_okT (own : String) (ik is ic : Nat) (cls text : String) : Prop :=
  Bundle.fit cls = true ∧ Cond.classLink own ik cls ∈ x_tbl ∧ Cond.initialized cls ∈ x_tbl ∧ (own, is, text) ∈ x_str ∧ (∀ w ∈ vx_atS own ic cls ["java/lang/RuntimeException", "java/lang/Exception"], w ∈ x_tbl ∨ w ∈ x_nw) ∧
  (∀ w ∈ Cond.classLink own ik cls :: Cond.initialized cls :: vx_atS own ic cls ["java/lang/RuntimeException", "java/lang/Exception"], vx_ot w = true)
theorem x_fitN : ∀ n ∈ ["java/lang/RuntimeException", "java/lang/Exception"], Bundle.fit n = true := by decide +kernel
theorem x_thrown {p : Program} {l : Launch} {s : State} {m : MethodId} {args : Array Value} {meth : Method} {c : Code} {A : Nat → Prop} {own cls text : String} {ik is ic : Nat} (hC : x_C y p l s m args meth c A) (ho : y.1.cls = own) (hT : x_okT own ik is ic cls text) :
    (Cond.classLink own ik cls).before args s = true ∧ (Cond.initialized cls).before args s = true ∧ (∃ sa, vk_R own is text sa s) ∧ ∀ w ∈ vx_atS own ic cls ["java/lang/RuntimeException", "java/lang/Exception"], w.before args s = true := by
  obtain ⟨t1, t2, t3, t4, t5, t6⟩ := hT
  refine ⟨hC.2.2.2.2.2.1 _ t2, hC.2.2.2.2.2.1 _ t3, hC.2.2.2.2.2.2.2.2.2.2.1.2.2.2.1 _ t4, fun w hw => ?_⟩
  rcases t5 w hw with h | h
  · exact hC.2.2.2.2.2.1 _ h
  · exact va_tabs (by have := x_nw_k w h; cases w <;> first | rfl | (cases this)) rfl (hC.2.2.2.2.2.2.2.2.2.2.1.2.2.1 w h)
theorem x_throw {own cls text : String} {ik is ic : Nat} (ho : y.1.cls = own) (hT : x_okT own ik is ic cls text) (hty : x_tab y.1 = [])
    (d0 : decode y.2.1 pc = .ok (.new ik, 3)) (d3 : decode y.2.1 (pc + 3) = .ok (.dup, 1)) (d4 : decode y.2.1 (pc + 4) = .ok (.ldc is, 2)) (d6 : decode y.2.1 (pc + 6) = .ok (.invokespecial ic, 3)) (d9 : decode y.2.1 (pc + 9) = .ok (.athrow, 1))
    (hf : 5 < y.2.2.2.2.frames) (hl : x_words st + 82 ≤ y.2.2.2.2.locals) (hc : kc + 1 ≤ y.2.2.2.2.cells) (hs : ks + 6 ≤ y.2.2.2.2.slots) (hq : Q (.inr cls) σ) : x_A y pc lv st σ kc ks Q := by
  intro h1 h2 h3 p l e s m args below meth c A D aa0 aa H locs ls hC ha hw hS hL
  obtain ⟨q1, q2, ⟨sa, q3⟩, q4⟩ := x_thrown hC ho hT
  obtain ⟨t1, t2, t3, t4, t5, t6⟩ := hT
  refine vx_throwS (XC := x_XC Q D aa0 A) hC.1 hC.2.1 hC.2.2.2.2.2.2.2.2.1 (by rw [← ho]; exact hC.2.2.2.2.1) t1 x_fitN q1 q2 q3 q4 t6 hC.2.2.2.2.2.2.2.2.2.2.1.1 hC.2.2.2.2.2.2.2.2.2.2.1.2.1 hS (hL.1.trans hC.2.2.2.1.symm) d0 d3 d4 d6 d9 (fun x hx => (x_tabNo hty hC.2.2.2.2.2.2.2.1 x hx).elim) hf (by rw [x_words_cat]; exact hl) hc hs hC.2.2.2.2.2.2.1 (fun t hv hz hk => ?_) hS.2.2 hc hs
  exact ⟨σ, aa, hq, ha, (hw.grown hk).moved hv, h3, Nat.le_trans hS.1 hz, fun q z1 z2 => (hk q (Nat.lt_of_lt_of_le z1 hS.1)).trans (hS.2.1 q z1 z2)⟩
theorem x_throwW {own cls text : String} {ik is ic : Nat} (ho : y.1.cls = own) (hT : x_okT own ik is ic cls text) (hty : x_tab y.1 = [])
    (d0 : decode y.2.1 pc = .ok (.new ik, 3)) (d3 : decode y.2.1 (pc + 3) = .ok (.dup, 1)) (d4 : decode y.2.1 (pc + 4) = .ok (.ldc_w is, 3)) (d6 : decode y.2.1 (pc + 7) = .ok (.invokespecial ic, 3)) (d9 : decode y.2.1 (pc + 10) = .ok (.athrow, 1))
    (hf : 5 < y.2.2.2.2.frames) (hl : x_words st + 82 ≤ y.2.2.2.2.locals) (hc : kc + 1 ≤ y.2.2.2.2.cells) (hs : ks + 6 ≤ y.2.2.2.2.slots) (hq : Q (.inr cls) σ) : x_A y pc lv st σ kc ks Q := by
  intro h1 h2 h3 p l e s m args below meth c A D aa0 aa H locs ls hC ha hw hS hL
  obtain ⟨q1, q2, ⟨sa, q3⟩, q4⟩ := x_thrown hC ho hT
  obtain ⟨t1, t2, t3, t4, t5, t6⟩ := hT
  refine vx_throwSW (XC := x_XC Q D aa0 A) hC.1 hC.2.1 hC.2.2.2.2.2.2.2.2.1 (by rw [← ho]; exact hC.2.2.2.2.1) t1 x_fitN q1 q2 q3 q4 t6 hC.2.2.2.2.2.2.2.2.2.2.1.1 hC.2.2.2.2.2.2.2.2.2.2.1.2.1 hS (hL.1.trans hC.2.2.2.1.symm) d0 d3 d4 d6 d9 (fun x hx => (x_tabNo hty hC.2.2.2.2.2.2.2.1 x hx).elim) hf (by rw [x_words_cat]; exact hl) hc hs hC.2.2.2.2.2.2.1 (fun t hv hz hk => ?_) hS.2.2 hc hs
  exact ⟨σ, aa, hq, ha, (hw.grown hk).moved hv, h3, Nat.le_trans hS.1 hz, fun q z1 z2 => (hk q (Nat.lt_of_lt_of_le z1 hS.1)).trans (hS.2.1 q z1 z2)⟩
/-- it returns where ok holds, else it throws E; nothing is otherwise behind it -/
def x_need (ok : Prop) (E : String) (σ0 : XM) : XRes → XM → Prop := fun r τ => τ = σ0 ∧ ((ok ∧ r = .inl none) ∨ (¬ ok ∧ r = .inr E))
theorem x_nS {index n kc' ks' : Nat} {ok : Prop} {E : String} (d : decode y.2.1 pc = .ok (.invokestatic index, 3)) (he : x_edgeS y y' index n) (hkc : kc + y'.2.2.2.2.cells = kc') (hks : ks + y'.2.2.2.2.slots = ks') (hc : kc' ≤ y.2.2.2.2.cells) (hs : ks' ≤ y.2.2.2.2.slots) (hst : stk = as.reverse ++ st) (hn : as.length = n) (hst8 : x_words st ≤ 8) (hM : x_M y' as σ (x_need ok E σ))
    (kx : ¬ ok → Q (.inr E) σ) (k : ok → x_A y (pc + 3) lv st σ kc' ks' Q) : x_A y pc lv stk σ kc ks Q := by
  subst hkc hks
  refine x_callS d he hM hst hn hst8 hc hs (fun v τ h => ?_) (fun E' τ h => ?_)
  · obtain ⟨rfl, ⟨h1, h2⟩ | ⟨h1, h2⟩⟩ := h
    · cases h2
      exact k h1
    · cases h2
  · obtain ⟨rfl, ⟨h1, h2⟩ | ⟨h1, h2⟩⟩ := h
    · cases h2
    · cases h2
      exact kx h1
theorem x_nV {i ci N index n kc' ks' : Nat} {fin : List (Option XV)} {T : u_T} {ok : Prop} {E : String} (d : decode y.2.1 pc = .ok (.invokevirtual index, 3)) (he : x_edgeV y y' index n) (hkc : kc + y'.2.2.2.2.cells = kc') (hks : ks + y'.2.2.2.2.slots = ks') (hc : kc' ≤ y.2.2.2.2.cells) (hs : ks' ≤ y.2.2.2.2.slots) (hS : σ.1[i]? = some (.inl (ci, fin))) (hcl : vwCl[ci]? = some (y'.1.cls, T, N)) (hst : stk = as.reverse ++ xR (some i) :: st) (hn : as.length = n) (hst8 : x_words st ≤ 8) (hM : x_M y' (xR (some i) :: as) σ (x_need ok E σ))
    (kx : ¬ ok → Q (.inr E) σ) (k : ok → x_A y (pc + 3) lv st σ kc' ks' Q) : x_A y pc lv stk σ kc ks Q := by
  subst hkc hks
  refine x_callV d he hS hcl hM hst hn hst8 hc hs (fun v τ h => ?_) (fun E' τ h => ?_)
  · obtain ⟨rfl, ⟨h1, h2⟩ | ⟨h1, h2⟩⟩ := h
    · cases h2
      exact k h1
    · cases h2
  · obtain ⟨rfl, ⟨h1, h2⟩ | ⟨h1, h2⟩⟩ := h
    · cases h2
    · cases h2
      exact kx h1
end XT
theorem x_rem_eq {a : Int} (h : 0 ≤ a ∧ a < 1000) : x_rem a 100 = a % 100 := by
  have key : ∀ n : Fin 1000, x_rem ((n : Nat) : Int) 100 = ((n : Nat) : Int) % 100 := by decide +kernel
  have := key ⟨a.toNat, by omega⟩
  rwa [show ((a.toNat : Nat) : Int) = a by omega] at this
