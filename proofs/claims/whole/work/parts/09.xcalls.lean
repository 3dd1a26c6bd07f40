/-! ends and calls -/
theorem x_ad_pre {aa aa' : XAA} {i : Nat} (h : aa <+: aa') (hi : i < aa.length) : x_ad aa' i = x_ad aa i := by
  obtain ⟨t, rfl⟩ := h
  unfold x_ad
  rw [List.getElem?_append_left hi]
theorem x_cv_pre {aa aa' : XAA} {v : XV} (h : aa <+: aa') (hv : x_ok aa.length v) : x_cv aa' v = x_cv aa v := by
  rcases v with x | x | (_ | i)
  · rfl
  · rfl
  · rfl
  · show Value.ref (x_ad aa' i) = Value.ref (x_ad aa i)
    rw [x_ad_pre h hv]
theorem x_map_pre {aa aa' : XAA} {st : List XV} (h : aa <+: aa') (hs : ∀ v ∈ st, x_ok aa.length v) : st.map (x_cv aa') = st.map (x_cv aa) :=
  List.map_congr_left (fun v hv => x_cv_pre h (hs v hv))
theorem x_ok_mono {n n' : Nat} (h : n ≤ n') {v : XV} (hv : x_ok n v) : x_ok n' v := by
  rcases v with x | x | (_ | i)
  · exact hv
  · exact hv
  · trivial
  · exact Nat.lt_of_lt_of_le hv h
theorem x_L_pre {aa aa' : XAA} {ls : Array Slot} {n : Nat} {lv : List (Option XV)} (h : aa <+: aa') (hv : ∀ (k : Nat) (v : XV), lv[k]? = some (some v) → x_ok aa.length v) (hL : x_L aa ls n lv) : x_L aa' ls n lv :=
  ⟨hL.1, hL.2.1, fun k v hk => by rw [x_cv_pre h (hv k v hk)]; exact hL.2.2 k v hk⟩
theorem x_K.moved {aa : XAA} {S : List XS} {D : va_G} {s t : State} (hvm : s.vm.Alike t.vm) (h : x_K aa S D s) : x_K aa S D t :=
  ⟨fun c q hq => u_Kn_moved hvm (h.1 c q hq), fun i a hi => ⟨arrOfT_moved hvm (h.2 i a hi).1, (h.2 i a hi).2.moved hvm⟩⟩
theorem x_World.moved {D : va_G} {aa : XAA} {σ : XM} {A : Nat → Prop} {s t : State} {H : Heap} (hvm : s.vm.Alike t.vm) (h : x_World D aa σ A s H) : x_World D aa σ A t H := ⟨h.1, h.2.1.moved hvm, h.2.2.1, h.2.2.2⟩
theorem x_World.weaken {D : va_G} {aa : XAA} {σ : XM} {A B : Nat → Prop} {s : State} {H : Heap} (hAB : ∀ q, A q → B q) (h : x_World D aa σ A s H) : x_World D aa σ B s H := ⟨h.1, h.2.1, h.2.2.1, h.2.2.2.weaken (fun _ q _ hq => hAB q.1 hq)⟩
theorem x_World.self {D : va_G} {aa : XAA} {σ : XM} {A : Nat → Prop} {s : State} {H : Heap} {sz : Nat} (h : x_World D aa σ A s H) : x_World D aa σ (va_A (x_ws aa σ) sz) s H := ⟨h.1, h.2.1, h.2.2.1, h.2.2.2.self⟩
theorem x_free {D : va_G} {aa : XAA} {σ : XM} {A : Nat → Prop} {s s0 : State} {H : Heap} {locs : List Loc} (h : x_World D aa σ A s H) (hS : va_S A s0.heap H locs) (hA : ∀ q : Nat, s0.heap.size ≤ q → A q) : ∀ q, va_A (x_ws aa σ) H.size q → A q := by
  intro q hq
  rcases hq with ⟨k, e, hk⟩ | hq
  · exact h.2.2.2.2 k (q, e) hk
  · exact hA q (Nat.le_trans hS.1 hq)
section XE
variable {y : XY} {pc : Nat} {lv : List (Option XV)} {st : List XV} {σ : XM} {kc ks : Nat} {Q : XRes → XM → Prop}
theorem x_ireturn {z : Int} (d : decode y.2.1 pc = .ok (.ireturn, 1)) (hr : y.2.2.2.1 = some .int) (hq : Q (.inl (some (xI z))) σ) (hc : kc ≤ y.2.2.2.2.cells) (hs : ks ≤ y.2.2.2.2.slots) : x_A y pc lv [xI z] σ kc ks Q := by
  intro h1 h2 h3 p l e s m args below meth c A D aa0 aa H locs ls hC ha hw hS hL
  refine W.widen hc hs (vx_ret ?_)
  exact W.iret (v := Int32.ofInt z) hC.1 hC.2.1 (hC.2.2.1.trans hr) (fun t ht hW => ⟨some (xI z), σ, aa, rfl, hq, ha, by rw [ht]; exact hw.moved hW.alike, fun w e => by cases e; exact x_hd h1, h3, hS.F ht⟩) hS.2.2 d hC.2.2.2.2.2.2.1
theorem x_zreturn {z : Int} (d : decode y.2.1 pc = .ok (.ireturn, 1)) (hr : y.2.2.2.1 = some .boolean) (hz : z = 0 ∨ z = 1) (hq : Q (.inl (some (xI z))) σ) (hc : kc ≤ y.2.2.2.2.cells) (hs : ks ≤ y.2.2.2.2.slots) : x_A y pc lv [xI z] σ kc ks Q := by
  intro h1 h2 h3 p l e s m args below meth c A D aa0 aa H locs ls hC ha hw hS hL
  refine W.widen hc hs (vx_ret ?_)
  exact W.zret (v := Int32.ofInt z) hC.1 hC.2.1 (hC.2.2.1.trans hr) (by rcases hz with rfl | rfl <;> rfl) (fun t ht hW => ⟨some (xI z), σ, aa, rfl, hq, ha, by rw [ht]; exact hw.moved hW.alike, fun w e => by cases e; exact x_hd h1, h3, hS.F ht⟩) hS.2.2 d hC.2.2.2.2.2.2.1
theorem x_lreturn {z : Int} (d : decode y.2.1 pc = .ok (.lreturn, 1)) (hr : y.2.2.2.1 = some .long) (hq : Q (.inl (some (xL z))) σ) (hc : kc ≤ y.2.2.2.2.cells) (hs : ks ≤ y.2.2.2.2.slots) : x_A y pc lv [xL z] σ kc ks Q := by
  intro h1 h2 h3 p l e s m args below meth c A D aa0 aa H locs ls hC ha hw hS hL
  refine W.widen hc hs (vx_ret ?_)
  exact W.lret (v := Int64.ofInt z) hC.1 hC.2.1 (hC.2.2.1.trans hr) (fun t ht hW => ⟨some (xL z), σ, aa, rfl, hq, ha, by rw [ht]; exact hw.moved hW.alike, fun w e => by cases e; exact x_hd h1, h3, hS.F ht⟩) hS.2.2 d hC.2.2.2.2.2.2.1
theorem x_return (d : decode y.2.1 pc = .ok (.return_, 1)) (hr : y.2.2.2.1 = none) (hq : Q (.inl none) σ) (hc : kc ≤ y.2.2.2.2.cells) (hs : ks ≤ y.2.2.2.2.slots) : x_A y pc lv [] σ kc ks Q := by
  intro h1 h2 h3 p l e s m args below meth c A D aa0 aa H locs ls hC ha hw hS hL
  refine W.widen hc hs (vx_ret ?_)
  exact W.vret hC.1 hC.2.1 (hC.2.2.1.trans hr) (fun t ht hW => ⟨none, σ, aa, rfl, hq, ha, by rw [ht]; exact hw.moved hW.alike, fun w e => (nomatch e), h3, hS.F ht⟩) hS.2.2 d hC.2.2.2.2.2.2.1
end XE
/-- the locals at the entry -/
def x_lv0 : List XV → List (Option XV)
  | [] => []
  | v :: t => match v with
    | .inr (.inl _) => some v :: none :: x_lv0 t
    | _ => some v :: x_lv0 t
theorem x_lv0_in {aa : XAA} (as : List XV) : ∀ (i k : Nat) (v : XV), (x_lv0 as)[k]? = some (some v) → (i + k, x_cv aa v) ∈ lv_args i (as.map (x_cv aa)) := by
  induction as with
  | nil => intro i k v h; cases k <;> cases h
  | cons a t ih =>
    intro i k v h
    rcases a with x | x | r
    · cases k with
      | zero => cases h; exact List.mem_cons_self
      | succ k =>
        have := ih (i + 1) k v h
        rw [show i + (k + 1) = i + 1 + k by omega]
        exact List.mem_cons_of_mem _ this
    · cases k with
      | zero => cases h; exact List.mem_cons_self
      | succ k =>
        cases k with
        | zero => cases h
        | succ k =>
          have := ih (i + 2) k v h
          rw [show i + (k + 1 + 1) = i + 2 + k by omega]
          exact List.mem_cons_of_mem _ this
    · cases k with
      | zero => cases h; exact List.mem_cons_self
      | succ k =>
        have := ih (i + 1) k v h
        rw [show i + (k + 1) = i + 1 + k by omega]
        refine List.mem_cons_of_mem _ ?_
        rcases r with _ | q <;> exact this
theorem x_lv0_ok {n : Nat} (as : List XV) (h : ∀ v ∈ as, x_ok n v) : ∀ (k : Nat) (v : XV), (x_lv0 as)[k]? = some (some v) → x_ok n v := by
  induction as with
  | nil => intro k v h; cases k <;> cases h
  | cons a t ih =>
    intro k v hk
    have ih := ih (x_tl h)
    rcases a with x | x | r
    · cases k with
      | zero => cases hk; exact x_hd h
      | succ k => exact ih k v hk
    · cases k with
      | zero => cases hk; exact x_hd h
      | succ k =>
        cases k with
        | zero => cases hk
        | succ k => exact ih k v hk
    · cases k with
      | zero => cases hk; exact x_hd h
      | succ k => exact ih k v hk
def x_words : List XV → Nat
  | [] => 0
  | v :: t => (match v with | .inr (.inl _) => 2 | _ => 1) + x_words t
theorem x_words_sl {aa : XAA} (as : List XV) : (lg_sl (as.map (x_cv aa))).length = x_words as := by
  induction as with
  | nil => rfl
  | cons a t ih =>
    rcases a with x | x | (_ | q) <;> simp [lg_sl, x_words, x_cv, Value.category] at ih ⊢ <;> omega
theorem x_words_cat {aa : XAA} (as : List XV) : ((as.map (x_cv aa)).map fun v => v.category).sum = x_words as := by
  induction as with
  | nil => rfl
  | cons a t ih =>
    rcases a with x | x | (_ | q) <;> simp [x_words, x_cv, Value.category] at ih ⊢ <;> omega
theorem x_hy {a : Bool} {l : List (Nat × Nat × Nat × Nat)} (h : (a && l.isEmpty) = true) : a = true ∧ l = [] := by
  rw [Bool.and_eq_true] at h
  exact ⟨h.1, List.isEmpty_iff.mp h.2⟩
theorem x_noTab {L : List ExceptionTableEntry} {t : List (Nat × Nat × Nat × Nat)} (ht : t = []) (h : ∀ x ∈ L, False) : L = tableOf t := by
  subst ht
  cases L with
  | nil => rfl
  | cons x L => exact (h x List.mem_cons_self).elim
theorem x_tabNo {L : List ExceptionTableEntry} {t : List (Nat × Nat × Nat × Nat)} (ht : t = []) (h : L = tableOf t) : ∀ x ∈ L, False := by
  subst ht
  intro x hx
  rw [h] at hx
  cases hx
/-- the contract out of the walk -/
theorem x_ofA {y : XY} {as : List XV} {σ : XM} {Q : XRes → XM → Prop} (hy : (plainName y.1.cls && (x_tab y.1).isEmpty) = true) (hw : x_words as ≤ y.2.2.1) (k : x_A y 0 (x_lv0 as) [] σ 0 0 Q) : x_M y as σ Q := by
  intro h1 h3 l D aa sz hl
  obtain ⟨hy, hty⟩ := x_hy hy
  refine vx_ofW (cc := y.2.1) (maxL := y.2.2.1) (ret := y.2.2.2.1) hy rfl ?_
  intro p e s m args below meth c s₁ B hml hnt hv
  obtain ⟨rfl, hsz, hW, hE⟩ := hv
  subst hsz
  have hts := atoms_spec (ws := x_wsM y) B.pre
  rw [lg_entry_eq]
  have hle := lv_entry (as.map (x_cv aa)) (n := y.2.2.1) (by rw [x_words_sl]; exact hw)
  refine k (fun v h => by cases h) (x_lv0_ok as h1) h3 p l e s m _ below meth c _ D aa aa s.heap [] _ ⟨B.exec, B.bytes, B.returns, hml, findClass_of_methodNamed B.named, fun w h => hts w (List.mem_cons_of_mem _ h), B.notSynchronized, x_noTab hty hnt, hl, (name_of_methodNamed B.named B.method).1, hE, fun q hq => Or.inr hq⟩ (List.prefix_refl aa) hW va_S.rf ⟨hle.1, hle.2.1, fun j v hj => ?_⟩
  have := hle.2.2 _ (x_lv0_in (aa := aa) as 0 j v hj)
  rwa [Nat.zero_add] at this
/-- the callee is framed by the caller -/
theorem x_blind {av : List Value} {D : va_G} {aa : XAA} {σ : XM} {A : Nat → Prop} {sz : Nat} : FrameBlind (va_Pc av (fun U => U.heap.size = sz ∧ x_World D aa σ A U U.heap ∧ x_E A U U.heap)) := by
  intro a U g mk q
  obtain ⟨q0, q1, q2, q3⟩ := q
  exact ⟨q0, q1, x_World.moved (s := U) (t := U.calling g mk a) (Vm.Alike.refl U.vm) q2, vx_Zq.moved (u := U) (U := U.calling g mk a) (Vm.Alike.refl U.vm) q3.1, vx_Zq.moved (u := U) (U := U.calling g mk a) (Vm.Alike.refl U.vm) q3.2.1, x_X.warm (s := U) (U := U.calling g mk a) (State.WarmedH.refl U) q3.2.2⟩
theorem x_E.narrow {A B : Nat → Prop} {s : State} {H : Heap} (h : x_E A s H) (hAB : ∀ q, B q → A q) : x_E B s H := ⟨h.1.narrow hAB, h.2.1.narrow hAB, h.2.2⟩
theorem x_E.moved {A : Nat → Prop} {s t : State} {H : Heap} (hW : s.WarmedH t.vm) (h : x_E A s H) : x_E A t H := ⟨h.1.moved hW.alike, h.2.1.moved hW.alike, h.2.2.warm hW⟩
theorem x_E.kept {A : Nat → Prop} {s : State} {H H1 : Heap} (h : x_E A s H) (hq : ∀ a : Nat, a < H.size → ¬ A a → H1[a]? = H[a]?) : x_E A s H1 := ⟨h.1.kept hq, h.2.1.kept hq, h.2.2⟩
section XCall
variable {y y' : XY} {pc : Nat} {lv : List (Option XV)} {st stk as : List XV} {σ : XM} {kc ks : Nat} {Q Q' : XRes → XM → Prop}
/-- behind a call -/
theorem x_behind {p : Program} {l : Launch} {e : Env} {s : State} {m : MethodId} {args : Array Value} {below : List Frame} {meth : Method} {c : Code} {A : Nat → Prop} {D : va_G} {aa0 aa : XAA} {H : Heap} {locs : List Loc} {ls : Array Slot} {g : JFrame} {a : Array Value} {mc ms : Nat}
    (h1 : ∀ v ∈ st, x_ok σ.1.length v) (h2 : ∀ (k : Nat) (v : XV), lv[k]? = some (some v) → x_ok σ.1.length v)
    (hty : x_tab y.1 = []) (hC : x_C y p l s m args meth c A) (ha : aa0 <+: aa) (hw : x_World D aa σ A s H) (hS : va_S A s.heap H locs) (hL : x_L aa ls y.2.2.1 lv) (hg : g = F0 m pc ls (stk.map (x_cv aa)))
    (hc : kc + mc ≤ y.2.2.2.2.cells) (hs : ks + ms ≤ y.2.2.2.2.slots)
    (hr : vx_Run p l e y.2.2.2.2 s m args below meth c H locs kc ks mc ms g (st.map (x_cv aa)) (x_Qc Q' D aa (va_A (x_ws aa σ) H.size) a) (x_XC Q' D aa (va_A (x_ws aa σ) H.size)) (va_A (x_ws aa σ) H.size))
    (kk : ∀ (v : Option XV) (σ' : XM), Q' (.inl v) σ' → x_A y (pc + 3) lv (v.toList ++ st) σ' (kc + mc) (ks + ms) Q) (kx : ∀ (E : String) (σ' : XM), Q' (.inr E) σ' → Q (.inr E) σ') :
    W p l e y.2.2.2.2 s m args below meth c H locs kc ks (vx_MQ below (x_Qc Q D aa0 A) (x_XC Q D aa0 A) args s y.2.2.2.2.cells y.2.2.2.2.slots A) g := by
  have hF := x_free hw hS hC.2.2.2.2.2.2.2.2.2.2.2
  intro T hT X
  subst hg
  rcases hr T hT X with ⟨v, st₀, t, T', L, h0, X', hL', e1, e2, ⟨v2, σ', aa', ho, hq, hp, hW', hok, hM, hFF⟩, hgo⟩ | ⟨q, st₀, t, T', L, E, ce, h0, X', hL', e1, e2, ⟨σ', aa', hq, hp, hW', hM, hFF⟩, hce, hcv, hcl, hgo⟩
  · cases ho
    obtain ⟨z1, z2, z3⟩ := vx_keep h0 e1 hS (fun q _ => hF q) hF hL' hFF
    have hvm : s.vm.Alike t.vm := by rw [← e2]; exact X'.warmed.alike
    have hlen : σ.1.length ≤ σ'.1.length := by rw [← hw.1, ← hW'.1]; exact hp.length_le
    have h1' : ∀ w ∈ st, x_ok aa.length w := fun w hw' => by rw [hw.1]; exact h1 w hw'
    have h2' : ∀ (k : Nat) (w : XV), lv[k]? = some (some w) → x_ok aa.length w := fun k w hk => by rw [hw.1]; exact h2 k w hk
    have hW2 : x_World D aa' σ' A s T'.heap := by rw [e1]; exact (hW'.weaken hF).moved hvm.symm
    obtain ⟨t2, a1, b1⟩ := kk v2 σ' hq (fun w hw' => by
        rcases List.mem_append.mp hw' with h | h
        · exact hok w (by cases v2 with
            | none => cases h
            | some u => rcases List.mem_singleton.mp h with rfl; rfl)
        · exact x_ok_mono hlen (h1 w h)) (fun k w hk => x_ok_mono hlen (h2 k w hk)) hM p l e s m args below meth c A D aa0 aa' T'.heap (locs ++ L) ls hC (ha.trans hp) hW2 z3 (x_L_pre hp h2' hL) T' rfl X'
    refine ⟨t2, hgo t2 ?_, b1⟩
    rw [List.map_append, x_map_pre hp h1'] at a1
    cases v2 with
    | none => exact a1
    | some u => exact a1
  · obtain ⟨z1, z2, z3⟩ := vx_keep h0 e1 hS (fun q _ => hF q) hF hL' hFF
    have hvm : s.vm.Alike t.vm := by rw [← e2]; exact X'.warmed.alike
    have hW2 : x_World D aa' σ' A s T'.heap := by rw [e1]; exact (hW'.weaken hF).moved hvm.symm
    obtain ⟨t2, a1, b1⟩ := vx_out (Qc := x_Qc Q D aa0 A) (XC := x_XC Q D aa0 A) (p := p) (l := l) (e := e) (R := y.2.2.2.2) (args := args) (ls := ls) (rest := st.map (x_cv aa)) (pc := pc) (H := T'.heap) (locs := locs ++ L) (cells := kc + mc) (slots := ks + ms) (free := A) (fun x hx => (x_tabNo hty hC.2.2.2.2.2.2.2.1 x hx).elim) hC.2.2.2.2.2.2.1 (by rw [e1]; exact hce) hcv hcl
      (fun t3 ht3 hv3 => ⟨σ', aa', kx E σ' hq, ha.trans hp, by rw [ht3]; exact hW2.moved hv3, hM, z3.F ht3⟩) z3.2.2 hc hs T' rfl X'
    exact ⟨t2, hgo.trans a1, b1⟩
theorem x_pay {w : Cond} (h : w ∈ x_tbl) : w ∈ x_tbl ∧ ((w.onTables && w.keeps) = true ∨ ∃ ty, w = .arrayClass ty) := ⟨h, good_of_word (x_good w h)⟩
theorem x_goodM {y' : XY} (hcode : Cond.code y'.1 y'.2.1 y'.2.2.1 y'.2.2.2.1 ∈ x_tbl) : GoodIn x_tbl (x_wsM y') := by
  intro w hw
  rcases List.mem_cons.mp hw with rfl | h
  · exact x_pay hcode
  · exact x_pay h
/-- what the tables say of a call: static facts of caller and callee -/
def x_edge (y y' : XY) (index n : Nat) (wl wi : Cond) : Prop :=
  wl ∈ x_tbl ∧ wi ∈ x_tbl ∧ Cond.initialized y'.1.cls ∈ x_tbl ∧ Cond.code y'.1 y'.2.1 y'.2.2.1 y'.2.2.2.1 ∈ x_tbl ∧
  (y'.1.cls ≠ "java/lang/invoke/MethodHandle" ∧ y'.1.cls ≠ "java/lang/invoke/VarHandle" ∧ (parseMethodDescriptor y'.1.desc).map (fun d => d.parameters.length) = some n) ∧ (y'.2.2.2.2.frames + 1 ≤ y.2.2.2.2.frames ∧ 8 + (y'.2.2.1 + 11) + y'.2.2.2.2.locals ≤ y.2.2.2.2.locals) ∧ x_tab y.1 = []
def x_edgeV (y y' : XY) (index n : Nat) : Prop := x_edge y y' index n (.methodLink y.1.cls index y'.1) (.instanceMethod y'.1) ∧ Cond.selects y'.1.cls y'.1 y'.1 ∈ x_tbl
def x_edgeS (y y' : XY) (index n : Nat) : Prop := x_edge y y' index n (.methodLink y.1.cls index y'.1) (.static y'.1)
theorem x_callV {i ci N index n : Nat} {fin : List (Option XV)} {T : u_T} (d : decode y.2.1 pc = .ok (.invokevirtual index, 3)) (he : x_edgeV y y' index n) (hS : σ.1[i]? = some (.inl (ci, fin))) (hcl : vwCl[ci]? = some (y'.1.cls, T, N)) (hM : x_M y' (xR (some i) :: as) σ Q') (hst : stk = as.reverse ++ xR (some i) :: st) (hn : as.length = n) (hst8 : x_words st ≤ 8)
    (hc : kc + y'.2.2.2.2.cells ≤ y.2.2.2.2.cells) (hs : ks + y'.2.2.2.2.slots ≤ y.2.2.2.2.slots)
    (kk : ∀ (v : Option XV) (σ' : XM), Q' (.inl v) σ' → x_A y (pc + 3) lv (v.toList ++ st) σ' (kc + y'.2.2.2.2.cells) (ks + y'.2.2.2.2.slots) Q) (kx : ∀ (E : String) (σ' : XM), Q' (.inr E) σ' → Q (.inr E) σ') : x_A y pc lv stk σ kc ks Q := by
  intro h1 h2 h3 p l e s m args below meth c A D aa0 aa H locs ls hC ha hw hS0 hL
  subst hst
  obtain ⟨⟨w1, w2, w3, w4, w5, w6, w8⟩, w7⟩ := he
  have hF := x_free hw hS0 hC.2.2.2.2.2.2.2.2.2.2.2
  have hok1 : ∀ v ∈ st, x_ok σ.1.length v := fun v hv => h1 v (List.mem_append_right _ (List.mem_cons_of_mem _ hv))
  have hoka : ∀ v ∈ xR (some i) :: as, x_ok σ.1.length v := fun v hv => by
    rcases List.mem_cons.mp hv with rfl | hv
    · exact h1 _ (List.mem_append_right _ List.mem_cons_self)
    · exact h1 v (List.mem_append_left _ (List.mem_reverse.mpr hv))
  have hts := hC.2.2.2.2.2.1
  have hk := hM hoka h3 l D aa H.size hC.2.2.2.2.2.2.2.2.1
  have cb := callB_of (R := y.2.2.2.2) (own := y.1.cls) (index := index) n hts (x_goodM w4) (show x_wsM y' = _ from rfl) rfl rfl (hts _ w3) (hts _ w1) w5 w6
  refine x_behind hok1 h2 w8 hC ha hw hS0 hL rfl hc hs (vx_runV (C := y'.1.cls) (b := x_ad aa i) (As := as.map (x_cv aa)) ⟨hC.1, hC.2.1, hC.2.2.2.1, hC.2.2.2.2.1, hts⟩ hk ⟨cb, hts _ w2, hts _ w7⟩ ⟨x_blind, ?_, fun U hU hW => ⟨rfl, by rw [hU], by rw [hU]; exact (hw.self).moved hW.alike, by rw [hU]; exact ((hC.2.2.2.2.2.2.2.2.2.2.1.kept hS0.2.1).narrow hF).moved hW⟩⟩ rfl (by rw [List.length_map]; exact hn) hL.1 (by simp [x_cv]) (lv_room (by rw [x_words_cat]; exact hst8)) d ⟨hc, hs⟩) kk kx
  exact va_recv (x_K_nil hw.2.1) hw.2.2.1 hcl (x_ws_obj hS)
theorem x_callS {index n : Nat} (d : decode y.2.1 pc = .ok (.invokestatic index, 3)) (he : x_edgeS y y' index n) (hM : x_M y' as σ Q') (hst : stk = as.reverse ++ st) (hn : as.length = n) (hst8 : x_words st ≤ 8)
    (hc : kc + y'.2.2.2.2.cells ≤ y.2.2.2.2.cells) (hs : ks + y'.2.2.2.2.slots ≤ y.2.2.2.2.slots)
    (kk : ∀ (v : Option XV) (σ' : XM), Q' (.inl v) σ' → x_A y (pc + 3) lv (v.toList ++ st) σ' (kc + y'.2.2.2.2.cells) (ks + y'.2.2.2.2.slots) Q) (kx : ∀ (E : String) (σ' : XM), Q' (.inr E) σ' → Q (.inr E) σ') : x_A y pc lv stk σ kc ks Q := by
  intro h1 h2 h3 p l e s m args below meth c A D aa0 aa H locs ls hC ha hw hS0 hL
  subst hst
  obtain ⟨w1, w2, w3, w4, w5, w6, w8⟩ := he
  have hF := x_free hw hS0 hC.2.2.2.2.2.2.2.2.2.2.2
  have hok1 : ∀ v ∈ st, x_ok σ.1.length v := fun v hv => h1 v (List.mem_append_right _ hv)
  have hoka : ∀ v ∈ as, x_ok σ.1.length v := fun v hv => h1 v (List.mem_append_left _ (List.mem_reverse.mpr hv))
  have hts := hC.2.2.2.2.2.1
  have hk := hM hoka h3 l D aa H.size hC.2.2.2.2.2.2.2.2.1
  have cb := callB_of (R := y.2.2.2.2) (own := y.1.cls) (index := index) n hts (x_goodM w4) (show x_wsM y' = _ from rfl) rfl rfl (hts _ w3) (hts _ w1) w5 w6
  exact x_behind hok1 h2 w8 hC ha hw hS0 hL rfl hc hs (vx_runS (As := as.map (x_cv aa)) ⟨hC.1, hC.2.1, hC.2.2.2.1, hC.2.2.2.2.1, hts⟩ hk ⟨cb, hts _ w2⟩ ⟨x_blind, fun U hU hW => ⟨rfl, by rw [hU], by rw [hU]; exact (hw.self).moved hW.alike, by rw [hU]; exact ((hC.2.2.2.2.2.2.2.2.2.2.1.kept hS0.2.1).narrow hF).moved hW⟩⟩ rfl (by rw [List.length_map]; exact hn) hL.1 (by simp) (lv_room (by rw [x_words_cat]; exact hst8)) d ⟨hc, hs⟩) kk kx
end XCall
