/-! methods with a table of their own: the contract, a call that is caught -/
def x_wsL (y : XY) : List Cond := Cond.codeWith y.1 y.2.1 y.2.2.1 y.2.2.2.1 (x_tab y.1) :: x_tbl
/-- a contract of a method with a table -/
def x_ML (y : XY) (as : List XV) (σ : XM) (Q : XRes → XM → Prop) : Prop :=
  (∀ v ∈ as, x_ok σ.1.length v) → x_okM σ → ∀ (l : Launch) (D : va_G) (aa : XAA) (sz : Nat), l.stackTraces = false →
    vx_Met l y.1 (x_wsL y) y.2.2.2.2 (va_Pc (as.map (x_cv aa)) (fun U => U.heap.size = sz ∧ x_World D aa σ (va_A (x_ws aa σ) sz) U U.heap ∧ x_E (va_A (x_ws aa σ) sz) U U.heap)) (x_Qc Q D aa (va_A (x_ws aa σ) sz)) (x_XC Q D aa (va_A (x_ws aa σ) sz)) y.2.2.2.2.cells y.2.2.2.2.slots (va_A (x_ws aa σ) sz)
theorem x_ofLA {y : XY} {as : List XV} {σ : XM} {Q : XRes → XM → Prop} (hy : plainName y.1.cls = true) (hw : x_words as ≤ y.2.2.1) (k : x_A y 0 (x_lv0 as) [] σ 0 0 Q) : x_ML y as σ Q := by
  intro h1 h3 l D aa sz hl
  refine vx_ofWH (cc := y.2.1) (maxL := y.2.2.1) (ret := y.2.2.2.1) (hh := x_tab y.1) hy rfl ?_
  intro p e s m args below meth c s₁ B hml hv
  have hts := atoms_spec (ws := x_wsL y) B.pre
  have htab := vx_table (x := y.1) B (hts _ List.mem_cons_self)
  obtain ⟨rfl, hsz, hW, hE⟩ := hv
  subst hsz
  rw [lg_entry_eq]
  have hle := lv_entry (as.map (x_cv aa)) (n := y.2.2.1) (by rw [x_words_sl]; exact hw)
  refine k (fun v h => by cases h) (x_lv0_ok as h1) h3 p l e s m _ below meth c _ D aa aa s.heap [] _ ⟨B.exec, B.bytes, B.returns, hml, findClass_of_methodNamed B.named, fun w h => hts w (List.mem_cons_of_mem _ h), B.notSynchronized, htab, hl, (name_of_methodNamed B.named B.method).1, hE, fun q hq => Or.inr hq⟩ (List.prefix_refl aa) hW va_S.rf ⟨hle.1, hle.2.1, fun j v hj => ?_⟩
  have := hle.2.2 _ (x_lv0_in (aa := aa) as 0 j v hj)
  rwa [Nat.zero_add] at this
theorem x_ofL {y : XY} {as : List XV} {σ : XM} {Q : XRes → XM → Prop} (r : Nat) (hy : plainName y.1.cls = true) (hw : x_words as ≤ y.2.2.1) (k : x_A y 0 (x_lv0 as ++ List.replicate r none) [] σ 0 0 Q) : x_ML y as σ Q := by
  refine x_ofLA hy hw (x_sub (fun j v hj => ?_) k)
  by_cases h : j < (x_lv0 as).length
  · rwa [List.getElem?_append_left h] at hj
  · rw [List.getElem?_append_right (by omega)] at hj
    have := List.eq_of_mem_replicate (List.mem_of_getElem? hj)
    cases this
/-- where a throw of E at pc is caught -/
def x_cat (y : XY) (pc : Nat) (E : String) (hp : Nat) : Prop := ∃ pre x suf, tableOf (x_tab y.1) = pre ++ x :: suf ∧ x.handlerPc = hp ∧ (∀ z ∈ pre, z.catchType ≠ 0 ∧ ∃ nm : String, Cond.classLink y.1.cls z.catchType nm ∈ x_tbl ∧ (E, nm) ∈ x_nc) ∧ covers x pc = true ∧ x.catchType ≠ 0 ∧ Cond.classLink y.1.cls x.catchType E ∈ x_tbl ∧ Cond.castable E E ∈ x_nw
/-- a handler's first row: what was thrown is laid aside -/
def x_hs (y : XY) (hp pc' : Nat) : Prop := (∃ n, decode y.2.1 hp = .ok (.astore n, 2) ∧ n < y.2.2.1 ∧ pc' = hp + 2) ∨ (∃ j : Fin 4, decode y.2.1 hp = .ok (.astore_n j, 1) ∧ (j : Nat) < y.2.2.1 ∧ pc' = hp + 1)
def x_edgeVL (y y' : XY) (index n : Nat) : Prop :=
  (Cond.methodLink y.1.cls index y'.1 ∈ x_tbl ∧ Cond.instanceMethod y'.1 ∈ x_tbl ∧ Cond.initialized y'.1.cls ∈ x_tbl ∧ Cond.code y'.1 y'.2.1 y'.2.2.1 y'.2.2.2.1 ∈ x_tbl ∧
  (y'.1.cls ≠ "java/lang/invoke/MethodHandle" ∧ y'.1.cls ≠ "java/lang/invoke/VarHandle" ∧ (parseMethodDescriptor y'.1.desc).map (fun d => d.parameters.length) = some n) ∧ (y'.2.2.2.2.frames + 1 ≤ y.2.2.2.2.frames ∧ 8 + (y'.2.2.1 + 11) + y'.2.2.2.2.locals ≤ y.2.2.2.2.locals)) ∧ Cond.selects y'.1.cls y'.1 y'.1 ∈ x_tbl
section XW
variable {y y' : XY} {pc : Nat} {lv : List (Option XV)} {st stk as : List XV} {σ : XM} {kc ks : Nat} {Q Q' : XRes → XM → Prop}
theorem x_behindT {p : Program} {l : Launch} {e : Env} {s : State} {m : MethodId} {args : Array Value} {below : List Frame} {meth : Method} {c : Code} {A : Nat → Prop} {D : va_G} {aa0 aa : XAA} {H : Heap} {locs : List Loc} {ls : Array Slot} {g : JFrame} {a : Array Value} {mc ms : Nat}
    (h1 : ∀ v ∈ st, x_ok σ.1.length v) (h2 : ∀ (k : Nat) (v : XV), lv[k]? = some (some v) → x_ok σ.1.length v)
    (hC : x_C y p l s m args meth c A) (ha : aa0 <+: aa) (hw : x_World D aa σ A s H) (hS : va_S A s.heap H locs) (hL : x_L aa ls y.2.2.1 lv) (hg : g = F0 m pc ls (stk.map (x_cv aa)))
    (hr : vx_Run p l e y.2.2.2.2 s m args below meth c H locs kc ks mc ms g (st.map (x_cv aa)) (x_Qc Q' D aa (va_A (x_ws aa σ) H.size) a) (x_XC Q' D aa (va_A (x_ws aa σ) H.size)) (va_A (x_ws aa σ) H.size))
    (kk : ∀ (v : Option XV) (σ' : XM), Q' (.inl v) σ' → x_A y (pc + 3) lv (v.toList ++ st) σ' (kc + mc) (ks + ms) Q) (kx : ∀ (E : String) (σ' : XM), Q' (.inr E) σ' → ∃ hp pc', x_cat y pc E hp ∧ x_hs y hp pc' ∧ x_A y pc' [] [] σ' (kc + mc) (ks + ms) Q) :
    W p l e y.2.2.2.2 s m args below meth c H locs kc ks (vx_MQ below (x_Qc Q D aa0 A) (x_XC Q D aa0 A) args s y.2.2.2.2.cells y.2.2.2.2.slots A) g := by
  have hF := x_free hw hS hC.2.2.2.2.2.2.2.2.2.2.2
  intro T hT X
  subst hg
  rcases hr T hT X with ⟨v, st₀, t, T', L, h0, X', hL', e1, e2, ⟨v2, σ', aa', ho, hq, hp, hW', hok, hM, hFF⟩, hgo⟩ | ⟨q, st₀, t, T', L, E, ce, h0, X', hL', e1, e2, ⟨σ', aa', hq, hp, hW', hM, hFF⟩, hce, hcv, hcl, hgo⟩
  · cases ho
    obtain ⟨z1, z2, z3⟩ := vx_keep h0 e1 hS (fun q _ => hF q) hF hL' hFF
    have hvm : s.vm.Alike t.vm := by rw [← e2]; exact X'.warmed.alike
    have hlen : σ.1.length ≤ σ'.1.length := by rw [← hw.1, ← hW'.1]; exact hp.length_le
    have h1' : ∀ w ∈ st, x_ok aa.length w := fun w hw' => by rw [hw.1]; exact h1 w hw'
    have h2' : ∀ (k : Nat) (w : XV), lv[k]? = some (some w) → x_ok aa.length w := fun k w hk => by rw [hw.1]; exact h2 k w hk
    have hW2 : x_World D aa' σ' A s T'.heap := by rw [e1]; exact (hW'.weaken hF).moved hvm.symm
    obtain ⟨t2, a1, b1⟩ := kk v2 σ' hq (fun w hw' => by
        rcases List.mem_append.mp hw' with h | h
        · exact hok w (by cases v2 with
            | none => cases h
            | some u => rcases List.mem_singleton.mp h with rfl; rfl)
        · exact x_ok_mono hlen (h1 w h)) (fun k w hk => x_ok_mono hlen (h2 k w hk)) hM p l e s m args below meth c A D aa0 aa' T'.heap (locs ++ L) ls hC (ha.trans hp) hW2 z3 (x_L_pre hp h2' hL) T' rfl X'
    refine ⟨t2, hgo t2 ?_, b1⟩
    rw [List.map_append, x_map_pre hp h1'] at a1
    cases v2 with
    | none => exact a1
    | some u => exact a1
  · obtain ⟨z1, z2, z3⟩ := vx_keep h0 e1 hS (fun q _ => hF q) hF hL' hFF
    have hvm : s.vm.Alike t.vm := by rw [← e2]; exact X'.warmed.alike
    have hW2 : x_World D aa' σ' A s T'.heap := by rw [e1]; exact (hW'.weaken hF).moved hvm.symm
    obtain ⟨hpc, pc', ⟨pre, x, suf, g1, g2, g3, g4, g5, g6, g7⟩, hhs, hA⟩ := kx E σ' hq
    subst g2
    have hts := hC.2.2.2.2.2.1
    have hX := hC.2.2.2.2.2.2.2.2.2.2.1.2.2
    have go : ∀ ls' : Array Slot, ls'.size = y.2.2.1 → lv_wf ls' → W p l e y.2.2.2.2 s m args below meth c T'.heap (locs ++ L) (kc + mc) (ks + ms) (vx_MQ below (x_Qc Q D aa0 A) (x_XC Q D aa0 A) args s y.2.2.2.2.cells y.2.2.2.2.slots A) (F0 m pc' ls' []) := fun ls' s1 s2 =>
      hA (fun w hw' => by cases hw') (fun k w hk => by cases hk) hM p l e s m args below meth c A D aa0 aa' T'.heap (locs ++ L) ls' hC (ha.trans hp) hW2 z3 ⟨s1, s2, fun k w hk => by cases hk⟩
    have hand : W p l e y.2.2.2.2 s m args below meth c T'.heap (locs ++ L) (kc + mc) (ks + ms) (vx_MQ below (x_Qc Q D aa0 A) (x_XC Q D aa0 A) args s y.2.2.2.2.cells y.2.2.2.2.slots A) (F0 m x.handlerPc ls [.ref q]) := by
      rcases hhs with ⟨n, d, hn, rfl⟩ | ⟨j, d, hn, rfl⟩
      · exact lv_astore hC.1 hC.2.1 d hL.has hn rfl (fun ls' hl => go ls' hl.1 hl.2.1)
      · exact lv_astore_n hC.1 hC.2.1 d rfl hL.has hn rfl (fun ls' hl => go ls' hl.1 hl.2.1)
    obtain ⟨t2, a1, b1⟩ := x_catch (p := p) (l := l) (e := e) (R := y.2.2.2.2) (pc := pc) (rest := st.map (x_cv aa)) (H := T'.heap) (q := q) (ce := ce) hC.2.2.2.2.1 pre x suf (hC.2.2.2.2.2.2.2.1.trans g1)
      (fun z hz => by
        obtain ⟨k1, nm, k2, k3⟩ := g3 z hz
        exact Or.inr ⟨k1, nm, hts _ k2, hX.2.2.1 _ k3⟩) g4 g5 (hts _ g6)
      (va_tabs rfl rfl (hX.1 _ g7)) (by rw [e1]; exact hce) hcv hcl hand T' rfl X'
    exact ⟨t2, hgo.trans a1, b1⟩
theorem x_callVT {i ci N index n : Nat} {fin : List (Option XV)} {T : u_T} (d : decode y.2.1 pc = .ok (.invokevirtual index, 3)) (he : x_edgeVL y y' index n) (hS : σ.1[i]? = some (.inl (ci, fin))) (hcl : vwCl[ci]? = some (y'.1.cls, T, N)) (hM : x_M y' (xR (some i) :: as) σ Q') (hst : stk = as.reverse ++ xR (some i) :: st) (hn : as.length = n) (hst8 : x_words st ≤ 8)
    (hc : kc + y'.2.2.2.2.cells ≤ y.2.2.2.2.cells) (hs : ks + y'.2.2.2.2.slots ≤ y.2.2.2.2.slots)
    (kk : ∀ (v : Option XV) (σ' : XM), Q' (.inl v) σ' → x_A y (pc + 3) lv (v.toList ++ st) σ' (kc + y'.2.2.2.2.cells) (ks + y'.2.2.2.2.slots) Q) (kx : ∀ (E : String) (σ' : XM), Q' (.inr E) σ' → ∃ hp pc', x_cat y pc E hp ∧ x_hs y hp pc' ∧ x_A y pc' [] [] σ' (kc + y'.2.2.2.2.cells) (ks + y'.2.2.2.2.slots) Q) : x_A y pc lv stk σ kc ks Q := by
  intro h1 h2 h3 p l e s m args below meth c A D aa0 aa H locs ls hC ha hw hS0 hL
  subst hst
  obtain ⟨⟨w1, w2, w3, w4, w5, w6⟩, w7⟩ := he
  have hF := x_free hw hS0 hC.2.2.2.2.2.2.2.2.2.2.2
  have hok1 : ∀ v ∈ st, x_ok σ.1.length v := fun v hv => h1 v (List.mem_append_right _ (List.mem_cons_of_mem _ hv))
  have hoka : ∀ v ∈ xR (some i) :: as, x_ok σ.1.length v := fun v hv => by
    rcases List.mem_cons.mp hv with rfl | hv
    · exact h1 _ (List.mem_append_right _ List.mem_cons_self)
    · exact h1 v (List.mem_append_left _ (List.mem_reverse.mpr hv))
  have hts := hC.2.2.2.2.2.1
  have hk := hM hoka h3 l D aa H.size hC.2.2.2.2.2.2.2.2.1
  have cb := callB_of (R := y.2.2.2.2) (own := y.1.cls) (index := index) n hts (x_goodM w4) (show x_wsM y' = _ from rfl) rfl rfl (hts _ w3) (hts _ w1) w5 w6
  refine x_behindT hok1 h2 hC ha hw hS0 hL rfl (vx_runV (C := y'.1.cls) (b := x_ad aa i) (As := as.map (x_cv aa)) ⟨hC.1, hC.2.1, hC.2.2.2.1, hC.2.2.2.2.1, hts⟩ hk ⟨cb, hts _ w2, hts _ w7⟩ ⟨x_blind, ?_, fun U hU hW => ⟨rfl, by rw [hU], by rw [hU]; exact (hw.self).moved hW.alike, by rw [hU]; exact ((hC.2.2.2.2.2.2.2.2.2.2.1.kept hS0.2.1).narrow hF).moved hW⟩⟩ rfl (by rw [List.length_map]; exact hn) hL.1 (by simp [x_cv]) (lv_room (by rw [x_words_cat]; exact hst8)) d ⟨hc, hs⟩) kk kx
  exact va_recv (x_K_nil hw.2.1) hw.2.2.1 hcl (x_ws_obj hS)
end XW
