/-! rows for constructors: arrays of references, final fields, the calls -/
theorem x_ws_sh {aa : XAA} {σ : XM} {i : Nat} {sh : XS} {e : va_E} (hi : i < σ.1.length) (he : x_ent aa (σ.1.set i sh, σ.2) i = e) : (x_ws aa σ).set i (x_ad aa i, e) = x_ws aa (σ.1.set i sh, σ.2) := by
  apply List.ext_getElem?
  intro k
  rw [List.getElem?_set]
  unfold x_ws
  rw [List.length_map, List.length_range, List.getElem?_map, List.getElem?_map]
  show _ = ((List.range (σ.1.set i sh).length)[k]?).map _
  rw [List.length_set]
  by_cases hk : k < σ.1.length
  · rw [List.getElem?_range hk]
    by_cases e1 : i = k
    · subst e1
      rw [if_pos rfl, if_pos hk, ← he]
      rfl
    · rw [if_neg e1]
      show some (x_ad aa k, x_ent aa σ k) = some (x_ad aa k, x_ent aa (σ.1.set i sh, σ.2) k)
      unfold x_ent
      rw [show (σ.1.set i sh, σ.2).1[k]? = σ.1[k]? from List.getElem?_set_ne e1]
  · have hn : (List.range σ.1.length)[k]? = none := by simp; omega
    rw [hn]
    by_cases e1 : i = k
    · subst e1
      rw [if_pos rfl, if_neg hk]
      rfl
    · rw [if_neg e1]
      rfl
section XI2
variable {y y' : XY} {pc : Nat} {lv : List (Option XV)} {st stk as : List XV} {σ σ' : XM} {kc ks : Nat} {Q Q' : XRes → XM → Prop}
theorem x_newR {n : Int} {index : Nat} (len : Nat) (d : decode y.2.1 pc = .ok (.anewarray index, 3)) (hcl : Cond.classLink y.1.cls index "SmokeTubes$Table" ∈ x_tbl) (hn : n = len) (hlen : len ≤ 5000) (hz : σ.2 σ.1.length = fun _ => 0)
    (hkc : kc + 1 ≤ y.2.2.2.2.cells) (hks : ks + len ≤ y.2.2.2.2.slots) (k : x_A y (pc + 3) lv (xR (some σ.1.length) :: st) (σ.1 ++ [.inr (3, len)], σ.2) (kc + 1) (ks + len) Q) : x_A y pc lv (xI n :: st) σ kc ks Q := by
  intro h1 h2 h3 p l e s m args below meth c A D aa0 aa H locs ls hC ha hw hS0 hL
  have hts := hC.2.2.2.2.2.1
  subst hn
  have hr : x_r32 (len : Int) := x_hd h1
  have e32 : (Int32.ofInt (len : Int)).toInt = len := i32_toInt_r hr
  refine va_newq (n := Int32.ofInt (len : Int)) (N' := len) hC.1 hC.2.1 hC.2.2.2.2.1 (hts _ hcl) hC.2.2.2.2.2.2.2.2.2.2.1.2.2.2.2.2 (x_K_nil hw.2.1) hw.2.2.1 hw.2.2.2 hS0 hC.2.2.2.2.2.2.2.2.2.2.2 ?_ ?_ (by omega) hkc hks d (fun q cA H1 hK hP hD hS => ?_)
  · intro hlt
    have := Int32.lt_iff_toInt_lt.mp hlt
    rw [e32] at this
    have h0 : (0 : Int32).toInt = 0 := rfl
    omega
  · show (Int32.ofInt (len : Int)).toInt.toNat = len
    rw [e32]; omega
  · have hp : aa <+: aa ++ [(q, cA)] := List.prefix_append aa [(q, cA)]
    have el := hw.1
    have hok' : x_okM (σ.1 ++ [.inr (3, len)], σ.2) := x_okM_app h3 ⟨by show len < 2147483648; omega, fun j => by
      rw [hz]
      exact ⟨Int.le_refl 0, by show (0 : Int) ≤ _; omega⟩⟩
    have ew := x_ws_app (q := (q, cA)) (sh := .inr (3, len)) el h3
    have hcl' : x_cl (aa ++ [(q, cA)]) σ.1.length = cA := by
      unfold x_cl
      rw [← el, List.getElem?_append_right (Nat.le_refl _), Nat.sub_self]; rfl
    have ee : x_ent (aa ++ [(q, cA)]) (σ.1 ++ [.inr (3, len)], σ.2) σ.1.length = .inl (cA, len, .inr (.inr (.inr (.inr (fun _ => none))))) := by
      unfold x_ent
      rw [show (σ.1 ++ [Sum.inr (3, len)], σ.2).1[σ.1.length]? = some (.inr (3, len)) from by
        show (σ.1 ++ [Sum.inr (3, len)])[σ.1.length]? = _
        rw [List.getElem?_append_right (Nat.le_refl _), Nat.sub_self]; rfl]
      show Sum.inl (x_cl (aa ++ [(q, cA)]) σ.1.length, x_arr (aa ++ [(q, cA)]) 3 len (σ.2 σ.1.length)) = _
      rw [hz, hcl']
      rfl
    rw [ee] at ew
    have hn : x_ad (aa ++ [(q, cA)]) σ.1.length = q := by
      unfold x_ad
      rw [← el, List.getElem?_append_right (Nat.le_refl _), Nat.sub_self]; rfl
    have hW : x_World D (aa ++ [(q, cA)]) (σ.1 ++ [.inr (3, len)], σ.2) A s H1 := by
      refine ⟨by simp [el], ⟨hw.2.1.1, fun i a hi => ?_⟩, by rw [ew]; exact hP, by rw [ew]; exact hD⟩
      have hi : (σ.1 ++ [Sum.inr (3, len)])[i]? = some (.inr a) := hi
      have h' := (List.getElem?_eq_some_iff.mp hi).1
      simp at h'
      by_cases e : i = σ.1.length
      · subst e
        rw [List.getElem?_append_right (Nat.le_refl _), Nat.sub_self] at hi
        have : a = (3, len) := by
          have : some (Sum.inr (3, len) : XS) = some (.inr a) := hi
          cases this; rfl
        subst this
        rw [hcl']
        exact hK.2 0 _ rfl
      · have hlt : i < σ.1.length := by omega
        rw [List.getElem?_append_left hlt] at hi
        rw [x_cl_pre hp (by omega)]
        exact hw.2.1.2 i a hi
    have hlen' : (σ.1 ++ [Sum.inr (3, len)] : List XS).length = σ.1.length + 1 := by simp
    have hk' := k (fun v hv => by
        show x_ok (σ.1 ++ [Sum.inr (3, len)] : List XS).length v
        rw [hlen']
        rcases List.mem_cons.mp hv with rfl | hv
        · show σ.1.length < σ.1.length + 1; omega
        · exact x_ok_mono (by omega) (x_tl h1 v hv)) (fun j v hj => by
        show x_ok (σ.1 ++ [Sum.inr (3, len)] : List XS).length v
        rw [hlen']; exact x_ok_mono (by omega) (h2 j v hj)) hok' p l e s m args below meth c A D aa0 (aa ++ [(q, cA)]) H1 locs ls hC (ha.trans hp) hW hS (x_L_pre hp (fun j v hj => by rw [el]; exact h2 j v hj) hL)
    have em : (xR (some σ.1.length) :: st).map (x_cv (aa ++ [(q, cA)])) = Value.ref q :: st.map (x_cv aa) := by
      rw [List.map_cons, x_map_pre hp (fun v hv => by rw [el]; exact x_tl h1 v hv)]
      show Value.ref (x_ad (aa ++ [(q, cA)]) σ.1.length) :: _ = _
      rw [hn]
    rw [em] at hk'
    exact hk'
/-- a final field, in a constructor -/
theorem x_putFi {i ci kf index N : Nat} {fin : List (Option XV)} {C : String} {T : u_T} {v : XV} {ty : FieldType} (ty0 : Nat → FieldType) (d : decode y.2.1 pc = .ok (.putfield index, 3)) (hS : σ.1[i]? = some (.inl (ci, fin))) (hk : kf < fin.length) (hc : vwCl[ci]? = some (C, T, N)) (hin : ∀ w ∈ u_ws C T N, w ∈ x_tbl) (hl : Cond.fieldLink y.1.cls index (T kf).1 (T kf).2.1 (T kf).2.2.1 ∈ x_tbl)
    (hty : ∀ k, k < N → parseFieldDescriptor (T k).2.2.1 = some (ty0 k)) (hnm : ∀ a, a < N → ∀ b, b < N → a ≠ b → (T a).2.1 ≠ (T b).2.1) (hd : parseFieldDescriptor (T kf).2.2.1 = some ty) (hfin : (T kf).2.2.2 = true) (hini : y.1.name = "<init>") (hdecl : (T kf).1 = y.1.cls) (hn : ∀ aa, narrow ty (x_cv aa v) = x_cv aa v) (hf : ∀ aa, fits ty (x_cv aa v) = true)
    (k : x_A y (pc + 3) lv st (σ.1.set i (.inl (ci, fin.set kf (some v))), σ.2) kc ks Q) : x_A y pc lv (v :: xR (some i) :: st) σ kc ks Q := by
  intro h1 h2 h3 p l e s m args below meth c A D aa0 aa H locs ls hC ha hw hS0 hL
  obtain ⟨g1, g2, q, g3, g4⟩ := h3 i _ hS
  have hil : i < σ.1.length := (List.getElem?_eq_some_iff.mp hS).1
  have hN : kf < N := by rw [show vwCl[ci]? = some (C, T, N) from hc] at g3; cases g3; exact Nat.lt_of_lt_of_eq hk g4
  have hS' : (σ.1.set i (.inl (ci, fin.set kf (some v))))[i]? = some (.inl (ci, fin.set kf (some v))) := by rw [List.getElem?_set_self hil]
  have hok : x_okM (σ.1.set i (.inl (ci, fin.set kf (some v))), σ.2) := by
    intro a sh hsh
    show x_okC (σ.1.set i (.inl (ci, fin.set kf (some v)))).length sh (σ.2 a)
    rw [List.length_set]
    by_cases e : a = i
    · subst e
      rw [show (σ.1.set a (.inl (ci, fin.set kf (some v))), σ.2).1[a]? = some (.inl (ci, fin.set kf (some v))) from hS'] at hsh
      cases hsh
      refine ⟨fun b w hb => ?_, g2, q, g3, by rw [List.length_set]; exact g4⟩
      rw [List.getElem?_set] at hb
      by_cases e2 : kf = b
      · subst e2
        rw [if_pos rfl, if_pos hk] at hb
        cases hb
        exact x_hd h1
      · rw [if_neg e2] at hb
        exact g1 b w hb
    · exact h3 a sh (by rw [← hsh]; exact (List.getElem?_set_ne (fun z => e z.symm)).symm)
  have he : x_ent aa (σ.1.set i (.inl (ci, fin.set kf (some v))), σ.2) i = .inr (ci, (x_flds aa fin (σ.2 i)).set kf (x_cv aa v)) := by
    unfold x_ent
    rw [show (σ.1.set i (.inl (ci, fin.set kf (some v))), σ.2).1[i]? = some (.inl (ci, fin.set kf (some v))) from hS']
    show Sum.inr (ci, x_flds aa (fin.set kf (some v)) (σ.2 i)) = _
    congr 2
    apply List.ext_getElem?
    intro b
    rw [List.getElem?_set, x_flds_len]
    by_cases hb : b < fin.length
    · rw [x_flds_get (by rw [List.length_set]; exact hb), x_flds_get hb]
      unfold x_fv
      rw [List.getElem?_set]
      by_cases e1 : kf = b
      · subst e1
        rw [if_pos rfl, if_pos rfl, if_pos hb, if_pos hb]
      · rw [if_neg e1, if_neg e1]
    · have n1 : (x_flds aa (fin.set kf (some v)) (σ.2 i))[b]? = none := by rw [List.getElem?_eq_none_iff, x_flds_len, List.length_set]; omega
      have n2 : (x_flds aa fin (σ.2 i))[b]? = none := by rw [List.getElem?_eq_none_iff, x_flds_len]; omega
      rw [n1, n2]
      split
      · next e1 => omega
      · rfl
  refine va_putF hC.1 hC.2.1 hC.2.2.2.2.2.1 hin ty0 hty hnm hC.2.2.2.2.1 (x_K_nil hw.2.1) hw.2.2.1 hw.2.2.2 hS0 i (x_ws_obj hS) hc kf hN (hC.2.2.2.2.2.1 _ hl) (fun _ z => z) hfin (hC.2.2.2.2.2.2.2.2.2.1.trans hini) hdecl hd (hn aa) (hf aa) (by rw [x_flds_len]; exact hk) d (fun H1 locs1 hP hD hS1 => ?_)
  have e5 := x_ws_sh (aa := aa) (σ := σ) (sh := .inl (ci, fin.set kf (some v))) hil he
  rw [e5] at hP hD
  refine k (fun w hw' => by
      show x_ok (σ.1.set i _).length w
      rw [List.length_set]; exact x_tl (x_tl h1) w hw') (fun j w hj => by
      show x_ok (σ.1.set i _).length w
      rw [List.length_set]; exact h2 j w hj) hok p l e s m args below meth c A D aa0 aa H1 locs1 ls hC ha ⟨by show aa.length = (σ.1.set i _).length; rw [List.length_set]; exact hw.1, ⟨hw.2.1.1, fun j a hj => ?_⟩, hP, hD⟩ hS1 hL
  have hj : (σ.1.set i (.inl (ci, fin.set kf (some v))))[j]? = some (.inr a) := hj
  have hji : i ≠ j := fun z => by subst z; rw [hS'] at hj; cases hj
  rw [List.getElem?_set_ne hji] at hj
  exact hw.2.1.2 j a hj
/-- calls of constructors -/
def x_edgeI (y y' : XY) (index n : Nat) : Prop := x_edge y y' index n (.methodLink y.1.cls index y'.1) (.instanceMethod y'.1) ∧ y'.1.name = "<init>" ∧ y'.2.2.2.1 = none
def x_edgeIN (y y' : XY) (index n : Nat) : Prop :=
  Cond.methodLinkNest y.1.cls index y'.1 "SmokeTubes" ∈ x_nw ∧ Cond.instanceMethod y'.1 ∈ x_tbl ∧ Cond.initialized y'.1.cls ∈ x_tbl ∧ Cond.code y'.1 y'.2.1 y'.2.2.1 y'.2.2.2.1 ∈ x_tbl ∧
  (y'.1.cls ≠ "java/lang/invoke/MethodHandle" ∧ y'.1.cls ≠ "java/lang/invoke/VarHandle" ∧ (parseMethodDescriptor y'.1.desc).map (fun d => d.parameters.length) = some n) ∧ (y'.2.2.2.2.frames + 1 ≤ y.2.2.2.2.frames ∧ 8 + (y'.2.2.1 + 11) + y'.2.2.2.2.locals ≤ y.2.2.2.2.locals) ∧ x_tab y.1 = [] ∧ y'.1.name = "<init>" ∧ y'.2.2.2.1 = none
theorem x_callI {i index n kc' ks' : Nat} (d : decode y.2.1 pc = .ok (.invokespecial index, 3)) (he : x_edgeI y y' index n) (hkc : kc + y'.2.2.2.2.cells = kc') (hks : ks + y'.2.2.2.2.slots = ks') (hc : kc' ≤ y.2.2.2.2.cells) (hs : ks' ≤ y.2.2.2.2.slots) (hst : stk = as.reverse ++ xR (some i) :: st) (hn : as.length = n) (hst8 : x_words st ≤ 8) (hM : x_M y' (xR (some i) :: as) σ (x_is (.inl none) σ'))
    (k : x_A y (pc + 3) lv st σ' kc' ks' Q) : x_A y pc lv stk σ kc ks Q := by
  intro h1 h2 h3 p l e s m args below meth c A D aa0 aa H locs ls hC ha hw hS0 hL
  subst hst hkc hks
  obtain ⟨⟨w1, w2, w3, w4, w5, w6, w8⟩, w9, w10⟩ := he
  have hF := x_free hw hS0 hC.2.2.2.2.2.2.2.2.2.2.2
  have hok1 : ∀ v ∈ st, x_ok σ.1.length v := fun v hv => h1 v (List.mem_append_right _ (List.mem_cons_of_mem _ hv))
  have hoka : ∀ v ∈ xR (some i) :: as, x_ok σ.1.length v := fun v hv => by
    rcases List.mem_cons.mp hv with rfl | hv
    · exact h1 _ (List.mem_append_right _ List.mem_cons_self)
    · exact h1 v (List.mem_append_left _ (List.mem_reverse.mpr hv))
  have hts := hC.2.2.2.2.2.1
  have hk := x_met (hM hoka h3 l D aa H.size hC.2.2.2.2.2.2.2.2.1) (fun E s t ⟨τ, aa', q, _⟩ => by cases q.1)
  have cb := callB_of (R := y.2.2.2.2) (own := y.1.cls) (index := index) n hts (x_goodM w4) (show x_wsM y' = _ from rfl) rfl rfl (hts _ w3) (hts _ w1) w5 w6
  rw [w10] at cb
  refine x_behind (Q' := x_is (.inl none) σ') hok1 h2 w8 hC ha hw hS0 hL rfl hc hs (x_run (va_runI (b := x_ad aa i) (As := as.map (x_cv aa)) ⟨hC.1, hC.2.1, hC.2.2.2.1, hC.2.2.2.2.1, hts⟩ hk ⟨cb, w9, hts _ w2⟩ ⟨x_blind, fun U hU hW => ⟨rfl, by rw [hU], by rw [hU]; exact (hw.self).moved hW.alike, by rw [hU]; exact ((hC.2.2.2.2.2.2.2.2.2.2.1.kept hS0.2.1).narrow hF).moved hW⟩⟩ rfl (by rw [List.length_map]; exact hn) hL.1 (by simp [x_cv]) (lv_room (by rw [x_words_cat]; exact hst8)) d ⟨hc, hs⟩)) (fun v τ h => ?_) (fun E τ h => ?_)
  · obtain ⟨q1, q2⟩ := h
    cases q1; subst q2
    exact k
  · cases h.1
theorem x_callIN {i index n kc' ks' : Nat} (d : decode y.2.1 pc = .ok (.invokespecial index, 3)) (he : x_edgeIN y y' index n) (hkc : kc + y'.2.2.2.2.cells = kc') (hks : ks + y'.2.2.2.2.slots = ks') (hc : kc' ≤ y.2.2.2.2.cells) (hs : ks' ≤ y.2.2.2.2.slots) (hst : stk = as.reverse ++ xR (some i) :: st) (hn : as.length = n) (hst8 : x_words st ≤ 8) (hM : x_M y' (xR (some i) :: as) σ (x_is (.inl none) σ'))
    (k : x_A y (pc + 3) lv st σ' kc' ks' Q) : x_A y pc lv stk σ kc ks Q := by
  intro h1 h2 h3 p l e s m args below meth c A D aa0 aa H locs ls hC ha hw hS0 hL
  subst hst hkc hks
  obtain ⟨w1, w2, w3, w4, w5, w6, w8, w9, w10⟩ := he
  have hF := x_free hw hS0 hC.2.2.2.2.2.2.2.2.2.2.2
  have hok1 : ∀ v ∈ st, x_ok σ.1.length v := fun v hv => h1 v (List.mem_append_right _ (List.mem_cons_of_mem _ hv))
  have hoka : ∀ v ∈ xR (some i) :: as, x_ok σ.1.length v := fun v hv => by
    rcases List.mem_cons.mp hv with rfl | hv
    · exact h1 _ (List.mem_append_right _ List.mem_cons_self)
    · exact h1 v (List.mem_append_left _ (List.mem_reverse.mpr hv))
  have hts := hC.2.2.2.2.2.1
  have hk := x_met (hM hoka h3 l D aa H.size hC.2.2.2.2.2.2.2.2.1) (fun E s t ⟨τ, aa', q, _⟩ => by cases q.1)
  have cn := va_cnB (R := y.2.2.2.2) (own := y.1.cls) (host := "SmokeTubes") (index := index) n hts (x_goodM w4) (show x_wsM y' = _ from rfl) rfl rfl (hC.2.2.2.2.2.2.2.2.2.2.1.2.2.1 _ w1) (hts _ w3) w5 w6
  rw [w10] at cn
  refine x_behind (Q' := x_is (.inl none) σ') hok1 h2 w8 hC ha hw hS0 hL rfl hc hs (x_run (va_runIN (b := x_ad aa i) (As := as.map (x_cv aa)) ⟨hC.1, hC.2.1, hC.2.2.2.1, hC.2.2.2.2.1, hts⟩ hk ⟨cn, w9, hts _ w2⟩ ⟨x_blind, fun U hU hW => ⟨rfl, by rw [hU], by rw [hU]; exact (hw.self).moved hW.alike, by rw [hU]; exact ((hC.2.2.2.2.2.2.2.2.2.2.1.kept hS0.2.1).narrow hF).moved hW⟩⟩ rfl (by rw [List.length_map]; exact hn) hL.1 (by simp [x_cv]) (lv_room (by rw [x_words_cat]; exact hst8)) d ⟨hc, hs⟩)) (fun v τ h => ?_) (fun E τ h => ?_)
  · obtain ⟨q1, q2⟩ := h
    cases q1; subst q2
    exact k
  · cases h.1
theorem x_objI {i index : Nat} (d : decode y.2.1 pc = .ok (.invokespecial index, 3)) (hl : Cond.methodLink y.1.cls index Lib.objectInit ∈ x_tbl) (hi : Cond.instanceMethod Lib.objectInit ∈ x_tbl) (hc : Cond.code Lib.objectInit ⟨#[0xb1]⟩ 1 none ∈ x_tbl) (hf : 1 ≤ y.2.2.2.2.frames) (hlo : x_words st + 12 ≤ y.2.2.2.2.locals) (k : x_A y (pc + 3) lv st σ kc ks Q) : x_A y pc lv (xR (some i) :: st) σ kc ks Q := by
  intro h1 h2 h3 p l e s m args below meth c A D aa0 aa H locs ls hC ha hw hS0 hL
  have hts := hC.2.2.2.2.2.1
  refine W.objInit (g := F0 m pc ls ((xR (some i) :: st).map (x_cv aa))) hC.1 hC.2.1 hC.2.2.2.2.1 (hts _ hl) (hts _ hi) (hts _ hc) rfl (hL.1.trans hC.2.2.2.1.symm) (a := x_ad aa i) (rest := st.map (x_cv aa)) rfl d hf ?_ (k (x_tl h1) h2 h3 p l e s m args below meth c A D aa0 aa H locs ls hC ha hw hS0 hL)
  have : 2 * (F0 m pc ls ((xR (some i) :: st).map (x_cv aa))).monitorRoom = 0 := rfl
  rw [this, x_words_cat]
  omega
end XI2
