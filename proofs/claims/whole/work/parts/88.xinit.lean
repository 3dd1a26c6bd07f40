/-! rows for constructors: new cells, final fields, calls of constructors -/
theorem x_cl_pre {aa aa' : XAA} {i : Nat} (h : aa <+: aa') (hi : i < aa.length) : x_cl aa' i = x_cl aa i := by
  obtain ⟨t, rfl⟩ := h
  unfold x_cl
  rw [List.getElem?_append_left hi]
theorem x_okC_mono {n n' : Nat} (h : n ≤ n') {sh : XS} {g : Nat → Int} (a : x_okC n sh g) : x_okC n' sh g := by
  rcases sh with o | ⟨kd, len⟩
  · exact ⟨fun k v hk => x_ok_mono h (a.1 k v hk), a.2.1, a.2.2⟩
  · refine ⟨a.1, fun j => ?_⟩
    have := a.2 j
    unfold x_okE at *
    dsimp only at this ⊢
    split at this
    · exact this
    · exact this
    · exact this
    · exact ⟨this.1, by omega⟩
theorem x_ent_pre {aa aa' : XAA} {σ σ' : XM} {i : Nat} (h : aa <+: aa') (hl : aa.length = σ.1.length) (hok : x_okM σ) (hi : i < σ.1.length) (e1 : σ'.1[i]? = σ.1[i]?) (e2 : σ'.2 i = σ.2 i) : x_ent aa' σ' i = x_ent aa σ i := by
  unfold x_ent
  rw [e1, e2]
  cases hs : σ.1[i]? with
  | none => rfl
  | some sh =>
    have hc := hok i sh hs
    rcases sh with o | ⟨kd, len⟩
    · show Sum.inr (o.1, x_flds aa' o.2 (σ.2 i)) = Sum.inr (o.1, x_flds aa o.2 (σ.2 i))
      congr 2
      unfold x_flds
      refine List.map_congr_left (fun k hk => ?_)
      unfold x_fv
      cases hf : o.2[k]? with
      | none => rfl
      | some f =>
        cases f with
        | none => rfl
        | some v => exact x_cv_pre h (by rw [hl]; exact hc.1 k v hf)
    · show Sum.inl (x_cl aa' i, x_arr aa' kd len (σ.2 i)) = Sum.inl (x_cl aa i, x_arr aa kd len (σ.2 i))
      rw [x_cl_pre h (by rw [hl]; exact hi)]
      congr 2
      unfold x_arr
      have hE := hc.2
      rcases kd with _ | _ | _ | kd
      · rfl
      · rfl
      · rfl
      · show (len, Sum.inr (Sum.inr (Sum.inr (Sum.inr (fun j => x_rf aa' (σ.2 i j)))))) = (len, Sum.inr (Sum.inr (Sum.inr (Sum.inr (fun j => x_rf aa (σ.2 i j))))))
        congr 5
        funext j
        have hj : 0 ≤ σ.2 i j ∧ σ.2 i j ≤ σ.1.length := hE j
        unfold x_rf
        split
        · rfl
        · rw [x_ad_pre h (by omega)]
/-- one cell more -/
theorem x_ws_app {aa : XAA} {q : Nat × ClassId} {σ : XM} {sh : XS} (hl : aa.length = σ.1.length) (hok : x_okM σ) : x_ws (aa ++ [q]) (σ.1 ++ [sh], σ.2) = x_ws aa σ ++ [(q.1, x_ent (aa ++ [q]) (σ.1 ++ [sh], σ.2) σ.1.length)] := by
  unfold x_ws
  show (List.range (σ.1 ++ [sh]).length).map _ = _
  rw [List.length_append, List.length_singleton, List.range_succ, List.map_append]
  congr 1
  · refine List.map_congr_left (fun i hi => ?_)
    have hi := List.mem_range.mp hi
    rw [x_ad_pre (List.prefix_append aa [q]) (by omega), x_ent_pre (σ := σ) (σ' := (σ.1 ++ [sh], σ.2)) (List.prefix_append aa [q]) hl hok hi (List.getElem?_append_left hi) rfl]
  · have e : x_ad (aa ++ [q]) σ.1.length = q.1 := by
      unfold x_ad
      rw [← hl, List.getElem?_append_right (Nat.le_refl _), Nat.sub_self]
      rfl
    show [(x_ad (aa ++ [q]) σ.1.length, _)] = [_]
    rw [e]
theorem x_okM_app {σ : XM} {sh : XS} (hok : x_okM σ) (hc : x_okC (σ.1.length + 1) sh (σ.2 σ.1.length)) : x_okM (σ.1 ++ [sh], σ.2) := by
  intro i s hs
  have e : (σ.1 ++ [sh]).length = σ.1.length + 1 := by simp
  show x_okC (σ.1 ++ [sh]).length s (σ.2 i)
  rw [e]
  by_cases h : i < σ.1.length
  · have hs' : σ.1[i]? = some s := by rw [← hs]; exact (List.getElem?_append_left h).symm
    exact x_okC_mono (by omega) (hok i s hs')
  · have hl := (List.getElem?_eq_some_iff.mp hs).1
    have : i = σ.1.length := by
      have : i < (σ.1 ++ [sh]).length := hl
      omega
    subst this
    have : (σ.1 ++ [sh])[σ.1.length]? = some sh := by rw [List.getElem?_append_right (Nat.le_refl _), Nat.sub_self]; rfl
    rw [show (σ.1 ++ [sh], σ.2).1[σ.1.length]? = some sh from this] at hs
    cases hs
    exact hc
/-- fields as they are born -/
def x_dok (defs : List (Option XV)) : Bool := defs.all (fun o => match o with
  | none => true
  | some (.inl z) => z == 0
  | some (.inr (.inr none)) => true
  | _ => false)
theorem x_dok_fv {defs : List (Option XV)} (h : x_dok defs = true) (aa : XAA) (j : Nat) : x_fv aa defs (fun _ => 0) j = x_fv [] defs (fun _ => 0) j := by
  unfold x_fv
  cases hj : defs[j]? with
  | none => rfl
  | some o =>
    have := List.all_eq_true.mp h o (List.mem_of_getElem? hj)
    rcases o with _ | (z | z | (_ | i))
    · rfl
    · rfl
    · rfl
    · rfl
    · cases this
theorem x_dok_ok {defs : List (Option XV)} (h : x_dok defs = true) (n : Nat) {k : Nat} {v : XV} (hk : defs[k]? = some (some v)) : x_ok n v := by
  have := List.all_eq_true.mp h _ (List.mem_of_getElem? hk)
  rcases v with z | z | (_ | i)
  · have : z = 0 := by simpa using this
    subst this
    exact x_r0
  · cases this
  · trivial
  · cases this
section XI
variable {y y' : XY} {pc : Nat} {lv : List (Option XV)} {st stk as : List XV} {σ σ' : XM} {kc ks : Nat} {Q Q' : XRes → XM → Prop}
theorem x_newO {ci index N : Nat} {C : String} {T : u_T} (defs : List (Option XV)) (ty : Nat → FieldType) (d : decode y.2.1 pc = .ok (.new index, 3)) (hc : vwCl[ci]? = some (C, T, N)) (hin : ∀ w ∈ u_ws C T N, w ∈ x_tbl) (hty : ∀ k, k < N → parseFieldDescriptor (T k).2.2.1 = some (ty k)) (hcl : Cond.classLink y.1.cls index C ∈ x_tbl) (hinst : Cond.instantiable C N ∈ x_tbl) (hini : Cond.initialized C ∈ x_tbl) (hl : defs.length = N) (hd1 : x_dok defs = true) (hd2 : ∀ j, j < N → x_fv [] defs (fun _ => 0) j = defaultValue (ty j)) (hz : σ.2 σ.1.length = fun _ => 0)
    (hkc : kc + 1 ≤ y.2.2.2.2.cells) (hks : ks + N ≤ y.2.2.2.2.slots) (k : x_A y (pc + 3) lv (xR (some σ.1.length) :: st) (σ.1 ++ [.inl (ci, defs)], σ.2) (kc + 1) (ks + N) Q) : x_A y pc lv st σ kc ks Q := by
  intro h1 h2 h3 p l e s m args below meth c A D aa0 aa H locs ls hC ha hw hS0 hL
  have hts := hC.2.2.2.2.2.1
  refine va_new (fs := x_flds aa defs (fun _ => 0)) hC.1 hC.2.1 hts hin ty hty hC.2.2.2.2.1 (hts _ hcl) (hts _ hinst) (hts _ hini) (x_K_nil hw.2.1) hw.2.2.1 hw.2.2.2 hS0 hC.2.2.2.2.2.2.2.2.2.2.2 hc (fun j hj => ?_) hkc hks d (fun q H1 hP hD hS => ?_)
  · unfold vp_V
    rw [List.getD_eq_getElem?_getD, x_flds_get (by omega), Option.getD_some, x_dok_fv hd1, hd2 j hj]
  · have hp : aa <+: aa ++ [(q, 0)] := List.prefix_append aa [(q, 0)]
    have el := hw.1
    have hok' : x_okM (σ.1 ++ [.inl (ci, defs)], σ.2) := x_okM_app h3 ⟨fun k v hk => x_dok_ok hd1 _ hk, fun k => by rw [hz]; exact x_r0, (C, T, N), hc, hl⟩
    have ew := x_ws_app (q := (q, 0)) (sh := .inl (ci, defs)) el h3
    have ee : x_ent (aa ++ [(q, 0)]) (σ.1 ++ [.inl (ci, defs)], σ.2) σ.1.length = .inr (ci, x_flds aa defs (fun _ => 0)) := by
      unfold x_ent
      rw [show (σ.1 ++ [Sum.inl (ci, defs)], σ.2).1[σ.1.length]? = some (.inl (ci, defs)) from by
        show (σ.1 ++ [Sum.inl (ci, defs)])[σ.1.length]? = _
        rw [List.getElem?_append_right (Nat.le_refl _), Nat.sub_self]; rfl]
      show Sum.inr (ci, x_flds (aa ++ [(q, 0)]) defs (σ.2 σ.1.length)) = _
      rw [hz]
      congr 2
      unfold x_flds
      exact List.map_congr_left (fun j _ => by rw [x_dok_fv hd1 (aa ++ [(q, 0)]), x_dok_fv hd1 aa])
    rw [ee] at ew
    have hn : x_ad (aa ++ [(q, 0)]) σ.1.length = q := by
      unfold x_ad
      rw [← el, List.getElem?_append_right (Nat.le_refl _), Nat.sub_self]; rfl
    have hW : x_World D (aa ++ [(q, 0)]) (σ.1 ++ [.inl (ci, defs)], σ.2) A s H1 := by
      refine ⟨by simp [el], ⟨hw.2.1.1, fun i a hi => ?_⟩, by rw [ew]; exact hP, by rw [ew]; exact hD⟩
      have hi : (σ.1 ++ [Sum.inl (ci, defs)])[i]? = some (.inr a) := hi
      have hlt : i < σ.1.length := by
        have h' := (List.getElem?_eq_some_iff.mp hi).1
        simp at h'
        by_cases e : i = σ.1.length
        · subst e
          rw [List.getElem?_append_right (Nat.le_refl _), Nat.sub_self] at hi
          cases hi
        · omega
      rw [List.getElem?_append_left hlt] at hi
      rw [x_cl_pre hp (by omega)]
      exact hw.2.1.2 i a hi
    have hlen : (σ.1 ++ [Sum.inl (ci, defs)] : List XS).length = σ.1.length + 1 := by simp
    have hk := k (fun v hv => by
        show x_ok (σ.1 ++ [Sum.inl (ci, defs)] : List XS).length v
        rw [hlen]
        rcases List.mem_cons.mp hv with rfl | hv
        · show σ.1.length < σ.1.length + 1; omega
        · exact x_ok_mono (by omega) (h1 v hv)) (fun j v hj => by
        show x_ok (σ.1 ++ [Sum.inl (ci, defs)] : List XS).length v
        rw [hlen]; exact x_ok_mono (by omega) (h2 j v hj)) hok' p l e s m args below meth c A D aa0 (aa ++ [(q, 0)]) H1 locs ls hC (ha.trans hp) hW hS (x_L_pre hp (fun j v hj => by rw [el]; exact h2 j v hj) hL)
    have em : (xR (some σ.1.length) :: st).map (x_cv (aa ++ [(q, 0)])) = Value.ref q :: st.map (x_cv aa) := by
      rw [List.map_cons, x_map_pre hp (fun v hv => by rw [el]; exact h1 v hv)]
      show Value.ref (x_ad (aa ++ [(q, 0)]) σ.1.length) :: _ = _
      rw [hn]
    rw [em] at hk
    exact hk
/-- an array of ints, longs or booleans -/
def x_kd (kd : Nat) (at' : ArrayType) : Prop := newarray.typeOf at' = x_ty kd ∧ kd ≤ 2
theorem x_newA {at' : ArrayType} {n : Int} (kd len : Nat) (d : decode y.2.1 pc = .ok (.newarray at', 2)) (hk : x_kd kd at') (hw' : Cond.arrayClass (newarray.typeOf at') ∈ x_tbl) (hn : n = len) (hlen : len ≤ 5000) (hz : σ.2 σ.1.length = fun _ => 0)
    (hkc : kc + 1 ≤ y.2.2.2.2.cells) (hks : ks + len ≤ y.2.2.2.2.slots) (k : x_A y (pc + 2) lv (xR (some σ.1.length) :: st) (σ.1 ++ [.inr (kd, len)], σ.2) (kc + 1) (ks + len) Q) : x_A y pc lv (xI n :: st) σ kc ks Q := by
  intro h1 h2 h3 p l e s m args below meth c A D aa0 aa H locs ls hC ha hw hS0 hL
  have hts := hC.2.2.2.2.2.1
  subst hn
  have hr : x_r32 (len : Int) := x_hd h1
  have e32 : (Int32.ofInt (len : Int)).toInt = len := i32_toInt_r hr
  refine va_newa (n := Int32.ofInt (len : Int)) (N' := len) (a0 := x_arr aa kd len (fun _ => 0)) hC.1 hC.2.1 (hts _ hw') rfl (x_K_nil hw.2.1) hw.2.2.1 hw.2.2.2 hS0 hC.2.2.2.2.2.2.2.2.2.2.2 (fun cA => ?_) ?_ ?_ ?_ hkc hks d (fun q cA H1 hK hP hD hS => ?_)
  · rw [hk.1]
    rcases hk.2 |> (fun h => (by omega : kd = 0 ∨ kd = 1 ∨ kd = 2)) with e | e | e <;> subst e <;> rfl
  · intro hlt
    have := Int32.lt_iff_toInt_lt.mp hlt
    rw [e32] at this
    have h0 : (0 : Int32).toInt = 0 := rfl
    omega
  · show (Int32.ofInt (len : Int)).toInt.toNat = len
    rw [e32]; omega
  · rw [hk.1]
    rcases hk.2 |> (fun h => (by omega : kd = 0 ∨ kd = 1 ∨ kd = 2)) with e | e | e <;> subst e <;> simp [x_ty, componentBytes] <;> omega
  · have hp : aa <+: aa ++ [(q, cA)] := List.prefix_append aa [(q, cA)]
    have el := hw.1
    have hok' : x_okM (σ.1 ++ [.inr (kd, len)], σ.2) := x_okM_app h3 ⟨by show len < 2147483648; omega, fun j => by
      rw [hz]
      rcases hk.2 |> (fun h => (by omega : kd = 0 ∨ kd = 1 ∨ kd = 2)) with e | e | e <;> subst e
      · exact x_r0
      · show x_r64 0; unfold x_r64; omega
      · exact Or.inl rfl⟩
    have ew := x_ws_app (q := (q, cA)) (sh := .inr (kd, len)) el h3
    have hcl : x_cl (aa ++ [(q, cA)]) σ.1.length = cA := by
      unfold x_cl
      rw [← el, List.getElem?_append_right (Nat.le_refl _), Nat.sub_self]; rfl
    have ee : x_ent (aa ++ [(q, cA)]) (σ.1 ++ [.inr (kd, len)], σ.2) σ.1.length = .inl (cA, x_arr aa kd len (fun _ => 0)) := by
      unfold x_ent
      rw [show (σ.1 ++ [Sum.inr (kd, len)], σ.2).1[σ.1.length]? = some (.inr (kd, len)) from by
        show (σ.1 ++ [Sum.inr (kd, len)])[σ.1.length]? = _
        rw [List.getElem?_append_right (Nat.le_refl _), Nat.sub_self]; rfl]
      show Sum.inl (x_cl (aa ++ [(q, cA)]) σ.1.length, x_arr (aa ++ [(q, cA)]) kd len (σ.2 σ.1.length)) = _
      rw [hz, hcl]
      rcases hk.2 |> (fun h => (by omega : kd = 0 ∨ kd = 1 ∨ kd = 2)) with e | e | e <;> subst e <;> rfl
    rw [ee] at ew
    have hn : x_ad (aa ++ [(q, cA)]) σ.1.length = q := by
      unfold x_ad
      rw [← el, List.getElem?_append_right (Nat.le_refl _), Nat.sub_self]; rfl
    have hW : x_World D (aa ++ [(q, cA)]) (σ.1 ++ [.inr (kd, len)], σ.2) A s H1 := by
      refine ⟨by simp [el], ⟨hw.2.1.1, fun i a hi => ?_⟩, by rw [ew]; exact hP, by rw [ew]; exact hD⟩
      have hi : (σ.1 ++ [Sum.inr (kd, len)])[i]? = some (.inr a) := hi
      have h' := (List.getElem?_eq_some_iff.mp hi).1
      simp at h'
      by_cases e : i = σ.1.length
      · subst e
        rw [List.getElem?_append_right (Nat.le_refl _), Nat.sub_self] at hi
        have : a = (kd, len) := by
          have : some (Sum.inr (kd, len) : XS) = some (.inr a) := hi
          cases this; rfl
        subst this
        rw [hcl]
        have := hK.2 0 _ rfl
        rw [hk.1] at this
        exact this
      · have hlt : i < σ.1.length := by omega
        rw [List.getElem?_append_left hlt] at hi
        rw [x_cl_pre hp (by omega)]
        exact hw.2.1.2 i a hi
    have hlen' : (σ.1 ++ [Sum.inr (kd, len)] : List XS).length = σ.1.length + 1 := by simp
    have hk' := k (fun v hv => by
        show x_ok (σ.1 ++ [Sum.inr (kd, len)] : List XS).length v
        rw [hlen']
        rcases List.mem_cons.mp hv with rfl | hv
        · show σ.1.length < σ.1.length + 1; omega
        · exact x_ok_mono (by omega) (x_tl h1 v hv)) (fun j v hj => by
        show x_ok (σ.1 ++ [Sum.inr (kd, len)] : List XS).length v
        rw [hlen']; exact x_ok_mono (by omega) (h2 j v hj)) hok' p l e s m args below meth c A D aa0 (aa ++ [(q, cA)]) H1 locs ls hC (ha.trans hp) hW hS (x_L_pre hp (fun j v hj => by rw [el]; exact h2 j v hj) hL)
    have em : (xR (some σ.1.length) :: st).map (x_cv (aa ++ [(q, cA)])) = Value.ref q :: st.map (x_cv aa) := by
      rw [List.map_cons, x_map_pre hp (fun v hv => by rw [el]; exact x_tl h1 v hv)]
      show Value.ref (x_ad (aa ++ [(q, cA)]) σ.1.length) :: _ = _
      rw [hn]
    rw [em] at hk'
    exact hk'
end XI
