/-! fields and arrays -/
theorem x_ws_get {aa : XAA} {σ : XM} {i : Nat} (h : i < σ.1.length) : (x_ws aa σ)[i]? = some (x_ad aa i, x_ent aa σ i) := by
  unfold x_ws
  rw [List.getElem?_map, List.getElem?_range h]
  rfl
theorem x_ws_obj {aa : XAA} {σ : XM} {i : Nat} {o : Nat × List (Option XV)} (h : σ.1[i]? = some (.inl o)) : (x_ws aa σ)[i]? = some (x_ad aa i, .inr (o.1, x_flds aa o.2 (σ.2 i))) := by
  rw [x_ws_get (List.getElem?_eq_some_iff.mp h).1]
  unfold x_ent
  rw [h]
theorem x_ws_arr {aa : XAA} {σ : XM} {i : Nat} {a : Nat × Nat} (h : σ.1[i]? = some (.inr a)) : (x_ws aa σ)[i]? = some (x_ad aa i, .inl (x_cl aa i, x_arr aa a.1 a.2 (σ.2 i))) := by
  rw [x_ws_get (List.getElem?_eq_some_iff.mp h).1]
  unfold x_ent
  rw [h]
theorem x_flds_get {aa : XAA} {fin : List (Option XV)} {g : Nat → Int} {k : Nat} (h : k < fin.length) : (x_flds aa fin g)[k]? = some (x_fv aa fin g k) := by
  unfold x_flds
  rw [List.getElem?_map, List.getElem?_range h]
  rfl
theorem x_flds_len {aa : XAA} {fin : List (Option XV)} {g : Nat → Int} : (x_flds aa fin g).length = fin.length := by simp [x_flds]
theorem x_up_row (σ : XM) (i j : Nat) (z : Int) : (x_up σ i j z).2 i = fun b => if b = j then z else σ.2 i b := by
  funext b
  simp [x_up]
theorem x_up_off {σ : XM} {i a : Nat} (j : Nat) (z : Int) (h : a ≠ i) : (x_up σ i j z).2 a = σ.2 a := by
  funext b
  simp [x_up, h]
/-- one cell changed -/
theorem x_ws_set {aa : XAA} {σ σ' : XM} {i : Nat} {e : va_E} (hS : σ'.1 = σ.1) (ho : ∀ a, a ≠ i → σ'.2 a = σ.2 a) (he : x_ent aa σ' i = e) : (x_ws aa σ).set i (x_ad aa i, e) = x_ws aa σ' := by
  apply List.ext_getElem?
  intro k
  rw [List.getElem?_set]
  unfold x_ws
  rw [List.length_map, List.length_range, List.getElem?_map, List.getElem?_map, hS]
  by_cases hk : k < σ.1.length
  · rw [List.getElem?_range hk]
    by_cases e1 : i = k
    · subst e1
      rw [if_pos rfl, if_pos hk, ← he]
      rfl
    · rw [if_neg e1]
      show some (x_ad aa k, x_ent aa σ k) = some (x_ad aa k, x_ent aa σ' k)
      unfold x_ent
      rw [hS, ho k (fun z => e1 z.symm)]
  · have hn : (List.range σ.1.length)[k]? = none := by simp; omega
    rw [hn]
    by_cases e1 : i = k
    · subst e1
      rw [if_pos rfl, if_neg hk]
      rfl
    · rw [if_neg e1]
      rfl
theorem x_K_one {aa : XAA} {S : List XS} {D : va_G} {s : State} {i : Nat} {a : Nat × Nat} (h : x_K aa S D s) (hi : S[i]? = some (.inr a)) : va_K D vwCl [(x_cl aa i, x_ty a.1)] s := by
  refine ⟨h.1, fun k q hq => ?_⟩
  cases k with
  | zero => cases hq; exact h.2 i a hi
  | succ k => cases hq
theorem x_K_nil {aa : XAA} {S : List XS} {D : va_G} {s : State} (h : x_K aa S D s) : va_K D vwCl [] s := ⟨h.1, fun k q hq => by cases hq⟩
theorem x_inix {j : Int} {n : Nat} (h0 : 0 ≤ j) (h1 : j < n) (hn : n < 2147483648) : vp_in (Int32.ofInt j) n ∧ (Int32.ofInt j).toNatClampNeg = j.toNat := by
  have hr : x_r32 j := ⟨by omega, by omega⟩
  have e : (Int32.ofInt j).toInt = j := i32_toInt_r hr
  refine ⟨vp_in_iff.mpr (by rw [e]; exact ⟨h0, h1⟩), ?_⟩
  show (Int32.ofInt j).toInt.toNat = j.toNat
  rw [e]
theorem x_okM_up {σ : XM} {i j : Nat} {z : Int} (h : x_okM σ) (hi : ∀ sh, σ.1[i]? = some sh → x_okC σ.1.length sh (fun b => if b = j then z else σ.2 i b)) : x_okM (x_up σ i j z) := by
  intro a sh hsh
  by_cases e : a = i
  · subst e
    rw [x_up_row]
    exact hi sh hsh
  · rw [x_up_off j z e]
    exact h a sh hsh
section XH
variable {y : XY} {pc : Nat} {lv : List (Option XV)} {st : List XV} {σ : XM} {kc ks : Nat} {Q : XRes → XM → Prop}
/-- a final field -/
theorem x_getF {i ci kf index N : Nat} {fin : List (Option XV)} {C : String} {T : u_T} {v : XV} (d : decode y.2.1 pc = .ok (.getfield index, 3)) (hS : σ.1[i]? = some (.inl (ci, fin))) (hk : fin[kf]? = some (some v)) (hc : vwCl[ci]? = some (C, T, N)) (hin : ∀ w ∈ u_ws C T N, w ∈ x_tbl) (hl : Cond.fieldLink y.1.cls index (T kf).1 (T kf).2.1 (T kf).2.2.1 ∈ x_tbl)
    (k : x_A y (pc + 3) lv (v :: st) σ kc ks Q) : x_A y pc lv (xR (some i) :: st) σ kc ks Q := by
  intro h1 h2 h3 p l e s m args below meth c A D aa0 aa H locs ls hC ha hw hS0 hL
  have hkl := (List.getElem?_eq_some_iff.mp hk).1
  obtain ⟨g1, g2, q, g3, g4⟩ := h3 i _ hS
  have hN : kf < N := by rw [show vwCl[ci]? = some (C, T, N) from hc] at g3; cases g3; exact Nat.lt_of_lt_of_eq hkl g4
  have hv : (x_flds aa fin (σ.2 i))[kf]? = some (x_cv aa v) := by rw [x_flds_get hkl]; unfold x_fv; rw [hk]
  exact va_get hC.1 hC.2.1 hC.2.2.2.2.2.1 hin hC.2.2.2.2.1 (x_K_nil hw.2.1) hw.2.2.1 i (x_ws_obj hS) hc kf hN (hC.2.2.2.2.2.1 _ hl) (fun _ z => z) hv d (k (x_cn (g1 kf v hk) (x_tl h1)) h2 h3 p l e s m args below meth c A D aa0 aa H locs ls hC ha hw hS0 hL)
/-- an int field that changes -/
theorem x_getI {i ci kf index N : Nat} {fin : List (Option XV)} {C : String} {T : u_T} (d : decode y.2.1 pc = .ok (.getfield index, 3)) (hS : σ.1[i]? = some (.inl (ci, fin))) (hk : fin[kf]? = some none) (hc : vwCl[ci]? = some (C, T, N)) (hin : ∀ w ∈ u_ws C T N, w ∈ x_tbl) (hl : Cond.fieldLink y.1.cls index (T kf).1 (T kf).2.1 (T kf).2.2.1 ∈ x_tbl)
    (k : x_A y (pc + 3) lv (xI (σ.2 i kf) :: st) σ kc ks Q) : x_A y pc lv (xR (some i) :: st) σ kc ks Q := by
  intro h1 h2 h3 p l e s m args below meth c A D aa0 aa H locs ls hC ha hw hS0 hL
  have hkl := (List.getElem?_eq_some_iff.mp hk).1
  obtain ⟨g1, g2, q, g3, g4⟩ := h3 i _ hS
  have hN : kf < N := by rw [show vwCl[ci]? = some (C, T, N) from hc] at g3; cases g3; exact Nat.lt_of_lt_of_eq hkl g4
  have hv : (x_flds aa fin (σ.2 i))[kf]? = some (.int (Int32.ofInt (σ.2 i kf))) := by rw [x_flds_get hkl]; unfold x_fv; rw [hk]
  exact va_get hC.1 hC.2.1 hC.2.2.2.2.2.1 hin hC.2.2.2.2.1 (x_K_nil hw.2.1) hw.2.2.1 i (x_ws_obj hS) hc kf hN (hC.2.2.2.2.2.1 _ hl) (fun _ z => z) hv d (k (x_cnI (g2 kf) (x_tl h1)) h2 h3 p l e s m args below meth c A D aa0 aa H locs ls hC ha hw hS0 hL)
theorem x_putI {i ci kf index N : Nat} {fin : List (Option XV)} {C : String} {T : u_T} {z : Int} (ty0 : Nat → FieldType) (d : decode y.2.1 pc = .ok (.putfield index, 3)) (hS : σ.1[i]? = some (.inl (ci, fin))) (hk : fin[kf]? = some none) (hc : vwCl[ci]? = some (C, T, N)) (hin : ∀ w ∈ u_ws C T N, w ∈ x_tbl) (hl : Cond.fieldLink y.1.cls index (T kf).1 (T kf).2.1 (T kf).2.2.1 ∈ x_tbl)
    (hty : ∀ k, k < N → parseFieldDescriptor (T k).2.2.1 = some (ty0 k)) (hnm : ∀ a, a < N → ∀ b, b < N → a ≠ b → (T a).2.1 ≠ (T b).2.1) (hd : parseFieldDescriptor (T kf).2.2.1 = some .int) (hfin : (T kf).2.2.2 = false)
    (k : x_A y (pc + 3) lv st (x_up σ i kf z) kc ks Q) : x_A y pc lv (xI z :: xR (some i) :: st) σ kc ks Q := by
  intro h1 h2 h3 p l e s m args below meth c A D aa0 aa H locs ls hC ha hw hS0 hL
  have hkl := (List.getElem?_eq_some_iff.mp hk).1
  obtain ⟨g1, g2, q, g3, g4⟩ := h3 i _ hS
  have hN : kf < N := by rw [show vwCl[ci]? = some (C, T, N) from hc] at g3; cases g3; exact Nat.lt_of_lt_of_eq hkl g4
  have hz : x_r32 z := x_hd h1
  have hok : x_okM (x_up σ i kf z) := x_okM_up h3 (fun sh hsh => by
    rw [hS] at hsh; cases hsh
    refine ⟨g1, fun b => ?_, q, g3, g4⟩
    show x_r32 (if b = kf then z else σ.2 i b)
    split
    · exact hz
    · exact g2 b)
  have he : x_ent aa (x_up σ i kf z) i = .inr (ci, (x_flds aa fin (σ.2 i)).set kf (.int (Int32.ofInt z))) := by
    unfold x_ent
    rw [show (x_up σ i kf z).1[i]? = some (.inl (ci, fin)) from hS, x_up_row]
    show Sum.inr (ci, x_flds aa fin _) = _
    congr 2
    apply List.ext_getElem?
    intro b
    rw [List.getElem?_set, x_flds_len]
    by_cases hb : b < fin.length
    · rw [x_flds_get hb, x_flds_get hb]
      by_cases e1 : kf = b
      · subst e1
        rw [if_pos rfl, if_pos hb]
        unfold x_fv
        rw [hk]
        simp
      · rw [if_neg e1]
        unfold x_fv
        have e2 : (if b = kf then z else σ.2 i b) = σ.2 i b := if_neg (fun q => e1 q.symm)
        dsimp only
        rw [e2]
    · have n1 : ∀ g, (x_flds aa fin g)[b]? = none := fun g => by rw [List.getElem?_eq_none_iff, x_flds_len]; omega
      rw [n1, n1]
      split
      · next e1 => omega
      · rfl
  refine va_put hC.1 hC.2.1 hC.2.2.2.2.2.1 hin ty0 hty hnm hC.2.2.2.2.1 (x_K_nil hw.2.1) hw.2.2.1 hw.2.2.2 hS0 i (x_ws_obj hS) hc kf hN (hC.2.2.2.2.2.1 _ hl) (fun _ z => z) hfin hd (vp_nar_int _) rfl (by rw [x_flds_len]; exact hkl) d (fun H1 locs1 hP hD hS1 => ?_)
  have e5 := x_ws_set (aa := aa) (σ := σ) (σ' := x_up σ i kf z) (i := i) rfl (fun a hne => x_up_off kf z hne) he
  have hP : va_P D vwCl (x_ws aa (x_up σ i kf z)) H1 := by rw [← e5]; exact hP
  have hD : va_D A (x_ws aa (x_up σ i kf z)) := by rw [← e5]; exact hD
  exact k (x_tl (x_tl h1)) h2 hok p l e s m args below meth c A D aa0 aa H1 locs1 ls hC ha ⟨hw.1, hw.2.1, hP, hD⟩ hS1 hL
theorem x_iaload {i len : Nat} {j : Int} (d : decode y.2.1 pc = .ok (.iaload, 1)) (hS : σ.1[i]? = some (.inr (0, len))) (h0 : 0 ≤ j) (hj : j < len) (k : x_A y (pc + 1) lv (xI (σ.2 i j.toNat) :: st) σ kc ks Q) : x_A y pc lv (xI j :: xR (some i) :: st) σ kc ks Q := by
  intro h1 h2 h3 p l e s m args below meth c A D aa0 aa H locs ls hC ha hw hS0 hL
  obtain ⟨g1, g2⟩ := h3 i _ hS
  obtain ⟨i1, i2⟩ := x_inix h0 hj g1
  refine va_iald hC.1 hC.2.1 (x_K_one hw.2.1 hS) hw.2.2.1 i 0 (x_ws_arr hS) rfl i1 d ?_
  rw [i2]
  exact k (x_cnI (g2 j.toNat) (x_tl (x_tl h1))) h2 h3 p l e s m args below meth c A D aa0 aa H locs ls hC ha hw hS0 hL
theorem x_baload {i len : Nat} {j : Int} (d : decode y.2.1 pc = .ok (.baload, 1)) (hS : σ.1[i]? = some (.inr (2, len))) (h0 : 0 ≤ j) (hj : j < len) (k : x_A y (pc + 1) lv (xI (σ.2 i j.toNat) :: st) σ kc ks Q) : x_A y pc lv (xI j :: xR (some i) :: st) σ kc ks Q := by
  intro h1 h2 h3 p l e s m args below meth c A D aa0 aa H locs ls hC ha hw hS0 hL
  obtain ⟨g1, g2⟩ := h3 i _ hS
  obtain ⟨i1, i2⟩ := x_inix h0 hj g1
  refine va_zald hC.1 hC.2.1 (x_K_one hw.2.1 hS) hw.2.2.1 i 0 (x_ws_arr hS) rfl i1 d ?_
  rw [i2]
  have hb : x_r32 (σ.2 i j.toNat) := by rcases g2 j.toNat with h | h <;> (rw [h]; unfold x_r32; omega)
  exact k (x_cnI hb (x_tl (x_tl h1))) h2 h3 p l e s m args below meth c A D aa0 aa H locs ls hC ha hw hS0 hL
theorem x_laload {i len : Nat} {j : Int} (d : decode y.2.1 pc = .ok (.laload, 1)) (hS : σ.1[i]? = some (.inr (1, len))) (h0 : 0 ≤ j) (hj : j < len) (k : x_A y (pc + 1) lv (xL (σ.2 i j.toNat) :: st) σ kc ks Q) : x_A y pc lv (xI j :: xR (some i) :: st) σ kc ks Q := by
  intro h1 h2 h3 p l e s m args below meth c A D aa0 aa H locs ls hC ha hw hS0 hL
  obtain ⟨g1, g2⟩ := h3 i _ hS
  obtain ⟨i1, i2⟩ := x_inix h0 hj g1
  refine va_lald hC.1 hC.2.1 (x_K_one hw.2.1 hS) hw.2.2.1 i 0 (x_ws_arr hS) rfl i1 d ?_
  rw [i2]
  exact k (x_cnL (g2 j.toNat) (x_tl (x_tl h1))) h2 h3 p l e s m args below meth c A D aa0 aa H locs ls hC ha hw hS0 hL
/-- a cell's number as an array of references holds it -/
def x_rr (z : Int) : Option Nat := if z ≤ 0 then none else some (z - 1).toNat
theorem x_aaload {i len : Nat} {j : Int} (d : decode y.2.1 pc = .ok (.aaload, 1)) (hS : σ.1[i]? = some (.inr (3, len))) (h0 : 0 ≤ j) (hj : j < len) (k : x_A y (pc + 1) lv (xR (x_rr (σ.2 i j.toNat)) :: st) σ kc ks Q) : x_A y pc lv (xI j :: xR (some i) :: st) σ kc ks Q := by
  intro h1 h2 h3 p l e s m args below meth c A D aa0 aa H locs ls hC ha hw hS0 hL
  obtain ⟨g1, g2⟩ := h3 i _ hS
  obtain ⟨i1, i2⟩ := x_inix h0 hj g1
  refine va_aldq hC.1 hC.2.1 (x_K_one hw.2.1 hS) hw.2.2.1 i 0 (x_ws_arr hS) rfl i1 d ?_
  rw [i2]
  have hb : x_ok σ.1.length (xR (x_rr (σ.2 i j.toNat))) := by
    have h : 0 ≤ σ.2 i j.toNat ∧ σ.2 i j.toNat ≤ σ.1.length := g2 j.toNat
    unfold x_rr
    split
    · trivial
    · show (σ.2 i j.toNat - 1).toNat < σ.1.length; omega
  have he : va_rf (x_rf aa (σ.2 i j.toNat)) = x_cv aa (xR (x_rr (σ.2 i j.toNat))) := by
    unfold x_rf x_rr
    split <;> rfl
  rw [he]
  exact k (x_cn hb (x_tl (x_tl h1))) h2 h3 p l e s m args below meth c A D aa0 aa H locs ls hC ha hw hS0 hL
theorem x_arraylength {i kd len : Nat} (d : decode y.2.1 pc = .ok (.arraylength, 1)) (hS : σ.1[i]? = some (.inr (kd, len))) (k : x_A y (pc + 1) lv (xI (len : Int) :: st) σ kc ks Q) : x_A y pc lv (xR (some i) :: st) σ kc ks Q := by
  intro h1 h2 h3 p l e s m args below meth c A D aa0 aa H locs ls hC ha hw hS0 hL
  obtain ⟨g1, g2⟩ := h3 i _ hS
  have hg1 : len < 2147483648 := g1
  refine va_alen (v := Int32.ofInt (len : Int)) hC.1 hC.2.1 (x_K_one hw.2.1 hS) hw.2.2.1 i 0 (x_ws_arr hS) rfl rfl d ?_
  exact k (x_cnI (by unfold x_r32; omega) (x_tl h1)) h2 h3 p l e s m args below meth c A D aa0 aa H locs ls hC ha hw hS0 hL
theorem x_upd (f : Nat → Int) (k : Nat) (z : Int) : upd (fun j => Int32.ofInt (f j)) k (Int32.ofInt z) = fun j => Int32.ofInt (if j = k then z else f j) := by
  funext j
  unfold upd
  split <;> rfl
theorem x_iastore {i len : Nat} {j z : Int} (d : decode y.2.1 pc = .ok (.iastore, 1)) (hS : σ.1[i]? = some (.inr (0, len))) (h0 : 0 ≤ j) (hj : j < len) (k : x_A y (pc + 1) lv st (x_up σ i j.toNat z) kc ks Q) : x_A y pc lv (xI z :: xI j :: xR (some i) :: st) σ kc ks Q := by
  intro h1 h2 h3 p l e s m args below meth c A D aa0 aa H locs ls hC ha hw hS0 hL
  obtain ⟨g1, g2⟩ := h3 i _ hS
  obtain ⟨i1, i2⟩ := x_inix h0 hj g1
  have hz : x_r32 z := x_hd h1
  have hok : x_okM (x_up σ i j.toNat z) := x_okM_up h3 (fun sh hsh => by
    rw [hS] at hsh; cases hsh
    refine ⟨g1, fun b => ?_⟩
    show x_r32 (if b = j.toNat then z else σ.2 i b)
    split
    · exact hz
    · exact g2 b)
  refine va_iast hC.1 hC.2.1 (x_K_one hw.2.1 hS) hw.2.2.1 hw.2.2.2 hS0 i 0 (x_ws_arr hS) rfl i1 d (fun H1 locs1 hP hD hS1 => ?_)
  rw [i2, x_upd] at hP hD
  have e5 := x_ws_set (aa := aa) (σ := σ) (σ' := x_up σ i j.toNat z) (i := i) (e := .inl (x_cl aa i, (len, .inl (fun b => Int32.ofInt (if b = j.toNat then z else σ.2 i b))))) rfl (fun a hne => x_up_off j.toNat _ hne) (by unfold x_ent; rw [show (x_up σ i j.toNat z).1[i]? = some (.inr (0, len)) from hS, x_up_row]; rfl)
  have hP : va_P D vwCl (x_ws aa (x_up σ i j.toNat z)) H1 := by rw [← e5]; exact hP
  have hD : va_D A (x_ws aa (x_up σ i j.toNat z)) := by rw [← e5]; exact hD
  exact k (x_tl (x_tl (x_tl h1))) h2 hok p l e s m args below meth c A D aa0 aa H1 locs1 ls hC ha ⟨hw.1, hw.2.1, hP, hD⟩ hS1 hL
theorem x_bastore {i len : Nat} {j z : Int} (d : decode y.2.1 pc = .ok (.bastore, 1)) (hS : σ.1[i]? = some (.inr (2, len))) (h0 : 0 ≤ j) (hj : j < len) (hz : z = 0 ∨ z = 1) (k : x_A y (pc + 1) lv st (x_up σ i j.toNat z) kc ks Q) : x_A y pc lv (xI z :: xI j :: xR (some i) :: st) σ kc ks Q := by
  intro h1 h2 h3 p l e s m args below meth c A D aa0 aa H locs ls hC ha hw hS0 hL
  obtain ⟨g1, g2⟩ := h3 i _ hS
  obtain ⟨i1, i2⟩ := x_inix h0 hj g1
  have hnz : vp_nar .boolean (Int32.ofInt z) = Int32.ofInt z := by rcases hz with rfl | rfl <;> rfl
  have hok : x_okM (x_up σ i j.toNat z) := x_okM_up h3 (fun sh hsh => by
    rw [hS] at hsh; cases hsh
    refine ⟨g1, fun b => ?_⟩
    show (if b = j.toNat then z else σ.2 i b) = 0 ∨ (if b = j.toNat then z else σ.2 i b) = 1
    split
    · exact hz
    · exact g2 b)
  refine va_zast hC.1 hC.2.1 (x_K_one hw.2.1 hS) hw.2.2.1 hw.2.2.2 hS0 i 0 (x_ws_arr hS) rfl i1 d (fun H1 locs1 hP hD hS1 => ?_)
  rw [i2, hnz, x_upd] at hP hD
  have e5 := x_ws_set (aa := aa) (σ := σ) (σ' := x_up σ i j.toNat z) (i := i) (e := .inl (x_cl aa i, (len, .inl (fun b => Int32.ofInt (if b = j.toNat then z else σ.2 i b))))) rfl (fun a hne => x_up_off j.toNat _ hne) (by unfold x_ent; rw [show (x_up σ i j.toNat z).1[i]? = some (.inr (2, len)) from hS, x_up_row]; rfl)
  have hP : va_P D vwCl (x_ws aa (x_up σ i j.toNat z)) H1 := by rw [← e5]; exact hP
  have hD : va_D A (x_ws aa (x_up σ i j.toNat z)) := by rw [← e5]; exact hD
  exact k (x_tl (x_tl (x_tl h1))) h2 hok p l e s m args below meth c A D aa0 aa H1 locs1 ls hC ha ⟨hw.1, hw.2.1, hP, hD⟩ hS1 hL
theorem x_updL (f : Nat → Int) (k : Nat) (z : Int) : vp_updL (fun j => Int64.ofInt (f j)) k (Int64.ofInt z) = fun j => Int64.ofInt (if j = k then z else f j) := by
  funext j
  unfold vp_updL
  split <;> rfl
theorem x_lastore {i len : Nat} {j z : Int} (d : decode y.2.1 pc = .ok (.lastore, 1)) (hS : σ.1[i]? = some (.inr (1, len))) (h0 : 0 ≤ j) (hj : j < len) (k : x_A y (pc + 1) lv st (x_up σ i j.toNat z) kc ks Q) : x_A y pc lv (xL z :: xI j :: xR (some i) :: st) σ kc ks Q := by
  intro h1 h2 h3 p l e s m args below meth c A D aa0 aa H locs ls hC ha hw hS0 hL
  obtain ⟨g1, g2⟩ := h3 i _ hS
  obtain ⟨i1, i2⟩ := x_inix h0 hj g1
  have hz : x_r64 z := x_hd h1
  have hok : x_okM (x_up σ i j.toNat z) := x_okM_up h3 (fun sh hsh => by
    rw [hS] at hsh; cases hsh
    refine ⟨g1, fun b => ?_⟩
    show x_r64 (if b = j.toNat then z else σ.2 i b)
    split
    · exact hz
    · exact g2 b)
  refine va_last hC.1 hC.2.1 (x_K_one hw.2.1 hS) hw.2.2.1 hw.2.2.2 hS0 i 0 (x_ws_arr hS) rfl i1 d (fun H1 locs1 hP hD hS1 => ?_)
  rw [i2, x_updL] at hP hD
  have e5 := x_ws_set (aa := aa) (σ := σ) (σ' := x_up σ i j.toNat z) (i := i) (e := .inl (x_cl aa i, (len, .inr (.inl (fun b => Int64.ofInt (if b = j.toNat then z else σ.2 i b)))))) rfl (fun a hne => x_up_off j.toNat _ hne) (by unfold x_ent; rw [show (x_up σ i j.toNat z).1[i]? = some (.inr (1, len)) from hS, x_up_row]; rfl)
  have hP : va_P D vwCl (x_ws aa (x_up σ i j.toNat z)) H1 := by rw [← e5]; exact hP
  have hD : va_D A (x_ws aa (x_up σ i j.toNat z)) := by rw [← e5]; exact hD
  exact k (x_tl (x_tl (x_tl h1))) h2 hok p l e s m args below meth c A D aa0 aa H1 locs1 ls hC ha ⟨hw.1, hw.2.1, hP, hD⟩ hS1 hL
theorem x_aastore {i len q ci N : Nat} {fin : List (Option XV)} {T : u_T} {j : Int} (d : decode y.2.1 pc = .ok (.aastore, 1)) (hS : σ.1[i]? = some (.inr (3, len))) (h0 : 0 ≤ j) (hj : j < len) (hq : σ.1[q]? = some (.inl (ci, fin))) (hc : vwCl[ci]? = some ("SmokeTubes$Table", T, N)) (k : x_A y (pc + 1) lv st (x_up σ i j.toNat ((q : Int) + 1)) kc ks Q) : x_A y pc lv (xR (some q) :: xI j :: xR (some i) :: st) σ kc ks Q := by
  intro h1 h2 h3 p l e s m args below meth c A D aa0 aa H locs ls hC ha hw hS0 hL
  obtain ⟨g1, g2⟩ := h3 i _ hS
  obtain ⟨i1, i2⟩ := x_inix h0 hj g1
  have hql := (List.getElem?_eq_some_iff.mp hq).1
  have hok : x_okM (x_up σ i j.toNat ((q : Int) + 1)) := x_okM_up h3 (fun sh hsh => by
    rw [hS] at hsh; cases hsh
    refine ⟨g1, fun b => ?_⟩
    show 0 ≤ (if b = j.toNat then (q : Int) + 1 else σ.2 i b) ∧ (if b = j.toNat then (q : Int) + 1 else σ.2 i b) ≤ σ.1.length
    split
    · omega
    · exact g2 b)
  have hu : va_up (fun j => x_rf aa (σ.2 i j)) j.toNat (some (x_ad aa q)) = fun b => x_rf aa (if b = j.toNat then (q : Int) + 1 else σ.2 i b) := by
    funext b
    unfold va_up
    split
    · unfold x_rf
      rw [if_neg (by omega), show ((q : Int) + 1 - 1).toNat = q by omega]
    · rfl
  refine va_astq (r := ("SmokeTubes$Table", T, N)) hC.1 hC.2.1 (x_K_one hw.2.1 hS) hw.2.2.1 hw.2.2.2 hS0 i 0 q ci (x_ws_arr hS) rfl (x_ws_obj hq) hc i1 d (fun H1 locs1 hP hD hS1 => ?_)
  rw [i2, hu] at hP hD
  have e5 := x_ws_set (aa := aa) (σ := σ) (σ' := x_up σ i j.toNat ((q : Int) + 1)) (i := i) (e := .inl (x_cl aa i, (len, .inr (.inr (.inr (.inr (fun b => x_rf aa (if b = j.toNat then (q : Int) + 1 else σ.2 i b)))))))) rfl (fun a hne => x_up_off j.toNat _ hne) (by unfold x_ent; rw [show (x_up σ i j.toNat ((q : Int) + 1)).1[i]? = some (.inr (3, len)) from hS, x_up_row]; rfl)
  have hP : va_P D vwCl (x_ws aa (x_up σ i j.toNat ((q : Int) + 1))) H1 := by rw [← e5]; exact hP
  have hD : va_D A (x_ws aa (x_up σ i j.toNat ((q : Int) + 1))) := by rw [← e5]; exact hD
  exact k (x_tl (x_tl (x_tl h1))) h2 hok p l e s m args below meth c A D aa0 aa H1 locs1 ls hC ha ⟨hw.1, hw.2.1, hP, hD⟩ hS1 hL
theorem x_lcmp_ {a b : Int} (d : decode y.2.1 pc = .ok (.lcmp, 1)) (k : x_A y (pc + 1) lv (xI (x_lcmp a b) :: st) σ kc ks Q) : x_A y pc lv (xL b :: xL a :: st) σ kc ks Q :=
  x_pure (fun h1 _ => x_cnI (by unfold x_lcmp x_r32; split <;> (try split) <;> omega) (x_tl (x_tl h1))) (fun p l e s m args below meth c A aa H locs ls Qw hC h1 _ kk => W.lcmp (x := Int64.ofInt a) (y := Int64.ofInt b) hC.1 hC.2.1 d (by
    have hb : x_r64 b := x_hd h1
    have ha : x_r64 a := x_hd (x_tl h1)
    have e9 : lg_cmp (Int64.ofInt a) (Int64.ofInt b) = Int32.ofInt (x_lcmp a b) := by
      unfold lg_cmp x_lcmp
      simp only [gt_iff_lt, i64_lt hb ha, i64_eq ha hb]
      split
      · rw [if_neg (by omega), if_neg (by omega)]; rfl
      · split
        · rw [if_neg (by omega)]; rfl
        · rw [if_pos (by omega)]; rfl
    rw [e9]; exact kk)) k
theorem x_ifnonnull {r : Option Nat} {off : Int} (tgt : Nat) (d : decode y.2.1 pc = .ok (.ifnonnull off, 3)) (ht : (pc : Int) + off = (tgt : Int)) (kt : r ≠ none → x_A y tgt lv st σ kc ks Q) (kf : r = none → x_A y (pc + 3) lv st σ kc ks Q) : x_A y pc lv (xR r :: st) σ kc ks Q := by
  intro h1 h2 h3 p l e s m args below meth c A D aa0 aa H locs ls hC ha hw hS hL
  cases r with
  | some q => exact lv_ifnonnull hC.1 hC.2.1 d ht (kt (by simp) (x_tl h1) h2 h3 p l e s m args below meth c A D aa0 aa H locs ls hC ha hw hS hL)
  | none => exact lv_ifnonnullN hC.1 hC.2.1 d (kf rfl (x_tl h1) h2 h3 p l e s m args below meth c A D aa0 aa H locs ls hC ha hw hS hL)
theorem x_tableIn {dflt lo hi : Int} {offs : Array Int} {len : Nat} {a off : Int} (tgt : Nat) (d : decode y.2.1 pc = .ok (.tableswitch dflt lo hi offs, len)) (hl : lo ≤ a) (hh : a ≤ hi) (ho : offs[(a - lo).toNat]? = some off) (ht : (pc : Int) + off = (tgt : Int)) (k : x_A y tgt lv st σ kc ks Q) : x_A y pc lv (xI a :: st) σ kc ks Q :=
  x_pure (fun h1 _ => x_tl h1) (fun p l e s m args below meth c A aa H locs ls Qw hC h1 _ kk => by
    have e9 : (Int32.ofInt a).toInt = a := i32_toInt_r (x_hd h1)
    exact lv_tableIn (x := Int32.ofInt a) hC.1 hC.2.1 d (by rw [e9]; omega) (by rw [e9]; omega) (by rw [e9]; exact ho) ht kk) k
theorem x_tableOut {dflt lo hi : Int} {offs : Array Int} {len : Nat} {a : Int} (tgt : Nat) (d : decode y.2.1 pc = .ok (.tableswitch dflt lo hi offs, len)) (hl : a < lo ∨ hi < a) (ht : (pc : Int) + dflt = (tgt : Int)) (k : x_A y tgt lv st σ kc ks Q) : x_A y pc lv (xI a :: st) σ kc ks Q :=
  x_pure (fun h1 _ => x_tl h1) (fun p l e s m args below meth c A aa H locs ls Qw hC h1 _ kk => by
    have e9 : (Int32.ofInt a).toInt = a := i32_toInt_r (x_hd h1)
    exact lv_tableOut (x := Int32.ofInt a) hC.1 hC.2.1 d (by rw [e9]; exact hl) ht kk) k
end XH
