/-! locals, fields, arrays -/
theorem x_L.has {aa : XAA} {ls : Array Slot} {n : Nat} {lv : List (Option XV)} (h : x_L aa ls n lv) : lv_has ls n (x_pairs aa lv) := by
  refine ⟨h.1, h.2.1, fun q hq => ?_⟩
  obtain ⟨k, -, hk⟩ := List.mem_filterMap.mp hq
  split at hk
  · next v hv => cases hk; exact h.2.2 k v hv
  · cases hk
theorem x_pairs_in {aa : XAA} {lv : List (Option XV)} {k : Nat} {v : XV} (h : lv[k]? = some (some v)) : (k, x_cv aa v) ∈ x_pairs aa lv := by
  refine List.mem_filterMap.mpr ⟨k, List.mem_range.mpr (List.getElem?_eq_some_iff.mp h).1, ?_⟩
  rw [h]
theorem x_kill_get {lv : List (Option XV)} {i k : Nat} {w : XV} (h : (x_kill lv i)[k]? = some (some w)) : lv[k]? = some (some w) ∧ (k + 1 = i → x_c1 w = true) := by
  cases i with
  | zero => exact ⟨h, fun e => by omega⟩
  | succ j =>
    unfold x_kill at h
    dsimp only at h
    split at h
    · next x hx =>
      rw [List.getElem?_set] at h
      split at h
      · split at h <;> cases h
      · next hne => exact ⟨h, fun e => by omega⟩
    · next hx =>
      refine ⟨h, fun e => ?_⟩
      have e2 : k = j := by omega
      subst e2
      rcases w with x | x | r
      · rfl
      · exact absurd h (hx x)
      · rfl
theorem x_st1_L {aa : XAA} {ls : Array Slot} {n i : Nat} {lv : List (Option XV)} {v : XV} (h : lv_has ls n ((i, x_cv aa v) :: (x_pairs aa lv).filter (fun q => !(q.1 == i) && !(q.1 + 1 == i && q.2.category == 2)))) : x_L aa ls n (x_st1 lv i v) := by
  refine ⟨h.1, h.2.1, fun k w hw => ?_⟩
  unfold x_st1 at hw
  rw [List.getElem?_set] at hw
  split at hw
  · next e =>
    split at hw
    · cases hw
      subst e
      exact h.2.2 _ List.mem_cons_self
    · cases hw
  · next hne =>
    obtain ⟨h1, h2⟩ := x_kill_get hw
    refine h.2.2 (k, x_cv aa w) (List.mem_cons_of_mem _ (List.mem_filter.mpr ⟨x_pairs_in h1, ?_⟩))
    have e1 : (k == i) = false := by simp; omega
    by_cases e2 : k + 1 = i
    · have := x_cat1 (aa := aa) (h2 e2)
      simp [e1, this]
    · simp [e1, e2]
theorem x_st2_L {aa : XAA} {ls : Array Slot} {n i : Nat} {lv : List (Option XV)} {v : XV} (h : lv_has ls n ((i, x_cv aa v) :: (x_pairs aa lv).filter (fun q => !(q.1 == i) && (!(q.1 == i + 1) && !(q.1 + 1 == i && q.2.category == 2))))) : x_L aa ls n (x_st2 lv i v) := by
  refine ⟨h.1, h.2.1, fun k w hw => ?_⟩
  unfold x_st2 at hw
  rw [List.getElem?_set] at hw
  split at hw
  · split at hw <;> cases hw
  · next hne1 =>
    rw [List.getElem?_set] at hw
    split at hw
    · next e =>
      split at hw
      · cases hw
        subst e
        exact h.2.2 _ List.mem_cons_self
      · cases hw
    · next hne =>
      obtain ⟨h1, h2⟩ := x_kill_get hw
      refine h.2.2 (k, x_cv aa w) (List.mem_cons_of_mem _ (List.mem_filter.mpr ⟨x_pairs_in h1, ?_⟩))
      have e1 : (k == i) = false := by simp; omega
      have e3 : (k == i + 1) = false := by simp; omega
      by_cases e2 : k + 1 = i
      · have := x_cat1 (aa := aa) (h2 e2)
        simp [e1, e3, this]
      · simp [e1, e2, e3]
theorem x_st1_ok {n i : Nat} {lv : List (Option XV)} {v : XV} (hv : x_ok n v) (h : ∀ (k : Nat) (w : XV), lv[k]? = some (some w) → x_ok n w) : ∀ (k : Nat) (w : XV), (x_st1 lv i v)[k]? = some (some w) → x_ok n w := by
  intro k w hw
  unfold x_st1 at hw
  rw [List.getElem?_set] at hw
  split at hw
  · split at hw
    · cases hw; exact hv
    · cases hw
  · exact h k w (x_kill_get hw).1
theorem x_st2_ok {n i : Nat} {lv : List (Option XV)} {v : XV} (hv : x_ok n v) (h : ∀ (k : Nat) (w : XV), lv[k]? = some (some w) → x_ok n w) : ∀ (k : Nat) (w : XV), (x_st2 lv i v)[k]? = some (some w) → x_ok n w := by
  intro k w hw
  unfold x_st2 at hw
  rw [List.getElem?_set] at hw
  split at hw
  · split at hw <;> cases hw
  · rw [List.getElem?_set] at hw
    split at hw
    · split at hw
      · cases hw; exact hv
      · cases hw
    · exact h k w (x_kill_get hw).1
section XS
variable {y : XY} {pc : Nat} {lv : List (Option XV)} {st : List XV} {σ : XM} {kc ks : Nat} {Q : XRes → XM → Prop}
theorem x_istore_n {j : Fin 4} {i : Nat} {z : Int} (d : decode y.2.1 pc = .ok (.istore_n j, 1)) (hi : (j : Nat) = i) (hn : i < y.2.2.1) (k : x_A y (pc + 1) (x_st1 lv i (xI z)) st σ kc ks Q) : x_A y pc lv (xI z :: st) σ kc ks Q := by
  intro h1 h2 h3 p l e s m args below meth c A D aa0 aa H locs ls hC ha hw hS hL
  exact lv_istore_n hC.1 hC.2.1 d hi hL.has hn rfl (fun ls' hl => k (x_tl h1) (x_st1_ok (x_hd h1) h2) h3 p l e s m args below meth c A D aa0 aa H locs ls' hC ha hw hS (x_st1_L hl))
theorem x_istore {i : Nat} {z : Int} (d : decode y.2.1 pc = .ok (.istore i, 2)) (hn : i < y.2.2.1) (k : x_A y (pc + 2) (x_st1 lv i (xI z)) st σ kc ks Q) : x_A y pc lv (xI z :: st) σ kc ks Q := by
  intro h1 h2 h3 p l e s m args below meth c A D aa0 aa H locs ls hC ha hw hS hL
  exact lv_istore hC.1 hC.2.1 d hL.has hn rfl (fun ls' hl => k (x_tl h1) (x_st1_ok (x_hd h1) h2) h3 p l e s m args below meth c A D aa0 aa H locs ls' hC ha hw hS (x_st1_L hl))
theorem x_lstore_n {j : Fin 4} {i : Nat} {z : Int} (d : decode y.2.1 pc = .ok (.lstore_n j, 1)) (hi : (j : Nat) = i) (hn : i + 1 < y.2.2.1) (k : x_A y (pc + 1) (x_st2 lv i (xL z)) st σ kc ks Q) : x_A y pc lv (xL z :: st) σ kc ks Q := by
  intro h1 h2 h3 p l e s m args below meth c A D aa0 aa H locs ls hC ha hw hS hL
  exact lv_lstore_n hC.1 hC.2.1 d hi hL.has hn rfl (fun ls' hl => k (x_tl h1) (x_st2_ok (x_hd h1) h2) h3 p l e s m args below meth c A D aa0 aa H locs ls' hC ha hw hS (x_st2_L hl))
theorem x_lstore {i : Nat} {z : Int} (d : decode y.2.1 pc = .ok (.lstore i, 2)) (hn : i + 1 < y.2.2.1) (k : x_A y (pc + 2) (x_st2 lv i (xL z)) st σ kc ks Q) : x_A y pc lv (xL z :: st) σ kc ks Q := by
  intro h1 h2 h3 p l e s m args below meth c A D aa0 aa H locs ls hC ha hw hS hL
  exact lv_lstore hC.1 hC.2.1 d hL.has hn rfl (fun ls' hl => k (x_tl h1) (x_st2_ok (x_hd h1) h2) h3 p l e s m args below meth c A D aa0 aa H locs ls' hC ha hw hS (x_st2_L hl))
theorem x_astore_n {j : Fin 4} {i : Nat} {r : Option Nat} (d : decode y.2.1 pc = .ok (.astore_n j, 1)) (hi : (j : Nat) = i) (hn : i < y.2.2.1) (k : x_A y (pc + 1) (x_st1 lv i (xR r)) st σ kc ks Q) : x_A y pc lv (xR r :: st) σ kc ks Q := by
  intro h1 h2 h3 p l e s m args below meth c A D aa0 aa H locs ls hC ha hw hS hL
  cases r with
  | some q => exact lv_astore_n hC.1 hC.2.1 d hi hL.has hn rfl (fun ls' hl => k (x_tl h1) (x_st1_ok (x_hd h1) h2) h3 p l e s m args below meth c A D aa0 aa H locs ls' hC ha hw hS (x_st1_L hl))
  | none => exact lv_astore_nN hC.1 hC.2.1 d hi hL.has hn rfl (fun ls' hl => k (x_tl h1) (x_st1_ok (x_hd h1) h2) h3 p l e s m args below meth c A D aa0 aa H locs ls' hC ha hw hS (x_st1_L hl))
theorem x_astore {i : Nat} {r : Option Nat} (d : decode y.2.1 pc = .ok (.astore i, 2)) (hn : i < y.2.2.1) (k : x_A y (pc + 2) (x_st1 lv i (xR r)) st σ kc ks Q) : x_A y pc lv (xR r :: st) σ kc ks Q := by
  intro h1 h2 h3 p l e s m args below meth c A D aa0 aa H locs ls hC ha hw hS hL
  cases r with
  | some q => exact lv_astore hC.1 hC.2.1 d hL.has hn rfl (fun ls' hl => k (x_tl h1) (x_st1_ok (x_hd h1) h2) h3 p l e s m args below meth c A D aa0 aa H locs ls' hC ha hw hS (x_st1_L hl))
  | none => exact lv_astoreN hC.1 hC.2.1 d hL.has hn rfl (fun ls' hl => k (x_tl h1) (x_st1_ok (x_hd h1) h2) h3 p l e s m args below meth c A D aa0 aa H locs ls' hC ha hw hS (x_st1_L hl))
theorem x_iinc {i : Nat} {n z : Int} (d : decode y.2.1 pc = .ok (.iinc i n, 3)) (hv : lv[i]? = some (some (xI z))) (hn : i < y.2.2.1) (k : x_A y (pc + 3) (x_st1 lv i (xI (w32 (z + n)))) st σ kc ks Q) : x_A y pc lv st σ kc ks Q := by
  intro h1 h2 h3 p l e s m args below meth c A D aa0 aa H locs ls hC ha hw hS hL
  obtain ⟨q, hq⟩ := List.getElem?_of_mem (x_pairs_in (aa := aa) hv)
  exact lv_iinc hC.1 hC.2.1 d hL.has hq (i32_add z n) hn rfl (fun ls' hl => k h1 (x_st1_ok (v := xI (w32 (z + n))) (w32_r _) h2) h3 p l e s m args below meth c A D aa0 aa H locs ls' hC ha hw hS (x_st1_L (v := xI (w32 (z + n))) hl))
end XS
