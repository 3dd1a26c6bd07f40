/-! derived rows -/
section XD
variable {y y' : XY} {pc : Nat} {lv lv' : List (Option XV)} {st stk as : List XV} {σ σ' : XM} {kc ks : Nat} {Q Q' : XRes → XM → Prop}
/-- fewer locals -/
theorem x_sub (h : ∀ (k : Nat) (v : XV), lv'[k]? = some (some v) → lv[k]? = some (some v)) (k : x_A y pc lv' st σ kc ks Q) : x_A y pc lv st σ kc ks Q := by
  intro h1 h2 h3 p l e s m args below meth c A D aa0 aa H locs ls hC ha hw hS hL
  exact k h1 (fun j v hj => h2 j v (h j v hj)) h3 p l e s m args below meth c A D aa0 aa H locs ls hC ha hw hS ⟨hL.1, hL.2.1, fun j v hj => hL.2.2 j v (h j v hj)⟩
theorem x_lv {lv'' : List (Option XV)} (e : lv = lv'') (k : x_A y pc lv'' st σ kc ks Q) : x_A y pc lv st σ kc ks Q := e ▸ k
theorem x_mono {Q1 : XRes → XM → Prop} (h : ∀ r τ, Q1 r τ → Q r τ) (k : x_A y pc lv st σ kc ks Q1) : x_A y pc lv st σ kc ks Q := by
  intro h1 h2 h3 p l e s m args below meth c A D aa0 aa H locs ls hC ha hw hS hL T hT X
  obtain ⟨t, a, o, b1, b2, b3⟩ := k h1 h2 h3 p l e s m args below meth c A D aa0 aa H locs ls hC ha hw hS hL T hT X
  refine ⟨t, a, o, b1, b2, ?_⟩
  rcases b3 with ⟨⟨v, τ, aa', e1, e2, e3⟩, L⟩ | ⟨q, e1, E, ce, L, ⟨τ, aa', e2, e3⟩, e4⟩
  · exact Or.inl ⟨⟨v, τ, aa', e1, h _ _ e2, e3⟩, L⟩
  · exact Or.inr ⟨q, e1, E, ce, L, ⟨τ, aa', h _ _ e2, e3⟩, e4⟩
/-- what is known of the values and the memory may be used -/
theorem x_know (k : (∀ v ∈ st, x_ok σ.1.length v) → (∀ (j : Nat) (v : XV), lv[j]? = some (some v) → x_ok σ.1.length v) → x_okM σ → x_A y pc lv st σ kc ks Q) : x_A y pc lv st σ kc ks Q := fun h1 h2 h3 => k h1 h2 h3 h1 h2 h3
theorem x_knowM {as : List XV} (k : (∀ v ∈ as, x_ok σ.1.length v) → x_okM σ → x_M y as σ Q) : x_M y as σ Q := fun h1 h3 => k h1 h3 h1 h3
theorem x_of {as : List XV} (r : Nat) (hy : (plainName y.1.cls && (x_tab y.1).isEmpty) = true) (hw : x_words as ≤ y.2.2.1) (k : x_A y 0 (x_lv0 as ++ List.replicate r none) [] σ 0 0 Q) : x_M y as σ Q := by
  refine x_ofA hy hw (x_sub (fun j v hj => ?_) k)
  by_cases h : j < (x_lv0 as).length
  · rwa [List.getElem?_append_left h] at hj
  · rw [List.getElem?_append_right (by omega)] at hj
    have := List.eq_of_mem_replicate (List.mem_of_getElem? hj)
    cases this
/-- a contract that says the answer and the memory -/
def x_is (r0 : XRes) (σ0 : XM) : XRes → XM → Prop := fun r τ => r = r0 ∧ τ = σ0
theorem x_V1 {i ci N index n : Nat} {fin : List (Option XV)} {T : u_T} {w : XV} (d : decode y.2.1 pc = .ok (.invokevirtual index, 3)) (he : x_edgeV y y' index n) (hz : y'.2.2.2.2.cells = 0 ∧ y'.2.2.2.2.slots = 0 ∧ kc ≤ y.2.2.2.2.cells ∧ ks ≤ y.2.2.2.2.slots) (hS : σ.1[i]? = some (.inl (ci, fin))) (hcl : vwCl[ci]? = some (y'.1.cls, T, N)) (hst : stk = as.reverse ++ xR (some i) :: st) (hn : as.length = n) (hst8 : x_words st ≤ 8) (hM : x_M y' (xR (some i) :: as) σ (x_is (.inl (some w)) σ'))
    (k : x_A y (pc + 3) lv (w :: st) σ' kc ks Q) : x_A y pc lv stk σ kc ks Q := by
  obtain ⟨z1, z2, z3, z4⟩ := hz
  refine x_callV d he hS hcl hM hst hn hst8 (by rw [z1]; exact z3) (by rw [z2]; exact z4) (fun v τ h => ?_) (fun E τ h => ?_)
  · obtain ⟨h1, h2⟩ := h
    cases h1; subst h2
    rw [z1, z2]
    exact k
  · cases h.1
theorem x_V0 {i ci N index n : Nat} {fin : List (Option XV)} {T : u_T} (d : decode y.2.1 pc = .ok (.invokevirtual index, 3)) (he : x_edgeV y y' index n) (hz : y'.2.2.2.2.cells = 0 ∧ y'.2.2.2.2.slots = 0 ∧ kc ≤ y.2.2.2.2.cells ∧ ks ≤ y.2.2.2.2.slots) (hS : σ.1[i]? = some (.inl (ci, fin))) (hcl : vwCl[ci]? = some (y'.1.cls, T, N)) (hst : stk = as.reverse ++ xR (some i) :: st) (hn : as.length = n) (hst8 : x_words st ≤ 8) (hM : x_M y' (xR (some i) :: as) σ (x_is (.inl none) σ'))
    (k : x_A y (pc + 3) lv st σ' kc ks Q) : x_A y pc lv stk σ kc ks Q := by
  obtain ⟨z1, z2, z3, z4⟩ := hz
  refine x_callV d he hS hcl hM hst hn hst8 (by rw [z1]; exact z3) (by rw [z2]; exact z4) (fun v τ h => ?_) (fun E τ h => ?_)
  · obtain ⟨h1, h2⟩ := h
    cases h1; subst h2
    rw [z1, z2]
    exact k
  · cases h.1
/-- .. that says what holds of the memory behind it -/
theorem x_VQ {i ci N index n : Nat} {fin : List (Option XV)} {T : u_T} {P : Option XV → XM → Prop} (d : decode y.2.1 pc = .ok (.invokevirtual index, 3)) (he : x_edgeV y y' index n) (hz : y'.2.2.2.2.cells = 0 ∧ y'.2.2.2.2.slots = 0 ∧ kc ≤ y.2.2.2.2.cells ∧ ks ≤ y.2.2.2.2.slots) (hS : σ.1[i]? = some (.inl (ci, fin))) (hcl : vwCl[ci]? = some (y'.1.cls, T, N)) (hst : stk = as.reverse ++ xR (some i) :: st) (hn : as.length = n) (hst8 : x_words st ≤ 8) (hM : x_M y' (xR (some i) :: as) σ (fun r τ => ∃ v, r = .inl v ∧ P v τ))
    (k : ∀ v τ, P v τ → x_A y (pc + 3) lv (v.toList ++ st) τ kc ks Q) : x_A y pc lv stk σ kc ks Q := by
  obtain ⟨z1, z2, z3, z4⟩ := hz
  refine x_callV d he hS hcl hM hst hn hst8 (by rw [z1]; exact z3) (by rw [z2]; exact z4) (fun v τ h => ?_) (fun E τ h => ?_)
  · obtain ⟨v', h1, h2⟩ := h
    cases h1
    rw [z1, z2]
    exact k _ _ h2
  · obtain ⟨v', h1, h2⟩ := h
    cases h1
theorem x_S1 {index n : Nat} {w : XV} (d : decode y.2.1 pc = .ok (.invokestatic index, 3)) (he : x_edgeS y y' index n) (hz : y'.2.2.2.2.cells = 0 ∧ y'.2.2.2.2.slots = 0 ∧ kc ≤ y.2.2.2.2.cells ∧ ks ≤ y.2.2.2.2.slots) (hst : stk = as.reverse ++ st) (hn : as.length = n) (hst8 : x_words st ≤ 8) (hM : x_M y' as σ (x_is (.inl (some w)) σ'))
    (k : x_A y (pc + 3) lv (w :: st) σ' kc ks Q) : x_A y pc lv stk σ kc ks Q := by
  obtain ⟨z1, z2, z3, z4⟩ := hz
  refine x_callS d he hM hst hn hst8 (by rw [z1]; exact z3) (by rw [z2]; exact z4) (fun v τ h => ?_) (fun E τ h => ?_)
  · obtain ⟨h1, h2⟩ := h
    cases h1; subst h2
    rw [z1, z2]
    exact k
  · cases h.1
theorem x_S0 {index n : Nat} (d : decode y.2.1 pc = .ok (.invokestatic index, 3)) (he : x_edgeS y y' index n) (hz : y'.2.2.2.2.cells = 0 ∧ y'.2.2.2.2.slots = 0 ∧ kc ≤ y.2.2.2.2.cells ∧ ks ≤ y.2.2.2.2.slots) (hst : stk = as.reverse ++ st) (hn : as.length = n) (hst8 : x_words st ≤ 8) (hM : x_M y' as σ (x_is (.inl none) σ'))
    (k : x_A y (pc + 3) lv st σ' kc ks Q) : x_A y pc lv stk σ kc ks Q := by
  obtain ⟨z1, z2, z3, z4⟩ := hz
  refine x_callS d he hM hst hn hst8 (by rw [z1]; exact z3) (by rw [z2]; exact z4) (fun v τ h => ?_) (fun E τ h => ?_)
  · obtain ⟨h1, h2⟩ := h
    cases h1; subst h2
    rw [z1, z2]
    exact k
  · cases h.1
end XD
