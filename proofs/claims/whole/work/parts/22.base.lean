/-! rows over (shapes, numbers); loops; the house -/
theorem vx_ofWF {l : Launch} {y : MethodName} {ws ws' : List Cond} {rm : Room} {Pc : Array Value → State → Prop} {Qc : Array Value → State → Outcome → State → Prop} {XC : String → State → State → Prop} {mc ms : Nat} {free : Addr → Prop} {cc : ByteArray} {maxL : Nat} {ret : Option FieldType}
    (hy : plainFor y = true) (hw : ws = Cond.code y cc maxL ret :: ws')
    (body : ∀ p e s m args below meth c s₁, BodyLoose p l y (headSpec ws rm) cc maxL ret e s m args below meth c s₁ → c.maxLocals = maxL → (∀ x ∈ c.exceptionTable.toList, False) → Pc args s →
      W p l e (headSpec ws rm).room s m args below meth c s.heap [] 0 0 (vx_MQ below Qc XC args s mc ms free) (entryFrame m args maxL)) : vx_Met l y ws rm Pc Qc XC mc ms free := by
  refine MetFree.of_bodySF (code := cc) (maxLocals := maxL) (ret := ret) hy ?_ ?_
  · intro args s m h hn
    obtain ⟨meth, c, h1, h2, h3, h4, h5, h6, -, -⟩ := Cond.code_spec hn (atoms_spec (ws := ws) h _ (by rw [hw]; exact List.mem_cons_self))
    exact ⟨meth, c, h1, h2, h3, h4, h5, h6⟩
  · intro p e s m args below meth c s₁ B hml hP _
    have hh0 : s₁.heap = s.heap := by rw [B.state]; rfl
    have ht : ∀ x ∈ c.exceptionTable.toList, False := by
      obtain ⟨meth9, c9, h1, h2, -, -, -, -, h7, -⟩ := Cond.code_spec B.named (atoms_spec (ws := ws) B.pre _ (by rw [hw]; exact List.mem_cons_self))
      cases Option.some.inj (h1.symm.trans B.method)
      cases Option.some.inj (h2.symm.trans (Stand.of_body B).code)
      intro x hx
      rw [Array.isEmpty_iff.mp h7] at hx
      cases hx
    obtain ⟨t, a1, o, b1, b2, b3⟩ := body p e s m args below meth c s₁ B hml ht hP s₁ hh0 (Stand.of_body B)
    exact ⟨t, o, a1, b1, b2, b3⟩
/-- the contract of one of the JDK's own methods, out of its walk -/
theorem x_ofJ {y : XY} {as : List XV} {σ : XM} {Q : XRes → XM → Prop} (r : Nat) (hy : plainFor y.1 = true ∧ x_tab y.1 = []) (hw : x_words as ≤ y.2.2.1) (k : x_A y 0 (x_lv0 as ++ List.replicate r none) [] σ 0 0 Q) : x_M y as σ Q := by
  have k : x_A y 0 (x_lv0 as) [] σ 0 0 Q := by
    refine x_sub (fun j v hj => ?_) k
    by_cases h : j < (x_lv0 as).length
    · rwa [List.getElem?_append_left h] at hj
    · rw [List.getElem?_append_right (by omega)] at hj
      have := List.eq_of_mem_replicate (List.mem_of_getElem? hj)
      cases this
  intro h1 h3 l D aa sz hl
  refine vx_ofWF (cc := y.2.1) (maxL := y.2.2.1) (ret := y.2.2.2.1) hy.1 rfl ?_
  intro p e s m args below meth c s₁ B hml hnt hv
  obtain ⟨rfl, hsz, hW, hE⟩ := hv
  subst hsz
  have hts := atoms_spec (ws := x_wsM y) B.pre
  rw [lg_entry_eq]
  have hle := lv_entry (as.map (x_cv aa)) (n := y.2.2.1) (by rw [x_words_sl]; exact hw)
  refine k (fun v h => by cases h) (x_lv0_ok as h1) h3 p l e s m _ below meth c _ D aa aa s.heap [] _ ⟨B.exec, B.bytes, B.returns, hml, findClass_of_methodNamed B.named, fun w h => hts w (List.mem_cons_of_mem _ h), B.notSynchronized, x_noTab hy.2 hnt, hl, (name_of_methodNamed B.named B.method).1, hE, fun q hq => Or.inr hq⟩ (List.prefix_refl aa) hW va_S.rf ⟨hle.1, hle.2.1, fun j v hj => ?_⟩
  have := hle.2.2 _ (x_lv0_in (aa := aa) as 0 j v hj)
  rwa [Nat.zero_add] at this
def up (G : Nat → Nat → Int) (i j : Nat) (z : Int) : Nat → Nat → Int := fun a b => if a = i ∧ b = j then z else G a b
theorem up_same (G : Nat → Nat → Int) (i j : Nat) (z : Int) : up G i j z i j = z := by simp [up]
theorem up_cell {G : Nat → Nat → Int} {i j a : Nat} {z : Int} (h : a ≠ i) : up G i j z a = G a := by funext b; simp [up, h]
theorem up_row (G : Nat → Nat → Int) (i j : Nat) (z : Int) : up G i j z i = fun b => if b = j then z else G i b := by funext b; simp [up]
theorem up_ne {G : Nat → Nat → Int} {i j b : Nat} {z : Int} (h : b ≠ j) : up G i j z i b = G i b := by simp [up, h]
section XN
variable {y : XY} {pc : Nat} {lv : List (Option XV)} {st : List XV} {S : List XS} {σ : XM} {G : Nat → Nat → Int} {kc ks : Nat} {Q : XRes → XM → Prop}
theorem x_iaddN {a b : Int} (d : decode y.2.1 pc = .ok (.iadd, 1)) (h1 : -2147483648 ≤ a + b) (h2 : a + b < 2147483648) (k : x_A y (pc + 1) lv (xI (a + b) :: st) σ kc ks Q) : x_A y pc lv (xI b :: xI a :: st) σ kc ks Q := x_iadd d (by rw [w32_id h1 h2]; exact k)
theorem x_isubN {a b : Int} (d : decode y.2.1 pc = .ok (.isub, 1)) (h1 : -2147483648 ≤ a - b) (h2 : a - b < 2147483648) (k : x_A y (pc + 1) lv (xI (a - b) :: st) σ kc ks Q) : x_A y pc lv (xI b :: xI a :: st) σ kc ks Q := x_isub d (by rw [w32_id h1 h2]; exact k)
theorem x_imulN {a b : Int} (d : decode y.2.1 pc = .ok (.imul, 1)) (h1 : -2147483648 ≤ a * b) (h2 : a * b < 2147483648) (k : x_A y (pc + 1) lv (xI (a * b) :: st) σ kc ks Q) : x_A y pc lv (xI b :: xI a :: st) σ kc ks Q := x_imul d (by rw [w32_id h1 h2]; exact k)
theorem x_inegN {a : Int} (d : decode y.2.1 pc = .ok (.ineg, 1)) (h1 : -2147483648 ≤ -a) (h2 : -a < 2147483648) (k : x_A y (pc + 1) lv (xI (-a) :: st) σ kc ks Q) : x_A y pc lv (xI a :: st) σ kc ks Q := x_ineg d (by rw [w32_id h1 h2]; exact k)
theorem x_iincN {i : Nat} {n z : Int} (d : decode y.2.1 pc = .ok (.iinc i n, 3)) (hv : lv[i]? = some (some (xI z))) (hn : i < y.2.2.1) (h1 : -2147483648 ≤ z + n) (h2 : z + n < 2147483648) (k : x_A y (pc + 3) (x_st1 lv i (xI (z + n))) st σ kc ks Q) : x_A y pc lv st σ kc ks Q := x_iinc d hv hn (by rw [w32_id h1 h2]; exact k)
theorem x_getIG {i ci kf index N : Nat} {fin : List (Option XV)} {C : String} {T : u_T} (d : decode y.2.1 pc = .ok (.getfield index, 3)) (hS : S[i]? = some (.inl (ci, fin))) (hk : fin[kf]? = some none) (hc : vwCl[ci]? = some (C, T, N)) (hin : ∀ w ∈ u_ws C T N, w ∈ x_tbl) (hl : Cond.fieldLink y.1.cls index (T kf).1 (T kf).2.1 (T kf).2.2.1 ∈ x_tbl)
    (k : x_A y (pc + 3) lv (xI (G i kf) :: st) (S, G) kc ks Q) : x_A y pc lv (xR (some i) :: st) (S, G) kc ks Q := x_getI d hS hk hc hin hl k
theorem x_putIG {i ci kf index N : Nat} {fin : List (Option XV)} {C : String} {T : u_T} {z : Int} (ty0 : Nat → FieldType) (d : decode y.2.1 pc = .ok (.putfield index, 3)) (hS : S[i]? = some (.inl (ci, fin))) (hk : fin[kf]? = some none) (hc : vwCl[ci]? = some (C, T, N)) (hin : ∀ w ∈ u_ws C T N, w ∈ x_tbl) (hl : Cond.fieldLink y.1.cls index (T kf).1 (T kf).2.1 (T kf).2.2.1 ∈ x_tbl)
    (hty : ∀ k, k < N → parseFieldDescriptor (T k).2.2.1 = some (ty0 k)) (hnm : ∀ a, a < N → ∀ b, b < N → a ≠ b → (T a).2.1 ≠ (T b).2.1) (hd : parseFieldDescriptor (T kf).2.2.1 = some .int) (hfin : (T kf).2.2.2 = false)
    (k : x_A y (pc + 3) lv st (S, up G i kf z) kc ks Q) : x_A y pc lv (xI z :: xR (some i) :: st) (S, G) kc ks Q := x_putI ty0 d hS hk hc hin hl hty hnm hd hfin k
theorem x_ialdN {i len : Nat} {j : Int} (jn : Nat) (d : decode y.2.1 pc = .ok (.iaload, 1)) (hS : S[i]? = some (.inr (0, len))) (hj : j = (jn : Int)) (hl : jn < len) (k : x_A y (pc + 1) lv (xI (G i jn) :: st) (S, G) kc ks Q) : x_A y pc lv (xI j :: xR (some i) :: st) (S, G) kc ks Q := by
  subst hj
  refine x_iaload d hS (by omega) (by omega) ?_
  rw [Int.toNat_natCast]
  exact k
theorem x_baldN {i len : Nat} {j : Int} (jn : Nat) (d : decode y.2.1 pc = .ok (.baload, 1)) (hS : S[i]? = some (.inr (2, len))) (hj : j = (jn : Int)) (hl : jn < len) (k : x_A y (pc + 1) lv (xI (G i jn) :: st) (S, G) kc ks Q) : x_A y pc lv (xI j :: xR (some i) :: st) (S, G) kc ks Q := by
  subst hj
  refine x_baload d hS (by omega) (by omega) ?_
  rw [Int.toNat_natCast]
  exact k
theorem x_laldN {i len : Nat} {j : Int} (jn : Nat) (d : decode y.2.1 pc = .ok (.laload, 1)) (hS : S[i]? = some (.inr (1, len))) (hj : j = (jn : Int)) (hl : jn < len) (k : x_A y (pc + 1) lv (xL (G i jn) :: st) (S, G) kc ks Q) : x_A y pc lv (xI j :: xR (some i) :: st) (S, G) kc ks Q := by
  subst hj
  refine x_laload d hS (by omega) (by omega) ?_
  rw [Int.toNat_natCast]
  exact k
theorem x_iastN {i len : Nat} {j z : Int} (jn : Nat) (d : decode y.2.1 pc = .ok (.iastore, 1)) (hS : S[i]? = some (.inr (0, len))) (hj : j = (jn : Int)) (hl : jn < len) (k : x_A y (pc + 1) lv st (S, up G i jn z) kc ks Q) : x_A y pc lv (xI z :: xI j :: xR (some i) :: st) (S, G) kc ks Q := by
  subst hj
  refine x_iastore d hS (by omega) (by omega) ?_
  rw [Int.toNat_natCast]
  exact k
theorem x_bastN {i len : Nat} {j z : Int} (jn : Nat) (d : decode y.2.1 pc = .ok (.bastore, 1)) (hS : S[i]? = some (.inr (2, len))) (hj : j = (jn : Int)) (hl : jn < len) (hz : z = 0 ∨ z = 1) (k : x_A y (pc + 1) lv st (S, up G i jn z) kc ks Q) : x_A y pc lv (xI z :: xI j :: xR (some i) :: st) (S, G) kc ks Q := by
  subst hj
  refine x_bastore d hS (by omega) (by omega) hz ?_
  rw [Int.toNat_natCast]
  exact k
theorem x_lastN {i len : Nat} {j z : Int} (jn : Nat) (d : decode y.2.1 pc = .ok (.lastore, 1)) (hS : S[i]? = some (.inr (1, len))) (hj : j = (jn : Int)) (hl : jn < len) (k : x_A y (pc + 1) lv st (S, up G i jn z) kc ks Q) : x_A y pc lv (xL z :: xI j :: xR (some i) :: st) (S, G) kc ks Q := by
  subst hj
  refine x_lastore d hS (by omega) (by omega) ?_
  rw [Int.toNat_natCast]
  exact k
end XN
/-- the sum of the first n -/
def su (f : Nat → Int) : Nat → Int
  | 0 => 0
  | n + 1 => su f n + f n
theorem su_bd {f : Nat → Int} {c d : Int} {n : Nat} (h : ∀ i, i < n → c ≤ f i ∧ f i ≤ d) : n * c ≤ su f n ∧ su f n ≤ n * d := by
  induction n with
  | zero => simp [su]
  | succ n ih =>
    have h1 := ih (fun i hi => h i (by omega))
    have h2 := h n (by omega)
    rw [show ((n + 1 : Nat) : Int) = (n : Int) + 1 by omega, Int.add_mul, Int.add_mul]
    show _ ≤ su f n + f n ∧ su f n + f n ≤ _
    omega
/-- a loop that counts up: from i to n -/
theorem x_up_to {P : Nat → Prop} (i n : Nat) (hi : i ≤ n) (he : P n) (hs : ∀ j, i ≤ j → j < n → P (j + 1) → P j) : P i := by
  obtain ⟨d, rfl⟩ : ∃ d, n = i + d := ⟨n - i, by omega⟩
  clear hi
  induction d generalizing i with
  | zero => exact he
  | succ d ih => exact hs i (Nat.le_refl i) (by omega) (ih (i + 1) (by rw [show i + 1 + d = i + (d + 1) by omega]; exact he) (fun j h1 h2 => hs j (by omega) (by omega)))
/-- the house: h table row column, n how many rows. 0 pieces (room out water) 1 ways (a b long wide draught) 2 fires (piece from to first grows top) 3 fans (way push bears cable) 4 sets (plan fan minute is) 5 groups (piece people start) 6 doors (piece wide cost made) 7 drills (by people) 8 readings (piece minute is) 9 dials (eyes walk gauges mark lag) -/
abbrev HH : Type := (Nat → Nat → Nat → Int) × (Nat → Nat)
def Hwf (h : HH) : Prop :=
  (h.2 0 ≤ 8 ∧ h.2 1 ≤ 12 ∧ h.2 2 ≤ 4 ∧ h.2 3 ≤ 8 ∧ h.2 4 ≤ 60 ∧ h.2 5 ≤ 10 ∧ h.2 6 ≤ 6 ∧ h.2 7 ≤ 10 ∧ h.2 8 ≤ 40) ∧
  (∀ p, p < h.2 0 → 1 ≤ h.1 0 p 0 ∧ h.1 0 p 0 ≤ 200 ∧ 0 ≤ h.1 0 p 1 ∧ h.1 0 p 1 ≤ 40 ∧ 0 ≤ h.1 0 p 2 ∧ h.1 0 p 2 ≤ 21) ∧
  (∀ w, w < h.2 1 → 0 ≤ h.1 1 w 0 ∧ h.1 1 w 0 < h.2 0 ∧ 0 ≤ h.1 1 w 1 ∧ h.1 1 w 1 < h.2 0 ∧ h.1 1 w 0 ≠ h.1 1 w 1 ∧ 1 ≤ h.1 1 w 2 ∧ h.1 1 w 2 ≤ 4 ∧ 1 ≤ h.1 1 w 3 ∧ h.1 1 w 3 ≤ 40 ∧ -8 ≤ h.1 1 w 4 ∧ h.1 1 w 4 ≤ 8) ∧
  (∀ f, f < h.2 2 → 0 ≤ h.1 2 f 0 ∧ h.1 2 f 0 < h.2 0 ∧ 0 ≤ h.1 2 f 1 ∧ h.1 2 f 1 ≤ 20 ∧ h.1 2 f 1 < h.1 2 f 2 ∧ h.1 2 f 2 ≤ 21 ∧ 0 ≤ h.1 2 f 3 ∧ h.1 2 f 3 ≤ 100000 ∧ 0 ≤ h.1 2 f 4 ∧ h.1 2 f 4 ≤ 100000 ∧ 0 ≤ h.1 2 f 5 ∧ h.1 2 f 5 ≤ 100000) ∧
  (∀ f, f < h.2 3 → 0 ≤ h.1 3 f 0 ∧ h.1 3 f 0 < h.2 1 ∧ 1 ≤ h.1 3 f 1 ∧ h.1 3 f 1 ≤ 6 ∧ 1 ≤ h.1 3 f 2 ∧ h.1 3 f 2 ≤ 1000000 ∧ 0 ≤ h.1 3 f 3 ∧ h.1 3 f 3 < (2 : Int) ^ h.2 0) ∧
  (∀ k, k < h.2 4 → 0 ≤ h.1 4 k 0 ∧ h.1 4 k 0 ≤ 3 ∧ 0 ≤ h.1 4 k 1 ∧ h.1 4 k 1 < h.2 3 ∧ 0 ≤ h.1 4 k 2 ∧ h.1 4 k 2 ≤ 20 ∧ -1 ≤ h.1 4 k 3 ∧ h.1 4 k 3 ≤ 1) ∧
  (∀ g, g < h.2 5 → 0 ≤ h.1 5 g 0 ∧ h.1 5 g 0 < h.2 0 ∧ 1 ≤ h.1 5 g 1 ∧ h.1 5 g 1 ≤ 60 ∧ 0 ≤ h.1 5 g 2 ∧ h.1 5 g 2 ≤ 20) ∧
  (∀ d, d < h.2 6 → 0 ≤ h.1 6 d 0 ∧ h.1 6 d 0 < h.2 0 ∧ 1 ≤ h.1 6 d 1 ∧ h.1 6 d 1 ≤ 40 ∧ 1 ≤ h.1 6 d 2 ∧ h.1 6 d 2 ≤ 1000 ∧ 0 ≤ h.1 6 d 3 ∧ h.1 6 d 3 ≤ 1) ∧
  (∀ r, r < h.2 7 → 0 ≤ h.1 7 r 0 ∧ h.1 7 r 0 ≤ 20 ∧ 0 ≤ h.1 7 r 1 ∧ h.1 7 r 1 ≤ 600) ∧
  (∀ r, r < h.2 8 → 0 ≤ h.1 8 r 0 ∧ h.1 8 r 0 < h.2 0 ∧ 0 ≤ h.1 8 r 1 ∧ h.1 8 r 1 ≤ 20 ∧ 0 ≤ h.1 8 r 2 ∧ h.1 8 r 2 ≤ 1) ∧
  (0 ≤ h.1 9 0 0 ∧ h.1 9 0 0 ≤ 1000000 ∧ 1 ≤ h.1 9 0 1 ∧ h.1 9 0 1 ≤ 3 ∧ 0 ≤ h.1 9 0 2 ∧ h.1 9 0 2 < (2 : Int) ^ h.2 0 ∧ 1 ≤ h.1 9 0 3 ∧ h.1 9 0 3 ≤ 1000000 ∧ 0 ≤ h.1 9 0 4 ∧ h.1 9 0 4 ≤ 5)
/-- the reference's memory holds the house -/
def mRep (h : HH) (G : Nat → Nat → Int) : Prop :=
  (G o_M 1 = h.2 0 ∧ G o_M 2 = h.2 1 ∧ G o_M 3 = h.2 2 ∧ G o_M 4 = h.2 3 ∧ G o_M 5 = h.2 4 ∧ G o_M 6 = h.2 5 ∧ G o_M 7 = h.2 6 ∧ G o_M 8 = h.2 7 ∧ G o_M 9 = h.2 8) ∧
  (∀ p, p < h.2 0 → G m_room p = h.1 0 p 0 ∧ G m_out p = h.1 0 p 1 ∧ G m_water p = h.1 0 p 2) ∧
  (∀ w, w < h.2 1 → G m_wA w = h.1 1 w 0 ∧ G m_wB w = h.1 1 w 1 ∧ G m_wLong w = h.1 1 w 2 ∧ G m_wWide w = h.1 1 w 3 ∧ G m_wDraught w = h.1 1 w 4) ∧
  (∀ f, f < h.2 2 → G m_fPiece f = h.1 2 f 0 ∧ G m_fFrom f = h.1 2 f 1 ∧ G m_fTo f = h.1 2 f 2 ∧ G m_fFirst f = h.1 2 f 3 ∧ G m_fGrows f = h.1 2 f 4 ∧ G m_fTop f = h.1 2 f 5) ∧
  (∀ f, f < h.2 3 → G m_nWay f = h.1 3 f 0 ∧ G m_nPush f = h.1 3 f 1 ∧ G m_nBears f = h.1 3 f 2 ∧ G m_nCable f = h.1 3 f 3) ∧
  (∀ k, k < h.2 4 → G m_tPlan k = h.1 4 k 0 ∧ G m_tFan k = h.1 4 k 1 ∧ G m_tMinute k = h.1 4 k 2 ∧ G m_tIs k = h.1 4 k 3) ∧
  (∀ g, g < h.2 5 → G m_gPiece g = h.1 5 g 0 ∧ G m_gPeople g = h.1 5 g 1 ∧ G m_gStart g = h.1 5 g 2) ∧
  (∀ d, d < h.2 6 → G m_dPiece d = h.1 6 d 0 ∧ G m_dWide d = h.1 6 d 1 ∧ G m_dCost d = h.1 6 d 2 ∧ G m_isMade d = h.1 6 d 3) ∧
  (∀ r, r < h.2 7 → G m_rBy r = h.1 7 r 0 ∧ G m_rPeople r = h.1 7 r 1) ∧
  (∀ r, r < h.2 8 → G m_aPiece r = h.1 8 r 0 ∧ G m_aMinute r = h.1 8 r 1 ∧ G m_aIs r = h.1 8 r 2) ∧
  (G o_M 10 = h.1 9 0 0 ∧ G o_M 11 = h.1 9 0 1 ∧ G o_M 12 = h.1 9 0 2 ∧ G o_M 13 = h.1 9 0 3 ∧ G o_M 14 = h.1 9 0 4)
/-- mRep speaks of these cells alone -/
def mHouse (i : Nat) : Prop := i = o_M ∨ (m_room ≤ i ∧ i ≤ m_aIs)
theorem mRep.same {h : HH} {G G' : Nat → Nat → Int} (r : mRep h G) (h0 : ∀ k, 1 ≤ k → k ≤ 14 → G' o_M k = G o_M k) (h1 : ∀ i, m_room ≤ i → i ≤ m_aIs → G' i = G i) : mRep h G' := by
  obtain ⟨a, b, c, d, e, f, g, i, j, k, l⟩ := r
  refine ⟨?_, ?_, ?_, ?_, ?_, ?_, ?_, ?_, ?_, ?_, ?_⟩
  · simp only [h0 _ (by decide : 1 ≤ 1) (by decide), h0 2 (by decide) (by decide), h0 3 (by decide) (by decide), h0 4 (by decide) (by decide), h0 5 (by decide) (by decide), h0 6 (by decide) (by decide), h0 7 (by decide) (by decide), h0 8 (by decide) (by decide), h0 9 (by decide) (by decide)]; exact a
  · simp only [h1 m_room (by decide) (by decide), h1 m_out (by decide) (by decide), h1 m_water (by decide) (by decide)]; exact b
  · simp only [h1 m_wA (by decide) (by decide), h1 m_wB (by decide) (by decide), h1 m_wLong (by decide) (by decide), h1 m_wWide (by decide) (by decide), h1 m_wDraught (by decide) (by decide)]; exact c
  · simp only [h1 m_fPiece (by decide) (by decide), h1 m_fFrom (by decide) (by decide), h1 m_fTo (by decide) (by decide), h1 m_fFirst (by decide) (by decide), h1 m_fGrows (by decide) (by decide), h1 m_fTop (by decide) (by decide)]; exact d
  · simp only [h1 m_nWay (by decide) (by decide), h1 m_nPush (by decide) (by decide), h1 m_nBears (by decide) (by decide), h1 m_nCable (by decide) (by decide)]; exact e
  · simp only [h1 m_tPlan (by decide) (by decide), h1 m_tFan (by decide) (by decide), h1 m_tMinute (by decide) (by decide), h1 m_tIs (by decide) (by decide)]; exact f
  · simp only [h1 m_gPiece (by decide) (by decide), h1 m_gPeople (by decide) (by decide), h1 m_gStart (by decide) (by decide)]; exact g
  · simp only [h1 m_dPiece (by decide) (by decide), h1 m_dWide (by decide) (by decide), h1 m_dCost (by decide) (by decide), h1 m_isMade (by decide) (by decide)]; exact i
  · simp only [h1 m_rBy (by decide) (by decide), h1 m_rPeople (by decide) (by decide)]; exact j
  · simp only [h1 m_aPiece (by decide) (by decide), h1 m_aMinute (by decide) (by decide), h1 m_aIs (by decide) (by decide)]; exact k
  · simp only [h0 10 (by decide) (by decide), h0 11 (by decide) (by decide), h0 12 (by decide) (by decide), h0 13 (by decide) (by decide), h0 14 (by decide) (by decide)]; exact l
