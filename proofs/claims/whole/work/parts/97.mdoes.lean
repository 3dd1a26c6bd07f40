/-! the reference: does -/
def stM : Nat → Nat
  | 0 => 64
  | 1 => 67
  | 2 => 72
  | 3 => 78
  | 4 => 82
  | 5 => 86
  | 6 => 89
  | 7 => 93
  | _ => 95
def ncM : Nat → Nat
  | 0 => 3
  | 1 => 5
  | 2 => 6
  | 3 => 4
  | 4 => 4
  | 5 => 3
  | 6 => 4
  | 7 => 2
  | _ => 3
def mRep' (h : HH) (G : Nat → Nat → Int) : Prop := (∀ T, T < 9 → G o_M (T + 1) = h.2 T ∧ ∀ c, c < ncM T → ∀ r, r < h.2 T → G (stM T + c) r = h.1 T r c) ∧ ∀ c, c < 5 → G o_M (10 + c) = h.1 9 0 c
theorem mRep.to {h : HH} {G : Nat → Nat → Int} (r : mRep h G) : mRep' h G := by
  obtain ⟨⟨a0, a1, a2, a3, a4, a5, a6, a7, a8⟩, q0, q1, q2, q3, q4, q5, q6, q7, q8, l1, l2, l3, l4, l5⟩ := r
  refine ⟨fun T hT => ?_, fun c hc => ?_⟩
  · match T, hT with

    | 0, _ => exact ⟨a0, fun c hc p hp => match c, hc with
      | 0, _ => (q0 p hp).1
      | 1, _ => (q0 p hp).2.1
      | 2, _ => (q0 p hp).2.2
      | c + 3, hc => absurd hc (by show ¬ (c + 3 < 3); omega)⟩
    | 1, _ => exact ⟨a1, fun c hc p hp => match c, hc with
      | 0, _ => (q1 p hp).1
      | 1, _ => (q1 p hp).2.1
      | 2, _ => (q1 p hp).2.2.1
      | 3, _ => (q1 p hp).2.2.2.1
      | 4, _ => (q1 p hp).2.2.2.2
      | c + 5, hc => absurd hc (by show ¬ (c + 5 < 5); omega)⟩
    | 2, _ => exact ⟨a2, fun c hc p hp => match c, hc with
      | 0, _ => (q2 p hp).1
      | 1, _ => (q2 p hp).2.1
      | 2, _ => (q2 p hp).2.2.1
      | 3, _ => (q2 p hp).2.2.2.1
      | 4, _ => (q2 p hp).2.2.2.2.1
      | 5, _ => (q2 p hp).2.2.2.2.2
      | c + 6, hc => absurd hc (by show ¬ (c + 6 < 6); omega)⟩
    | 3, _ => exact ⟨a3, fun c hc p hp => match c, hc with
      | 0, _ => (q3 p hp).1
      | 1, _ => (q3 p hp).2.1
      | 2, _ => (q3 p hp).2.2.1
      | 3, _ => (q3 p hp).2.2.2
      | c + 4, hc => absurd hc (by show ¬ (c + 4 < 4); omega)⟩
    | 4, _ => exact ⟨a4, fun c hc p hp => match c, hc with
      | 0, _ => (q4 p hp).1
      | 1, _ => (q4 p hp).2.1
      | 2, _ => (q4 p hp).2.2.1
      | 3, _ => (q4 p hp).2.2.2
      | c + 4, hc => absurd hc (by show ¬ (c + 4 < 4); omega)⟩
    | 5, _ => exact ⟨a5, fun c hc p hp => match c, hc with
      | 0, _ => (q5 p hp).1
      | 1, _ => (q5 p hp).2.1
      | 2, _ => (q5 p hp).2.2
      | c + 3, hc => absurd hc (by show ¬ (c + 3 < 3); omega)⟩
    | 6, _ => exact ⟨a6, fun c hc p hp => match c, hc with
      | 0, _ => (q6 p hp).1
      | 1, _ => (q6 p hp).2.1
      | 2, _ => (q6 p hp).2.2.1
      | 3, _ => (q6 p hp).2.2.2
      | c + 4, hc => absurd hc (by show ¬ (c + 4 < 4); omega)⟩
    | 7, _ => exact ⟨a7, fun c hc p hp => match c, hc with
      | 0, _ => (q7 p hp).1
      | 1, _ => (q7 p hp).2
      | c + 2, hc => absurd hc (by show ¬ (c + 2 < 2); omega)⟩
    | 8, _ => exact ⟨a8, fun c hc p hp => match c, hc with
      | 0, _ => (q8 p hp).1
      | 1, _ => (q8 p hp).2.1
      | 2, _ => (q8 p hp).2.2
      | c + 3, hc => absurd hc (by show ¬ (c + 3 < 3); omega)⟩
    | T + 9, hT => omega
  · match c, hc with
    | 0, _ => exact l1
    | 1, _ => exact l2
    | 2, _ => exact l3
    | 3, _ => exact l4
    | 4, _ => exact l5
    | c + 5, hc => omega
theorem mRep.from {h : HH} {G : Nat → Nat → Int} (r : mRep' h G) : mRep h G := by
  refine ⟨⟨(r.1 0 (by decide)).1, (r.1 1 (by decide)).1, (r.1 2 (by decide)).1, (r.1 3 (by decide)).1, (r.1 4 (by decide)).1, (r.1 5 (by decide)).1, (r.1 6 (by decide)).1, (r.1 7 (by decide)).1, (r.1 8 (by decide)).1⟩, fun p hp => ⟨(r.1 0 (by decide)).2 0 (by decide) p hp, (r.1 0 (by decide)).2 1 (by decide) p hp, (r.1 0 (by decide)).2 2 (by decide) p hp⟩, fun p hp => ⟨(r.1 1 (by decide)).2 0 (by decide) p hp, (r.1 1 (by decide)).2 1 (by decide) p hp, (r.1 1 (by decide)).2 2 (by decide) p hp, (r.1 1 (by decide)).2 3 (by decide) p hp, (r.1 1 (by decide)).2 4 (by decide) p hp⟩, fun p hp => ⟨(r.1 2 (by decide)).2 0 (by decide) p hp, (r.1 2 (by decide)).2 1 (by decide) p hp, (r.1 2 (by decide)).2 2 (by decide) p hp, (r.1 2 (by decide)).2 3 (by decide) p hp, (r.1 2 (by decide)).2 4 (by decide) p hp, (r.1 2 (by decide)).2 5 (by decide) p hp⟩, fun p hp => ⟨(r.1 3 (by decide)).2 0 (by decide) p hp, (r.1 3 (by decide)).2 1 (by decide) p hp, (r.1 3 (by decide)).2 2 (by decide) p hp, (r.1 3 (by decide)).2 3 (by decide) p hp⟩, fun p hp => ⟨(r.1 4 (by decide)).2 0 (by decide) p hp, (r.1 4 (by decide)).2 1 (by decide) p hp, (r.1 4 (by decide)).2 2 (by decide) p hp, (r.1 4 (by decide)).2 3 (by decide) p hp⟩, fun p hp => ⟨(r.1 5 (by decide)).2 0 (by decide) p hp, (r.1 5 (by decide)).2 1 (by decide) p hp, (r.1 5 (by decide)).2 2 (by decide) p hp⟩, fun p hp => ⟨(r.1 6 (by decide)).2 0 (by decide) p hp, (r.1 6 (by decide)).2 1 (by decide) p hp, (r.1 6 (by decide)).2 2 (by decide) p hp, (r.1 6 (by decide)).2 3 (by decide) p hp⟩, fun p hp => ⟨(r.1 7 (by decide)).2 0 (by decide) p hp, (r.1 7 (by decide)).2 1 (by decide) p hp⟩, fun p hp => ⟨(r.1 8 (by decide)).2 0 (by decide) p hp, (r.1 8 (by decide)).2 1 (by decide) p hp, (r.1 8 (by decide)).2 2 (by decide) p hp⟩, ⟨r.2 0 (by decide), r.2 1 (by decide), r.2 2 (by decide), r.2 3 (by decide), r.2 4 (by decide)⟩⟩
theorem stM_dis : ∀ T : Fin 9, ∀ T' : Fin 9, ∀ c : Fin 6, T ≠ T' → (c : Nat) < ncM T' → ¬ (stM T ≤ stM T' + c ∧ stM T' + c < stM T + ncM T) := by decide +kernel
theorem stM_rng : ∀ T : Fin 9, 64 ≤ stM T ∧ stM T + ncM T ≤ 98 ∧ ncM T ≤ 6 := by decide +kernel
def rowUp (G : Nat → Nat → Int) (b n : Nat) (v : Nat → Int) : Nat → Nat → Nat → Int
  | 0 => G
  | m + 1 => up (rowUp G b n v m) (b + m) n (v m)
theorem rowUp_o {G : Nat → Nat → Int} {b n : Nat} {v : Nat → Int} {m i : Nat} (h : i < b ∨ b + m ≤ i) : rowUp G b n v m i = G i := by
  induction m with
  | zero => rfl
  | succ m ih => show up _ (b + m) n (v m) i = _; rw [up_cell (by omega)]; exact ih (by omega)
theorem rowUp_i {G : Nat → Nat → Int} {b n : Nat} {v : Nat → Int} {m c : Nat} (h : c < m) (j : Nat) : rowUp G b n v m (b + c) j = if j = n then v c else G (b + c) j := by
  induction m with
  | zero => omega
  | succ m ih =>
    show up _ (b + m) n (v m) (b + c) j = _
    by_cases e : c = m
    · subst e
      rw [up_row, rowUp_o (by omega)]
    · rw [up_cell (by omega)]; exact ih (by omega)
theorem mRep.add {h : HH} {G : Nat → Nat → Int} (r : mRep h G) {T : Nat} (hT : T < 9) (v : Nat → Int) : mRep (addR h T v) (up (rowUp G (stM T) (h.2 T) v (ncM T)) o_M (T + 1) ((h.2 T : Int) + 1)) := by
  have x := r.to
  have g := stM_rng ⟨T, hT⟩
  have g1 : 64 ≤ stM T := g.1
  refine mRep.from ⟨fun T' hT' => ⟨?_, fun c hc p hp => ?_⟩, fun c hc => ?_⟩
  · show _ = (((if T' = T then h.2 T' + 1 else h.2 T' : Nat)) : Int)
    by_cases e : T' = T
    · subst e; rw [if_pos rfl, up_same]; omega
    · rw [if_neg e, up_ne (by omega), rowUp_o (by show 63 < _ ∨ _; omega)]; exact (x.1 T' hT').1
  · have g' := stM_rng ⟨T', hT'⟩
    have g1' : 64 ≤ stM T' := g'.1
    have g2' : ncM T' ≤ 6 := g'.2.2
    have hp' : p < if T' = T then h.2 T' + 1 else h.2 T' := hp
    rw [up_cell (show stM T' + c ≠ o_M by show _ ≠ 63; omega)]
    show _ = if T' = T ∧ p = h.2 T then v c else h.1 T' p c
    by_cases e : T' = T
    · subst e
      rw [if_pos rfl] at hp'
      rw [rowUp_i hc]
      by_cases e2 : p = h.2 T'
      · rw [if_pos e2, if_pos ⟨rfl, e2⟩]
      · rw [if_neg e2, if_neg (fun z => e2 z.2)]; exact (x.1 T' hT').2 c hc p (by omega)
    · rw [if_neg e] at hp'
      have dj := stM_dis ⟨T, hT⟩ ⟨T', hT'⟩ ⟨c, by omega⟩ (fun z => e (by injection z with z; exact z.symm)) hc
      have dj' : ¬ (stM T ≤ stM T' + c ∧ stM T' + c < stM T + ncM T) := dj
      rw [rowUp_o (by omega), if_neg (fun z => e z.1)]; exact (x.1 T' hT').2 c hc p hp'
  · rw [up_ne (by omega), rowUp_o (by show 63 < _ ∨ _; omega)]
    show _ = if 9 = T ∧ 0 = h.2 T then v c else h.1 9 0 c
    rw [if_neg (by omega)]; exact x.2 c hc
theorem mRep.put {h : HH} {G : Nat → Nat → Int} (r : mRep h G) {T p c : Nat} (hT : T < 9) (hc : c < ncM T) (z : Int) : mRep (setC h T p c z) (up G (stM T + c) p z) := by
  have x := r.to
  have g := stM_rng ⟨T, hT⟩
  have g1 : 64 ≤ stM T := g.1
  refine mRep.from ⟨fun T' hT' => ⟨?_, fun c' hc' p' hp => ?_⟩, fun c' hc' => ?_⟩
  · rw [up_cell (show o_M ≠ _ by show 63 ≠ _; omega)]; exact (x.1 T' hT').1
  · have g' := stM_rng ⟨T', hT'⟩
    have g2' : ncM T' ≤ 6 := g'.2.2
    show _ = if T' = T ∧ p' = p then (if c' = c then z else h.1 T p c') else h.1 T' p' c'
    have y := (x.1 T' hT').2 c' hc' p' hp
    by_cases e : T' = T
    · subst e
      by_cases e2 : p' = p
      · subst e2
        rw [if_pos ⟨rfl, rfl⟩]
        by_cases e3 : c' = c
        · subst e3; rw [if_pos rfl, up_same]
        · rw [if_neg e3, up_cell (by omega)]; exact y
      · rw [if_neg (fun z => e2 z.2)]
        by_cases e3 : c' = c
        · subst e3; rw [up_ne e2]; exact y
        · rw [up_cell (by omega)]; exact y
    · have dj := stM_dis ⟨T, hT⟩ ⟨T', hT'⟩ ⟨c', by omega⟩ (fun z => e (by injection z with z; exact z.symm)) hc'
      have dj' : ¬ (stM T ≤ stM T' + c' ∧ stM T' + c' < stM T + ncM T) := dj
      rw [up_cell (by omega), if_neg (fun z => e z.1)]; exact y
  · rw [up_cell (show o_M ≠ _ by show 63 ≠ _; omega)]
    show _ = if 9 = T ∧ 0 = p then (if c' = c then z else h.1 T p c') else h.1 9 0 c'
    rw [if_neg (by omega)]; exact x.2 c' hc'
theorem mRep.dial {h : HH} {G : Nat → Nat → Int} (r : mRep h G) {c : Nat} (hc : c < 5) (z : Int) : mRep (setC h 9 0 c z) (up G o_M (10 + c) z) := by
  have x := r.to
  refine mRep.from ⟨fun T' hT' => ⟨?_, fun c' hc' p' hp => ?_⟩, fun c' hc' => ?_⟩
  · rw [up_ne (by omega)]; exact (x.1 T' hT').1
  · have g' := stM_rng ⟨T', hT'⟩
    have g1' : 64 ≤ stM T' := g'.1
    rw [up_cell (show stM T' + c' ≠ o_M by show _ ≠ 63; omega)]
    show _ = if T' = 9 ∧ p' = 0 then (if c' = c then z else h.1 9 0 c') else h.1 T' p' c'
    rw [if_neg (by omega)]
    exact (x.1 T' hT').2 c' hc' p' hp
  · show _ = if 9 = 9 ∧ 0 = 0 then (if c' = c then z else h.1 9 0 c') else h.1 9 0 c'
    rw [if_pos ⟨rfl, rfl⟩]
    by_cases e : c' = c
    · subst e; rw [if_pos rfl, up_same]
    · rw [if_neg e, up_ne (by omega)]; exact x.2 c' hc'
theorem mRep.cong {h h' : HH} {G : Nat → Nat → Int} (r : mRep h G) (e1 : h'.2 = h.2) (e2 : ∀ T p c, h'.1 T p c = h.1 T p c) : mRep h' G := by
  have : h' = h := Prod.ext (funext fun T => funext fun p => funext fun c => e2 T p c) e1
  rw [this]; exact r
/-- what an act does -/
def rAp (R : Nat → Int) (h : HH) : HH :=
  if R 0 = 0 then addR h 0 (v6 (R 1) (R 2) 21 0 0 0) else if R 0 = 1 then addR h 1 (v6 (R 1) (R 2) (R 3) (R 4) (R 5) 0) else if R 0 = 2 then setC h 0 (R 1).toNat 2 (R 2)
  else if R 0 = 3 then addR h 2 (v6 (R 1) (R 2) (R 3) (R 4) (R 5) (R 6)) else if R 0 = 4 then addR h 3 (v6 (R 1) (R 2) (R 3) (R 4) 0 0) else if R 0 = 5 then addR h 4 (v6 (R 1) (R 2) (R 3) (R 4) 0 0)
  else if R 0 = 6 then setC h 9 0 0 (R 1) else if R 0 = 7 then addR h 5 (v6 (R 1) (R 2) (R 3) 0 0 0) else if R 0 = 8 then setC h 9 0 1 (R 1) else if R 0 = 9 then addR h 6 (v6 (R 1) (R 2) (R 3) 0 0 0)
  else if R 0 = 10 then setC h 6 (R 1).toNat 3 (if R 2 = 1 then 1 else 0) else if R 0 = 11 then setG h (R 1) (R 2) (R 3) else if R 0 = 12 then addR h 7 (v6 (R 1) (R 2) 0 0 0 0) else addR h 8 (v6 (R 1) (R 2) (R 3) 0 0 0)
/-- it can be done -/
def rOk (R : Nat → Int) (h : HH) : Prop := 0 ≤ R 0 ∧ R 0 ≤ 13 ∧ (R 0 = 0 → h.2 0 < 8) ∧ (R 0 = 1 → h.2 1 < 12) ∧ (R 0 = 2 → 0 ≤ R 1 ∧ R 1 < h.2 0) ∧ (R 0 = 3 → h.2 2 < 4) ∧ (R 0 = 4 → h.2 3 < 8) ∧ (R 0 = 5 → h.2 4 < 60) ∧ (R 0 = 7 → h.2 5 < 10) ∧ (R 0 = 9 → h.2 6 < 6) ∧ (R 0 = 10 → 0 ≤ R 1 ∧ R 1 < h.2 6) ∧ (R 0 = 12 → h.2 7 < 10) ∧ (R 0 = 13 → h.2 8 < 40)
/-- nothing but the house is otherwise -/
def hFrame (G G' : Nat → Nat → Int) : Prop := (∀ i, (i < 63 ∨ 97 < i) → G' i = G i) ∧ ∀ k, (k = 0 ∨ 14 < k) → G' o_M k = G o_M k
theorem hFrame.rf (G : Nat → Nat → Int) : hFrame G G := ⟨fun _ _ => rfl, fun _ _ => rfl⟩
theorem hFrame.tr {G1 G2 G3 : Nat → Nat → Int} (a : hFrame G1 G2) (b : hFrame G2 G3) : hFrame G1 G3 := ⟨fun i h => (b.1 i h).trans (a.1 i h), fun k h => (b.2 k h).trans (a.2 k h)⟩
theorem hFrame.add (G : Nat → Nat → Int) {T : Nat} (hT : T < 9) (n : Nat) (v : Nat → Int) (z : Int) : hFrame G (up (rowUp G (stM T) n v (ncM T)) o_M (T + 1) z) := by
  have g := stM_rng ⟨T, hT⟩
  have g1 : 64 ≤ stM T := g.1
  have g2 : stM T + ncM T ≤ 98 := g.2.1
  refine ⟨fun i hi => ?_, fun k hk => ?_⟩
  · rw [up_cell (show i ≠ o_M by show i ≠ 63; omega), rowUp_o (by omega)]
  · rw [up_ne (by omega), rowUp_o (by show 63 < _ ∨ _; omega)]
theorem hFrame.put (G : Nat → Nat → Int) {T c : Nat} (hT : T < 9) (hc : c < ncM T) (p : Nat) (z : Int) : hFrame G (up G (stM T + c) p z) := by
  have g := stM_rng ⟨T, hT⟩
  have g1 : 64 ≤ stM T := g.1
  have g2 : stM T + ncM T ≤ 98 := g.2.1
  exact ⟨fun i hi => up_cell (by omega), fun k hk => by rw [up_cell (show o_M ≠ _ by show 63 ≠ _; omega)]⟩
theorem hFrame.dial (G : Nat → Nat → Int) {c : Nat} (hc : c < 5) (z : Int) : hFrame G (up G o_M (10 + c) z) :=
  ⟨fun i hi => up_cell (show i ≠ o_M by show i ≠ 63; omega), fun k hk => up_ne (by omega)⟩
def mDid (h' : HH) (G : Nat → Nat → Int) : Option XV → XM → Prop := fun v τ => v = none ∧ ∃ G', τ = (S0, G') ∧ mRep h' G' ∧ hFrame G G'

theorem s_doesMore {h : HH} {G : Nat → Nat → Int} (hh : Hwf h) (r : mRep h G) (R : Nat → Int) (hk : 9 ≤ R 0) (ok : rOk R h) : x_M y_M_doesMore [oM, xI (R 0), xI (R 1), xI (R 2), xI (R 3)] (S0, G) (fun r τ => ∃ v, r = .inl v ∧ mDid (rAp R h) G v τ) := by
  have b0 := hh.1
  obtain ⟨o0, o13, ok0, ok1, ok2, ok3, ok4, ok5, ok7, ok9, ok10, ok12, ok14⟩ := ok
  refine x_of 0 rfl (Nat.le_of_ble_eq_true rfl) ?_
  show x_A y_M_doesMore 0 [some oM, some (xI (R 0)), some (xI (R 1)), some (xI (R 2)), some (xI (R 3))] [] (S0, G) 0 0 _
  generalize hQ : (fun (r : XRes) (τ : XM) => ∃ v, r = .inl v ∧ mDid (rAp R h) G v τ) = Q
  refine x_iload_n d_M_doesMore_0 rfl rfl ?_
  have ak : R 0 = 9 ∨ R 0 = 10 ∨ R 0 = 11 ∨ R 0 = 12 ∨ R 0 = 13 := by omega
  unfold rAp at hQ
  have cases5 : ∀ P : Prop, (R 0 = 9 → P) → (R 0 = 10 → P) → (R 0 = 11 → P) → (R 0 = 12 → P) → (R 0 = 13 → P) → P := fun P a b c d e => by
    rcases ak with q | q | q | q | q
    · exact a q
    · exact b q
    · exact c q
    · exact d q
    · exact e q
  refine cases5 _ (fun q => ?_) (fun q => ?_) (fun q => ?_) (fun q => ?_) (fun q => ?_)
  · refine x_tabIn (32) d_M_doesMore_1 (by omega) (by omega) (off := 31) (by rw [q]; rfl) (by decide) ?_
    rw [if_neg (by omega : ¬ R 0 = 0), if_neg (by omega : ¬ R 0 = 1), if_neg (by omega : ¬ R 0 = 2), if_neg (by omega : ¬ R 0 = 3), if_neg (by omega : ¬ R 0 = 4), if_neg (by omega : ¬ R 0 = 5), if_neg (by omega : ¬ R 0 = 6), if_neg (by omega : ¬ R 0 = 7), if_neg (by omega : ¬ R 0 = 8), if_pos (by omega : R 0 = 9)] at hQ
    have l := ok9 q
    have er : G o_M 7 = (h.2 6 : Int) := (r.to.1 6 (by decide)).1
    refine x_aload_n d_M_doesMore_32 rfl rfl ?_
    refine x_getF (kf := 40) d_M_doesMore_33 rfl rfl rfl in_M f_M_98 ?_
    refine x_aload_n d_M_doesMore_36 rfl rfl ?_
    refine x_getIG (kf := 7) d_M_doesMore_37 rfl rfl rfl in_M f_M_269 ?_
    rw [er]
    refine x_iload_n d_M_doesMore_40 rfl rfl ?_
    refine x_iastN ((h.2 6)) d_M_doesMore_41 rfl (by omega) (by omega) ?_
    refine x_aload_n d_M_doesMore_42 rfl rfl ?_
    refine x_getF (kf := 41) d_M_doesMore_43 rfl rfl rfl in_M f_M_101 ?_
    refine x_aload_n d_M_doesMore_46 rfl rfl ?_
    refine x_getIG (kf := 7) d_M_doesMore_47 rfl rfl rfl in_M f_M_269 ?_
    rw [up_cell (show o_M ≠ m_dPiece by decide), er]
    refine x_iload_n d_M_doesMore_50 rfl rfl ?_
    refine x_iastN ((h.2 6)) d_M_doesMore_51 rfl (by omega) (by omega) ?_
    refine x_aload_n d_M_doesMore_52 rfl rfl ?_
    refine x_getF (kf := 42) d_M_doesMore_53 rfl rfl rfl in_M f_M_104 ?_
    refine x_aload_n d_M_doesMore_56 rfl rfl ?_
    refine x_getIG (kf := 7) d_M_doesMore_57 rfl rfl rfl in_M f_M_269 ?_
    rw [up_cell (show o_M ≠ m_dWide by decide), up_cell (show o_M ≠ m_dPiece by decide), er]
    refine x_iload d_M_doesMore_60 rfl ?_
    refine x_iastN ((h.2 6)) d_M_doesMore_62 rfl (by omega) (by omega) ?_
    refine x_aload_n d_M_doesMore_63 rfl rfl ?_
    refine x_getF (kf := 43) d_M_doesMore_64 rfl rfl rfl in_M f_M_107 ?_
    refine x_aload_n d_M_doesMore_67 rfl rfl ?_
    refine x_getIG (kf := 7) d_M_doesMore_68 rfl rfl rfl in_M f_M_269 ?_
    rw [up_cell (show o_M ≠ m_dCost by decide), up_cell (show o_M ≠ m_dWide by decide), up_cell (show o_M ≠ m_dPiece by decide), er]
    refine x_iconst (0) d_M_doesMore_71 rfl ⟨by decide, by decide⟩ ?_
    refine x_bastN ((h.2 6)) d_M_doesMore_72 rfl (by omega) (by omega) (by first | exact Or.inl rfl | exact Or.inr rfl | assumption) ?_
    refine x_aload_n d_M_doesMore_73 rfl rfl ?_
    refine x_dup d_M_doesMore_74 rfl ?_
    refine x_getIG (kf := 7) d_M_doesMore_75 rfl rfl rfl in_M f_M_269 ?_
    rw [up_cell (show o_M ≠ m_isMade by decide), up_cell (show o_M ≠ m_dCost by decide), up_cell (show o_M ≠ m_dWide by decide), up_cell (show o_M ≠ m_dPiece by decide), er]
    refine x_iconst (1) d_M_doesMore_78 rfl ⟨by decide, by decide⟩ ?_
    refine x_iaddN d_M_doesMore_79 (by omega) (by omega) ?_
    refine x_putIG (kf := 7) tyX12 d_M_doesMore_80 rfl rfl rfl in_M f_M_269 tyX12_ok nmX12 (by decide +kernel) rfl ?_
    refine x_goto (198) d_M_doesMore_83 (by decide) ?_
    refine x_return d_M_doesMore_198 rfl ?_ (Nat.zero_le _) (Nat.zero_le _)
    rw [← hQ]
    exact ⟨_, rfl, rfl, _, rfl, r.add (T := 6) (by decide) (v6 (R 1) (R 2) (R 3) 0 0 0), hFrame.add G (T := 6) (by decide) _ (v6 (R 1) (R 2) (R 3) 0 0 0) _⟩
  · refine x_tabIn (86) d_M_doesMore_1 (by omega) (by omega) (off := 85) (by rw [q]; rfl) (by decide) ?_
    rw [if_neg (by omega : ¬ R 0 = 0), if_neg (by omega : ¬ R 0 = 1), if_neg (by omega : ¬ R 0 = 2), if_neg (by omega : ¬ R 0 = 3), if_neg (by omega : ¬ R 0 = 4), if_neg (by omega : ¬ R 0 = 5), if_neg (by omega : ¬ R 0 = 6), if_neg (by omega : ¬ R 0 = 7), if_neg (by omega : ¬ R 0 = 8), if_neg (by omega : ¬ R 0 = 9), if_pos (by omega : R 0 = 10)] at hQ
    obtain ⟨l1, l2⟩ := ok10 q
    have h6 := r.to.1 6 (by decide)
    have fin : ∀ z : Int, (z = if R 2 = 1 then 1 else 0) → Q (.inl none) (S0, up G m_isMade (R 1).toNat z) := fun z hz => by
      rw [← hQ]
      refine ⟨_, rfl, rfl, _, rfl, ?_, hFrame.put G (T := 6) (c := 3) (by decide) (by decide) _ z⟩
      rw [← hz]
      exact r.put (T := 6) (c := 3) (by decide) (by decide) z
    refine x_aload_n d_M_doesMore_86 rfl rfl ?_
    refine x_getF (kf := 43) d_M_doesMore_87 rfl rfl rfl in_M f_M_107 ?_
    refine x_iload_n d_M_doesMore_90 rfl rfl ?_
    refine x_iload_n d_M_doesMore_91 rfl rfl ?_
    refine x_iconst (1) d_M_doesMore_92 rfl ⟨by decide, by decide⟩ ?_
    refine x_icmp_ne (100) d_M_doesMore_93 (by decide) (fun g => ?_) (fun g => ?_)
    · refine x_iconst (0) d_M_doesMore_100 rfl ⟨by decide, by decide⟩ ?_
      refine x_bastN ((R 1).toNat) d_M_doesMore_101 rfl (by omega) (by omega) (by first | exact Or.inl rfl | exact Or.inr rfl | assumption) ?_
      refine x_goto (198) d_M_doesMore_102 (by decide) ?_
      refine x_return d_M_doesMore_198 rfl ?_ (Nat.zero_le _) (Nat.zero_le _)
      exact fin 0 (by rw [if_neg (by omega)])
    · refine x_iconst (1) d_M_doesMore_96 rfl ⟨by decide, by decide⟩ ?_
      refine x_goto (101) d_M_doesMore_97 (by decide) ?_
      refine x_bastN ((R 1).toNat) d_M_doesMore_101 rfl (by omega) (by omega) (by first | exact Or.inl rfl | exact Or.inr rfl | assumption) ?_
      refine x_goto (198) d_M_doesMore_102 (by decide) ?_
      refine x_return d_M_doesMore_198 rfl ?_ (Nat.zero_le _) (Nat.zero_le _)
      exact fin 1 (by rw [if_pos (by omega)])
  · refine x_tabIn (105) d_M_doesMore_1 (by omega) (by omega) (off := 104) (by rw [q]; rfl) (by decide) ?_
    rw [if_neg (by omega : ¬ R 0 = 0), if_neg (by omega : ¬ R 0 = 1), if_neg (by omega : ¬ R 0 = 2), if_neg (by omega : ¬ R 0 = 3), if_neg (by omega : ¬ R 0 = 4), if_neg (by omega : ¬ R 0 = 5), if_neg (by omega : ¬ R 0 = 6), if_neg (by omega : ¬ R 0 = 7), if_neg (by omega : ¬ R 0 = 8), if_neg (by omega : ¬ R 0 = 9), if_neg (by omega : ¬ R 0 = 10), if_pos (by omega : R 0 = 11)] at hQ
    refine x_aload_n d_M_doesMore_105 rfl rfl ?_
    refine x_iload_n d_M_doesMore_106 rfl rfl ?_
    refine x_putIG (kf := 12) tyX12 d_M_doesMore_107 rfl rfl rfl in_M f_M_272 tyX12_ok nmX12 (by decide +kernel) rfl ?_
    refine x_aload_n d_M_doesMore_110 rfl rfl ?_
    refine x_iload_n d_M_doesMore_111 rfl rfl ?_
    refine x_putIG (kf := 13) tyX12 d_M_doesMore_112 rfl rfl rfl in_M f_M_16 tyX12_ok nmX12 (by decide +kernel) rfl ?_
    refine x_aload_n d_M_doesMore_115 rfl rfl ?_
    refine x_iload d_M_doesMore_116 rfl ?_
    refine x_putIG (kf := 14) tyX12 d_M_doesMore_118 rfl rfl rfl in_M f_M_19 tyX12_ok nmX12 (by decide +kernel) rfl ?_
    refine x_goto (198) d_M_doesMore_121 (by decide) ?_
    refine x_return d_M_doesMore_198 rfl ?_ (Nat.zero_le _) (Nat.zero_le _)
    rw [← hQ]
    have y := ((r.dial (c := 2) (by decide) (R 1)).dial (c := 3) (by decide) (R 2)).dial (c := 4) (by decide) (R 3)
    refine ⟨_, rfl, rfl, _, rfl, y.cong rfl (fun T p c => ?_), ((hFrame.dial G (c := 2) (by decide) (R 1)).tr (hFrame.dial _ (c := 3) (by decide) (R 2))).tr (hFrame.dial _ (c := 4) (by decide) (R 3))⟩
    unfold setG setC chgR
    by_cases e : T = 9 ∧ p = 0
    · obtain ⟨rfl, rfl⟩ := e
      by_cases e2 : c = 2
      · subst e2; rfl
      · by_cases e3 : c = 3
        · subst e3; rfl
        · by_cases e4 : c = 4
          · subst e4; rfl
          · simp [e2, e3, e4]
    · simp only [if_neg e]
  · refine x_tabIn (124) d_M_doesMore_1 (by omega) (by omega) (off := 123) (by rw [q]; rfl) (by decide) ?_
    rw [if_neg (by omega : ¬ R 0 = 0), if_neg (by omega : ¬ R 0 = 1), if_neg (by omega : ¬ R 0 = 2), if_neg (by omega : ¬ R 0 = 3), if_neg (by omega : ¬ R 0 = 4), if_neg (by omega : ¬ R 0 = 5), if_neg (by omega : ¬ R 0 = 6), if_neg (by omega : ¬ R 0 = 7), if_neg (by omega : ¬ R 0 = 8), if_neg (by omega : ¬ R 0 = 9), if_neg (by omega : ¬ R 0 = 10), if_neg (by omega : ¬ R 0 = 11), if_pos (by omega : R 0 = 12)] at hQ
    have l := ok12 q
    have er : G o_M 8 = (h.2 7 : Int) := (r.to.1 7 (by decide)).1
    refine x_aload_n d_M_doesMore_124 rfl rfl ?_
    refine x_getF (kf := 44) d_M_doesMore_125 rfl rfl rfl in_M f_M_111 ?_
    refine x_aload_n d_M_doesMore_128 rfl rfl ?_
    refine x_getIG (kf := 8) d_M_doesMore_129 rfl rfl rfl in_M f_M_275 ?_
    rw [er]
    refine x_iload_n d_M_doesMore_132 rfl rfl ?_
    refine x_iastN ((h.2 7)) d_M_doesMore_133 rfl (by omega) (by omega) ?_
    refine x_aload_n d_M_doesMore_134 rfl rfl ?_
    refine x_getF (kf := 45) d_M_doesMore_135 rfl rfl rfl in_M f_M_114 ?_
    refine x_aload_n d_M_doesMore_138 rfl rfl ?_
    refine x_getIG (kf := 8) d_M_doesMore_139 rfl rfl rfl in_M f_M_275 ?_
    rw [up_cell (show o_M ≠ m_rBy by decide), er]
    refine x_iload_n d_M_doesMore_142 rfl rfl ?_
    refine x_iastN ((h.2 7)) d_M_doesMore_143 rfl (by omega) (by omega) ?_
    refine x_aload_n d_M_doesMore_144 rfl rfl ?_
    refine x_dup d_M_doesMore_145 rfl ?_
    refine x_getIG (kf := 8) d_M_doesMore_146 rfl rfl rfl in_M f_M_275 ?_
    rw [up_cell (show o_M ≠ m_rPeople by decide), up_cell (show o_M ≠ m_rBy by decide), er]
    refine x_iconst (1) d_M_doesMore_149 rfl ⟨by decide, by decide⟩ ?_
    refine x_iaddN d_M_doesMore_150 (by omega) (by omega) ?_
    refine x_putIG (kf := 8) tyX12 d_M_doesMore_151 rfl rfl rfl in_M f_M_275 tyX12_ok nmX12 (by decide +kernel) rfl ?_
    refine x_goto (198) d_M_doesMore_154 (by decide) ?_
    refine x_return d_M_doesMore_198 rfl ?_ (Nat.zero_le _) (Nat.zero_le _)
    rw [← hQ]
    exact ⟨_, rfl, rfl, _, rfl, r.add (T := 7) (by decide) (v6 (R 1) (R 2) 0 0 0 0), hFrame.add G (T := 7) (by decide) _ (v6 (R 1) (R 2) 0 0 0 0) _⟩
  · refine x_tabOut (157) d_M_doesMore_1 (by omega) (by decide) ?_
    rw [if_neg (by omega : ¬ R 0 = 0), if_neg (by omega : ¬ R 0 = 1), if_neg (by omega : ¬ R 0 = 2), if_neg (by omega : ¬ R 0 = 3), if_neg (by omega : ¬ R 0 = 4), if_neg (by omega : ¬ R 0 = 5), if_neg (by omega : ¬ R 0 = 6), if_neg (by omega : ¬ R 0 = 7), if_neg (by omega : ¬ R 0 = 8), if_neg (by omega : ¬ R 0 = 9), if_neg (by omega : ¬ R 0 = 10), if_neg (by omega : ¬ R 0 = 11), if_neg (by omega : ¬ R 0 = 12)] at hQ
    have l := ok14 q
    have er : G o_M 9 = (h.2 8 : Int) := (r.to.1 8 (by decide)).1
    refine x_aload_n d_M_doesMore_157 rfl rfl ?_
    refine x_getF (kf := 46) d_M_doesMore_158 rfl rfl rfl in_M f_M_117 ?_
    refine x_aload_n d_M_doesMore_161 rfl rfl ?_
    refine x_getIG (kf := 9) d_M_doesMore_162 rfl rfl rfl in_M f_M_278 ?_
    rw [er]
    refine x_iload_n d_M_doesMore_165 rfl rfl ?_
    refine x_iastN ((h.2 8)) d_M_doesMore_166 rfl (by omega) (by omega) ?_
    refine x_aload_n d_M_doesMore_167 rfl rfl ?_
    refine x_getF (kf := 47) d_M_doesMore_168 rfl rfl rfl in_M f_M_120 ?_
    refine x_aload_n d_M_doesMore_171 rfl rfl ?_
    refine x_getIG (kf := 9) d_M_doesMore_172 rfl rfl rfl in_M f_M_278 ?_
    rw [up_cell (show o_M ≠ m_aPiece by decide), er]
    refine x_iload_n d_M_doesMore_175 rfl rfl ?_
    refine x_iastN ((h.2 8)) d_M_doesMore_176 rfl (by omega) (by omega) ?_
    refine x_aload_n d_M_doesMore_177 rfl rfl ?_
    refine x_getF (kf := 48) d_M_doesMore_178 rfl rfl rfl in_M f_M_123 ?_
    refine x_aload_n d_M_doesMore_181 rfl rfl ?_
    refine x_getIG (kf := 9) d_M_doesMore_182 rfl rfl rfl in_M f_M_278 ?_
    rw [up_cell (show o_M ≠ m_aMinute by decide), up_cell (show o_M ≠ m_aPiece by decide), er]
    refine x_iload d_M_doesMore_185 rfl ?_
    refine x_iastN ((h.2 8)) d_M_doesMore_187 rfl (by omega) (by omega) ?_
    refine x_aload_n d_M_doesMore_188 rfl rfl ?_
    refine x_dup d_M_doesMore_189 rfl ?_
    refine x_getIG (kf := 9) d_M_doesMore_190 rfl rfl rfl in_M f_M_278 ?_
    rw [up_cell (show o_M ≠ m_aIs by decide), up_cell (show o_M ≠ m_aMinute by decide), up_cell (show o_M ≠ m_aPiece by decide), er]
    refine x_iconst (1) d_M_doesMore_193 rfl ⟨by decide, by decide⟩ ?_
    refine x_iaddN d_M_doesMore_194 (by omega) (by omega) ?_
    refine x_putIG (kf := 9) tyX12 d_M_doesMore_195 rfl rfl rfl in_M f_M_278 tyX12_ok nmX12 (by decide +kernel) rfl ?_
    refine x_return d_M_doesMore_198 rfl ?_ (Nat.zero_le _) (Nat.zero_le _)
    rw [← hQ]
    exact ⟨_, rfl, rfl, _, rfl, r.add (T := 8) (by decide) (v6 (R 1) (R 2) (R 3) 0 0 0), hFrame.add G (T := 8) (by decide) _ (v6 (R 1) (R 2) (R 3) 0 0 0) _⟩
theorem s_does {h : HH} {G : Nat → Nat → Int} (hh : Hwf h) (r : mRep h G) (R : Nat → Int) (ok : rOk R h) {at' : Nat} (hat : at' < 640) (hR : ∀ j, j < 7 → G m_acts (7 * at' + j) = R j) : x_M y_M_does [oM, xI (at' : Int)] (S0, G) (fun r τ => ∃ v, r = .inl v ∧ mDid (rAp R h) G v τ) := by
  have b0 := hh.1
  have ok' := ok
  obtain ⟨o0, o13, ok0, ok1, ok2, ok3, ok4, ok5, ok7, ok9, ok10, ok12, ok14⟩ := ok
  refine x_of 5 rfl (Nat.le_of_ble_eq_true rfl) ?_
  show x_A y_M_does 0 [some oM, some (xI (at' : Int)), none, none, none, none, none] [] (S0, G) 0 0 _
  generalize hQ : (fun (r : XRes) (τ : XM) => ∃ v, r = .inl v ∧ mDid (rAp R h) G v τ) = Q
  have r0 := hR 0 (by decide)
  have r1 := hR 1 (by decide)
  have r2 := hR 2 (by decide)
  have r3 := hR 3 (by decide)
  have r4 := hR 4 (by decide)
  have r5 := hR 5 (by decide)
  have r6 := hR 6 (by decide)
  refine x_bipush (7) d_M_does_0 rfl ⟨by decide, by decide⟩ ?_
  refine x_iload_n d_M_does_2 rfl rfl ?_
  refine x_imulN d_M_does_3 (by omega) (by omega) ?_
  refine x_istore_n d_M_does_4 rfl (by decide) ?_
  dsimp only [x_st1, x_st2, x_kill, List.set, List.getElem?_cons_zero, List.getElem?_cons_succ]
  refine x_aload_n d_M_does_5 rfl rfl ?_
  refine x_getF (kf := 49) d_M_does_6 rfl rfl rfl in_M f_M_126 ?_
  refine x_iload_n d_M_does_9 rfl rfl ?_
  refine x_iconst (1) d_M_does_10 rfl ⟨by decide, by decide⟩ ?_
  refine x_iaddN d_M_does_11 (by omega) (by omega) ?_
  refine x_ialdN ((7 * at' + 1)) d_M_does_12 rfl (by omega) (by omega) ?_
  rw [r1]
  refine x_istore_n d_M_does_13 rfl (by decide) ?_
  dsimp only [x_st1, x_st2, x_kill, List.set, List.getElem?_cons_zero, List.getElem?_cons_succ]
  refine x_aload_n d_M_does_14 rfl rfl ?_
  refine x_getF (kf := 49) d_M_does_15 rfl rfl rfl in_M f_M_126 ?_
  refine x_iload_n d_M_does_18 rfl rfl ?_
  refine x_iconst (2) d_M_does_19 rfl ⟨by decide, by decide⟩ ?_
  refine x_iaddN d_M_does_20 (by omega) (by omega) ?_
  refine x_ialdN ((7 * at' + 2)) d_M_does_21 rfl (by omega) (by omega) ?_
  rw [r2]
  refine x_istore d_M_does_22 (by decide) ?_
  dsimp only [x_st1, x_st2, x_kill, List.set, List.getElem?_cons_zero, List.getElem?_cons_succ]
  refine x_aload_n d_M_does_24 rfl rfl ?_
  refine x_getF (kf := 49) d_M_does_25 rfl rfl rfl in_M f_M_126 ?_
  refine x_iload_n d_M_does_28 rfl rfl ?_
  refine x_iconst (3) d_M_does_29 rfl ⟨by decide, by decide⟩ ?_
  refine x_iaddN d_M_does_30 (by omega) (by omega) ?_
  refine x_ialdN ((7 * at' + 3)) d_M_does_31 rfl (by omega) (by omega) ?_
  rw [r3]
  refine x_istore d_M_does_32 (by decide) ?_
  dsimp only [x_st1, x_st2, x_kill, List.set, List.getElem?_cons_zero, List.getElem?_cons_succ]
  refine x_aload_n d_M_does_34 rfl rfl ?_
  refine x_getF (kf := 49) d_M_does_35 rfl rfl rfl in_M f_M_126 ?_
  refine x_iload_n d_M_does_38 rfl rfl ?_
  refine x_iconst (4) d_M_does_39 rfl ⟨by decide, by decide⟩ ?_
  refine x_iaddN d_M_does_40 (by omega) (by omega) ?_
  refine x_ialdN ((7 * at' + 4)) d_M_does_41 rfl (by omega) (by omega) ?_
  rw [r4]
  refine x_istore d_M_does_42 (by decide) ?_
  dsimp only [x_st1, x_st2, x_kill, List.set, List.getElem?_cons_zero, List.getElem?_cons_succ]
  refine x_aload_n d_M_does_44 rfl rfl ?_
  refine x_getF (kf := 49) d_M_does_45 rfl rfl rfl in_M f_M_126 ?_
  refine x_iload_n d_M_does_48 rfl rfl ?_
  refine x_ialdN ((7 * at' + 0)) d_M_does_49 rfl (by omega) (by omega) ?_
  rw [r0]
  have cases10 : ∀ P : Prop, (R 0 = 0 → P) → (R 0 = 1 → P) → (R 0 = 2 → P) → (R 0 = 3 → P) → (R 0 = 4 → P) → (R 0 = 5 → P) → (R 0 = 6 → P) → (R 0 = 7 → P) → (R 0 = 8 → P) → (9 ≤ R 0 → P) → P := fun P a b c d e f g i j k => by
    by_cases q0 : R 0 = 0; exact a q0
    by_cases q1 : R 0 = 1; exact b q1
    by_cases q2 : R 0 = 2; exact c q2
    by_cases q3 : R 0 = 3; exact d q3
    by_cases q4 : R 0 = 4; exact e q4
    by_cases q5 : R 0 = 5; exact f q5
    by_cases q6 : R 0 = 6; exact g q6
    by_cases q7 : R 0 = 7; exact i q7
    by_cases q8 : R 0 = 8; exact j q8
    exact k (by omega)
  refine cases10 _ (fun q => ?_) (fun q => ?_) (fun q => ?_) (fun q => ?_) (fun q => ?_) (fun q => ?_) (fun q => ?_) (fun q => ?_) (fun q => ?_) (fun q => ?_)
  · refine x_tabIn (100) d_M_does_50 (by omega) (by omega) (off := 50) (by rw [q]; rfl) (by decide) ?_
    unfold rAp at hQ
    rw [if_pos (by omega : R 0 = 0)] at hQ
    have l := ok0 q
    have er : G o_M 1 = (h.2 0 : Int) := (r.to.1 0 (by decide)).1
    refine x_aload_n d_M_does_100 rfl rfl ?_
    refine x_getF (kf := 15) d_M_does_101 rfl rfl rfl in_M f_M_22 ?_
    refine x_aload_n d_M_does_104 rfl rfl ?_
    refine x_getIG (kf := 1) d_M_does_105 rfl rfl rfl in_M f_M_228 ?_
    rw [er]
    refine x_iload_n d_M_does_108 rfl rfl ?_
    refine x_iastN ((h.2 0)) d_M_does_109 rfl (by omega) (by omega) ?_
    refine x_aload_n d_M_does_110 rfl rfl ?_
    refine x_getF (kf := 16) d_M_does_111 rfl rfl rfl in_M f_M_26 ?_
    refine x_aload_n d_M_does_114 rfl rfl ?_
    refine x_getIG (kf := 1) d_M_does_115 rfl rfl rfl in_M f_M_228 ?_
    rw [up_cell (show o_M ≠ m_room by decide), er]
    refine x_iload d_M_does_118 rfl ?_
    refine x_iastN ((h.2 0)) d_M_does_120 rfl (by omega) (by omega) ?_
    refine x_aload_n d_M_does_121 rfl rfl ?_
    refine x_getF (kf := 17) d_M_does_122 rfl rfl rfl in_M f_M_29 ?_
    refine x_aload_n d_M_does_125 rfl rfl ?_
    refine x_getIG (kf := 1) d_M_does_126 rfl rfl rfl in_M f_M_228 ?_
    rw [up_cell (show o_M ≠ m_out by decide), up_cell (show o_M ≠ m_room by decide), er]
    refine x_bipush (21) d_M_does_129 rfl ⟨by decide, by decide⟩ ?_
    refine x_iastN ((h.2 0)) d_M_does_131 rfl (by omega) (by omega) ?_
    refine x_aload_n d_M_does_132 rfl rfl ?_
    refine x_dup d_M_does_133 rfl ?_
    refine x_getIG (kf := 1) d_M_does_134 rfl rfl rfl in_M f_M_228 ?_
    rw [up_cell (show o_M ≠ m_water by decide), up_cell (show o_M ≠ m_out by decide), up_cell (show o_M ≠ m_room by decide), er]
    refine x_iconst (1) d_M_does_137 rfl ⟨by decide, by decide⟩ ?_
    refine x_iaddN d_M_does_138 (by omega) (by omega) ?_
    refine x_putIG (kf := 1) tyX12 d_M_does_139 rfl rfl rfl in_M f_M_228 tyX12_ok nmX12 (by decide +kernel) rfl ?_
    refine x_goto (508) d_M_does_142 (by decide) ?_
    refine x_return d_M_does_508 rfl ?_ (Nat.zero_le _) (Nat.zero_le _)
    rw [← hQ]
    exact ⟨_, rfl, rfl, _, rfl, r.add (T := 0) (by decide) (v6 (R 1) (R 2) 21 0 0 0), hFrame.add G (T := 0) (by decide) _ (v6 (R 1) (R 2) 21 0 0 0) _⟩
  · refine x_tabIn (145) d_M_does_50 (by omega) (by omega) (off := 95) (by rw [q]; rfl) (by decide) ?_
    unfold rAp at hQ
    rw [if_neg (by omega : ¬ R 0 = 0), if_pos (by omega : R 0 = 1)] at hQ
    have l := ok1 q
    have er : G o_M 2 = (h.2 1 : Int) := (r.to.1 1 (by decide)).1
    refine x_aload_n d_M_does_145 rfl rfl ?_
    refine x_getF (kf := 18) d_M_does_146 rfl rfl rfl in_M f_M_32 ?_
    refine x_aload_n d_M_does_149 rfl rfl ?_
    refine x_getIG (kf := 2) d_M_does_150 rfl rfl rfl in_M f_M_250 ?_
    rw [er]
    refine x_iload_n d_M_does_153 rfl rfl ?_
    refine x_iastN ((h.2 1)) d_M_does_154 rfl (by omega) (by omega) ?_
    refine x_aload_n d_M_does_155 rfl rfl ?_
    refine x_getF (kf := 19) d_M_does_156 rfl rfl rfl in_M f_M_35 ?_
    refine x_aload_n d_M_does_159 rfl rfl ?_
    refine x_getIG (kf := 2) d_M_does_160 rfl rfl rfl in_M f_M_250 ?_
    rw [up_cell (show o_M ≠ m_wA by decide), er]
    refine x_iload d_M_does_163 rfl ?_
    refine x_iastN ((h.2 1)) d_M_does_165 rfl (by omega) (by omega) ?_
    refine x_aload_n d_M_does_166 rfl rfl ?_
    refine x_getF (kf := 20) d_M_does_167 rfl rfl rfl in_M f_M_38 ?_
    refine x_aload_n d_M_does_170 rfl rfl ?_
    refine x_getIG (kf := 2) d_M_does_171 rfl rfl rfl in_M f_M_250 ?_
    rw [up_cell (show o_M ≠ m_wB by decide), up_cell (show o_M ≠ m_wA by decide), er]
    refine x_iload d_M_does_174 rfl ?_
    refine x_iastN ((h.2 1)) d_M_does_176 rfl (by omega) (by omega) ?_
    refine x_aload_n d_M_does_177 rfl rfl ?_
    refine x_getF (kf := 21) d_M_does_178 rfl rfl rfl in_M f_M_41 ?_
    refine x_aload_n d_M_does_181 rfl rfl ?_
    refine x_getIG (kf := 2) d_M_does_182 rfl rfl rfl in_M f_M_250 ?_
    rw [up_cell (show o_M ≠ m_wLong by decide), up_cell (show o_M ≠ m_wB by decide), up_cell (show o_M ≠ m_wA by decide), er]
    refine x_iload d_M_does_185 rfl ?_
    refine x_iastN ((h.2 1)) d_M_does_187 rfl (by omega) (by omega) ?_
    refine x_aload_n d_M_does_188 rfl rfl ?_
    refine x_getF (kf := 22) d_M_does_189 rfl rfl rfl in_M f_M_44 ?_
    refine x_aload_n d_M_does_192 rfl rfl ?_
    refine x_getIG (kf := 2) d_M_does_193 rfl rfl rfl in_M f_M_250 ?_
    rw [up_cell (show o_M ≠ m_wWide by decide), up_cell (show o_M ≠ m_wLong by decide), up_cell (show o_M ≠ m_wB by decide), up_cell (show o_M ≠ m_wA by decide), er]
    refine x_aload_n d_M_does_196 rfl rfl ?_
    refine x_getF (kf := 49) d_M_does_197 rfl rfl rfl in_M f_M_126 ?_
    refine x_iload_n d_M_does_200 rfl rfl ?_
    refine x_iconst (5) d_M_does_201 rfl ⟨by decide, by decide⟩ ?_
    refine x_iaddN d_M_does_202 (by omega) (by omega) ?_
    refine x_ialdN ((7 * at' + 5)) d_M_does_203 rfl (by omega) (by omega) ?_
    rw [up_cell (show m_acts ≠ m_wWide by decide), up_cell (show m_acts ≠ m_wLong by decide), up_cell (show m_acts ≠ m_wB by decide), up_cell (show m_acts ≠ m_wA by decide), r5]
    refine x_iastN ((h.2 1)) d_M_does_204 rfl (by omega) (by omega) ?_
    refine x_aload_n d_M_does_205 rfl rfl ?_
    refine x_dup d_M_does_206 rfl ?_
    refine x_getIG (kf := 2) d_M_does_207 rfl rfl rfl in_M f_M_250 ?_
    rw [up_cell (show o_M ≠ m_wDraught by decide), up_cell (show o_M ≠ m_wWide by decide), up_cell (show o_M ≠ m_wLong by decide), up_cell (show o_M ≠ m_wB by decide), up_cell (show o_M ≠ m_wA by decide), er]
    refine x_iconst (1) d_M_does_210 rfl ⟨by decide, by decide⟩ ?_
    refine x_iaddN d_M_does_211 (by omega) (by omega) ?_
    refine x_putIG (kf := 2) tyX12 d_M_does_212 rfl rfl rfl in_M f_M_250 tyX12_ok nmX12 (by decide +kernel) rfl ?_
    refine x_goto (508) d_M_does_215 (by decide) ?_
    refine x_return d_M_does_508 rfl ?_ (Nat.zero_le _) (Nat.zero_le _)
    rw [← hQ]
    exact ⟨_, rfl, rfl, _, rfl, r.add (T := 1) (by decide) (v6 (R 1) (R 2) (R 3) (R 4) (R 5) 0), hFrame.add G (T := 1) (by decide) _ (v6 (R 1) (R 2) (R 3) (R 4) (R 5) 0) _⟩
  · refine x_tabIn (218) d_M_does_50 (by omega) (by omega) (off := 168) (by rw [q]; rfl) (by decide) ?_
    unfold rAp at hQ
    rw [if_neg (by omega : ¬ R 0 = 0), if_neg (by omega : ¬ R 0 = 1), if_pos (by omega : R 0 = 2)] at hQ
    obtain ⟨l1, l2⟩ := ok2 q
    refine x_aload_n d_M_does_218 rfl rfl ?_
    refine x_getF (kf := 17) d_M_does_219 rfl rfl rfl in_M f_M_29 ?_
    refine x_iload_n d_M_does_222 rfl rfl ?_
    refine x_iload d_M_does_223 rfl ?_
    refine x_iastN ((R 1).toNat) d_M_does_225 rfl (by omega) (by omega) ?_
    refine x_goto (508) d_M_does_226 (by decide) ?_
    refine x_return d_M_does_508 rfl ?_ (Nat.zero_le _) (Nat.zero_le _)
    rw [← hQ]
    exact ⟨_, rfl, rfl, _, rfl, r.put (T := 0) (c := 2) (by decide) (by decide) (R 2), hFrame.put G (T := 0) (c := 2) (by decide) (by decide) _ _⟩
  · refine x_tabIn (229) d_M_does_50 (by omega) (by omega) (off := 179) (by rw [q]; rfl) (by decide) ?_
    unfold rAp at hQ
    rw [if_neg (by omega : ¬ R 0 = 0), if_neg (by omega : ¬ R 0 = 1), if_neg (by omega : ¬ R 0 = 2), if_pos (by omega : R 0 = 3)] at hQ
    have l := ok3 q
    have er : G o_M 3 = (h.2 2 : Int) := (r.to.1 2 (by decide)).1
    refine x_aload_n d_M_does_229 rfl rfl ?_
    refine x_getF (kf := 23) d_M_does_230 rfl rfl rfl in_M f_M_47 ?_
    refine x_aload_n d_M_does_233 rfl rfl ?_
    refine x_getIG (kf := 3) d_M_does_234 rfl rfl rfl in_M f_M_253 ?_
    rw [er]
    refine x_iload_n d_M_does_237 rfl rfl ?_
    refine x_iastN ((h.2 2)) d_M_does_238 rfl (by omega) (by omega) ?_
    refine x_aload_n d_M_does_239 rfl rfl ?_
    refine x_getF (kf := 24) d_M_does_240 rfl rfl rfl in_M f_M_50 ?_
    refine x_aload_n d_M_does_243 rfl rfl ?_
    refine x_getIG (kf := 3) d_M_does_244 rfl rfl rfl in_M f_M_253 ?_
    rw [up_cell (show o_M ≠ m_fPiece by decide), er]
    refine x_iload d_M_does_247 rfl ?_
    refine x_iastN ((h.2 2)) d_M_does_249 rfl (by omega) (by omega) ?_
    refine x_aload_n d_M_does_250 rfl rfl ?_
    refine x_getF (kf := 25) d_M_does_251 rfl rfl rfl in_M f_M_53 ?_
    refine x_aload_n d_M_does_254 rfl rfl ?_
    refine x_getIG (kf := 3) d_M_does_255 rfl rfl rfl in_M f_M_253 ?_
    rw [up_cell (show o_M ≠ m_fFrom by decide), up_cell (show o_M ≠ m_fPiece by decide), er]
    refine x_iload d_M_does_258 rfl ?_
    refine x_iastN ((h.2 2)) d_M_does_260 rfl (by omega) (by omega) ?_
    refine x_aload_n d_M_does_261 rfl rfl ?_
    refine x_getF (kf := 26) d_M_does_262 rfl rfl rfl in_M f_M_56 ?_
    refine x_aload_n d_M_does_265 rfl rfl ?_
    refine x_getIG (kf := 3) d_M_does_266 rfl rfl rfl in_M f_M_253 ?_
    rw [up_cell (show o_M ≠ m_fTo by decide), up_cell (show o_M ≠ m_fFrom by decide), up_cell (show o_M ≠ m_fPiece by decide), er]
    refine x_iload d_M_does_269 rfl ?_
    refine x_iastN ((h.2 2)) d_M_does_271 rfl (by omega) (by omega) ?_
    refine x_aload_n d_M_does_272 rfl rfl ?_
    refine x_getF (kf := 27) d_M_does_273 rfl rfl rfl in_M f_M_59 ?_
    refine x_aload_n d_M_does_276 rfl rfl ?_
    refine x_getIG (kf := 3) d_M_does_277 rfl rfl rfl in_M f_M_253 ?_
    rw [up_cell (show o_M ≠ m_fFirst by decide), up_cell (show o_M ≠ m_fTo by decide), up_cell (show o_M ≠ m_fFrom by decide), up_cell (show o_M ≠ m_fPiece by decide), er]
    refine x_aload_n d_M_does_280 rfl rfl ?_
    refine x_getF (kf := 49) d_M_does_281 rfl rfl rfl in_M f_M_126 ?_
    refine x_iload_n d_M_does_284 rfl rfl ?_
    refine x_iconst (5) d_M_does_285 rfl ⟨by decide, by decide⟩ ?_
    refine x_iaddN d_M_does_286 (by omega) (by omega) ?_
    refine x_ialdN ((7 * at' + 5)) d_M_does_287 rfl (by omega) (by omega) ?_
    rw [up_cell (show m_acts ≠ m_fFirst by decide), up_cell (show m_acts ≠ m_fTo by decide), up_cell (show m_acts ≠ m_fFrom by decide), up_cell (show m_acts ≠ m_fPiece by decide), r5]
    refine x_iastN ((h.2 2)) d_M_does_288 rfl (by omega) (by omega) ?_
    refine x_aload_n d_M_does_289 rfl rfl ?_
    refine x_getF (kf := 28) d_M_does_290 rfl rfl rfl in_M f_M_62 ?_
    refine x_aload_n d_M_does_293 rfl rfl ?_
    refine x_getIG (kf := 3) d_M_does_294 rfl rfl rfl in_M f_M_253 ?_
    rw [up_cell (show o_M ≠ m_fGrows by decide), up_cell (show o_M ≠ m_fFirst by decide), up_cell (show o_M ≠ m_fTo by decide), up_cell (show o_M ≠ m_fFrom by decide), up_cell (show o_M ≠ m_fPiece by decide), er]
    refine x_aload_n d_M_does_297 rfl rfl ?_
    refine x_getF (kf := 49) d_M_does_298 rfl rfl rfl in_M f_M_126 ?_
    refine x_iload_n d_M_does_301 rfl rfl ?_
    refine x_bipush (6) d_M_does_302 rfl ⟨by decide, by decide⟩ ?_
    refine x_iaddN d_M_does_304 (by omega) (by omega) ?_
    refine x_ialdN ((7 * at' + 6)) d_M_does_305 rfl (by omega) (by omega) ?_
    rw [up_cell (show m_acts ≠ m_fGrows by decide), up_cell (show m_acts ≠ m_fFirst by decide), up_cell (show m_acts ≠ m_fTo by decide), up_cell (show m_acts ≠ m_fFrom by decide), up_cell (show m_acts ≠ m_fPiece by decide), r6]
    refine x_iastN ((h.2 2)) d_M_does_306 rfl (by omega) (by omega) ?_
    refine x_aload_n d_M_does_307 rfl rfl ?_
    refine x_dup d_M_does_308 rfl ?_
    refine x_getIG (kf := 3) d_M_does_309 rfl rfl rfl in_M f_M_253 ?_
    rw [up_cell (show o_M ≠ m_fTop by decide), up_cell (show o_M ≠ m_fGrows by decide), up_cell (show o_M ≠ m_fFirst by decide), up_cell (show o_M ≠ m_fTo by decide), up_cell (show o_M ≠ m_fFrom by decide), up_cell (show o_M ≠ m_fPiece by decide), er]
    refine x_iconst (1) d_M_does_312 rfl ⟨by decide, by decide⟩ ?_
    refine x_iaddN d_M_does_313 (by omega) (by omega) ?_
    refine x_putIG (kf := 3) tyX12 d_M_does_314 rfl rfl rfl in_M f_M_253 tyX12_ok nmX12 (by decide +kernel) rfl ?_
    refine x_goto (508) d_M_does_317 (by decide) ?_
    refine x_return d_M_does_508 rfl ?_ (Nat.zero_le _) (Nat.zero_le _)
    rw [← hQ]
    exact ⟨_, rfl, rfl, _, rfl, r.add (T := 2) (by decide) (v6 (R 1) (R 2) (R 3) (R 4) (R 5) (R 6)), hFrame.add G (T := 2) (by decide) _ (v6 (R 1) (R 2) (R 3) (R 4) (R 5) (R 6)) _⟩
  · refine x_tabIn (320) d_M_does_50 (by omega) (by omega) (off := 270) (by rw [q]; rfl) (by decide) ?_
    unfold rAp at hQ
    rw [if_neg (by omega : ¬ R 0 = 0), if_neg (by omega : ¬ R 0 = 1), if_neg (by omega : ¬ R 0 = 2), if_neg (by omega : ¬ R 0 = 3), if_pos (by omega : R 0 = 4)] at hQ
    have l := ok4 q
    have er : G o_M 4 = (h.2 3 : Int) := (r.to.1 3 (by decide)).1
    refine x_aload_n d_M_does_320 rfl rfl ?_
    refine x_getF (kf := 29) d_M_does_321 rfl rfl rfl in_M f_M_65 ?_
    refine x_aload_n d_M_does_324 rfl rfl ?_
    refine x_getIG (kf := 4) d_M_does_325 rfl rfl rfl in_M f_M_256 ?_
    rw [er]
    refine x_iload_n d_M_does_328 rfl rfl ?_
    refine x_iastN ((h.2 3)) d_M_does_329 rfl (by omega) (by omega) ?_
    refine x_aload_n d_M_does_330 rfl rfl ?_
    refine x_getF (kf := 30) d_M_does_331 rfl rfl rfl in_M f_M_68 ?_
    refine x_aload_n d_M_does_334 rfl rfl ?_
    refine x_getIG (kf := 4) d_M_does_335 rfl rfl rfl in_M f_M_256 ?_
    rw [up_cell (show o_M ≠ m_nWay by decide), er]
    refine x_iload d_M_does_338 rfl ?_
    refine x_iastN ((h.2 3)) d_M_does_340 rfl (by omega) (by omega) ?_
    refine x_aload_n d_M_does_341 rfl rfl ?_
    refine x_getF (kf := 31) d_M_does_342 rfl rfl rfl in_M f_M_71 ?_
    refine x_aload_n d_M_does_345 rfl rfl ?_
    refine x_getIG (kf := 4) d_M_does_346 rfl rfl rfl in_M f_M_256 ?_
    rw [up_cell (show o_M ≠ m_nPush by decide), up_cell (show o_M ≠ m_nWay by decide), er]
    refine x_iload d_M_does_349 rfl ?_
    refine x_iastN ((h.2 3)) d_M_does_351 rfl (by omega) (by omega) ?_
    refine x_aload_n d_M_does_352 rfl rfl ?_
    refine x_getF (kf := 32) d_M_does_353 rfl rfl rfl in_M f_M_74 ?_
    refine x_aload_n d_M_does_356 rfl rfl ?_
    refine x_getIG (kf := 4) d_M_does_357 rfl rfl rfl in_M f_M_256 ?_
    rw [up_cell (show o_M ≠ m_nBears by decide), up_cell (show o_M ≠ m_nPush by decide), up_cell (show o_M ≠ m_nWay by decide), er]
    refine x_iload d_M_does_360 rfl ?_
    refine x_iastN ((h.2 3)) d_M_does_362 rfl (by omega) (by omega) ?_
    refine x_aload_n d_M_does_363 rfl rfl ?_
    refine x_dup d_M_does_364 rfl ?_
    refine x_getIG (kf := 4) d_M_does_365 rfl rfl rfl in_M f_M_256 ?_
    rw [up_cell (show o_M ≠ m_nCable by decide), up_cell (show o_M ≠ m_nBears by decide), up_cell (show o_M ≠ m_nPush by decide), up_cell (show o_M ≠ m_nWay by decide), er]
    refine x_iconst (1) d_M_does_368 rfl ⟨by decide, by decide⟩ ?_
    refine x_iaddN d_M_does_369 (by omega) (by omega) ?_
    refine x_putIG (kf := 4) tyX12 d_M_does_370 rfl rfl rfl in_M f_M_256 tyX12_ok nmX12 (by decide +kernel) rfl ?_
    refine x_goto (508) d_M_does_373 (by decide) ?_
    refine x_return d_M_does_508 rfl ?_ (Nat.zero_le _) (Nat.zero_le _)
    rw [← hQ]
    exact ⟨_, rfl, rfl, _, rfl, r.add (T := 3) (by decide) (v6 (R 1) (R 2) (R 3) (R 4) 0 0), hFrame.add G (T := 3) (by decide) _ (v6 (R 1) (R 2) (R 3) (R 4) 0 0) _⟩
  · refine x_tabIn (376) d_M_does_50 (by omega) (by omega) (off := 326) (by rw [q]; rfl) (by decide) ?_
    unfold rAp at hQ
    rw [if_neg (by omega : ¬ R 0 = 0), if_neg (by omega : ¬ R 0 = 1), if_neg (by omega : ¬ R 0 = 2), if_neg (by omega : ¬ R 0 = 3), if_neg (by omega : ¬ R 0 = 4), if_pos (by omega : R 0 = 5)] at hQ
    have l := ok5 q
    have er : G o_M 5 = (h.2 4 : Int) := (r.to.1 4 (by decide)).1
    refine x_aload_n d_M_does_376 rfl rfl ?_
    refine x_getF (kf := 33) d_M_does_377 rfl rfl rfl in_M f_M_77 ?_
    refine x_aload_n d_M_does_380 rfl rfl ?_
    refine x_getIG (kf := 5) d_M_does_381 rfl rfl rfl in_M f_M_259 ?_
    rw [er]
    refine x_iload_n d_M_does_384 rfl rfl ?_
    refine x_iastN ((h.2 4)) d_M_does_385 rfl (by omega) (by omega) ?_
    refine x_aload_n d_M_does_386 rfl rfl ?_
    refine x_getF (kf := 34) d_M_does_387 rfl rfl rfl in_M f_M_80 ?_
    refine x_aload_n d_M_does_390 rfl rfl ?_
    refine x_getIG (kf := 5) d_M_does_391 rfl rfl rfl in_M f_M_259 ?_
    rw [up_cell (show o_M ≠ m_tPlan by decide), er]
    refine x_iload d_M_does_394 rfl ?_
    refine x_iastN ((h.2 4)) d_M_does_396 rfl (by omega) (by omega) ?_
    refine x_aload_n d_M_does_397 rfl rfl ?_
    refine x_getF (kf := 35) d_M_does_398 rfl rfl rfl in_M f_M_83 ?_
    refine x_aload_n d_M_does_401 rfl rfl ?_
    refine x_getIG (kf := 5) d_M_does_402 rfl rfl rfl in_M f_M_259 ?_
    rw [up_cell (show o_M ≠ m_tFan by decide), up_cell (show o_M ≠ m_tPlan by decide), er]
    refine x_iload d_M_does_405 rfl ?_
    refine x_iastN ((h.2 4)) d_M_does_407 rfl (by omega) (by omega) ?_
    refine x_aload_n d_M_does_408 rfl rfl ?_
    refine x_getF (kf := 36) d_M_does_409 rfl rfl rfl in_M f_M_86 ?_
    refine x_aload_n d_M_does_412 rfl rfl ?_
    refine x_getIG (kf := 5) d_M_does_413 rfl rfl rfl in_M f_M_259 ?_
    rw [up_cell (show o_M ≠ m_tMinute by decide), up_cell (show o_M ≠ m_tFan by decide), up_cell (show o_M ≠ m_tPlan by decide), er]
    refine x_iload d_M_does_416 rfl ?_
    refine x_iastN ((h.2 4)) d_M_does_418 rfl (by omega) (by omega) ?_
    refine x_aload_n d_M_does_419 rfl rfl ?_
    refine x_dup d_M_does_420 rfl ?_
    refine x_getIG (kf := 5) d_M_does_421 rfl rfl rfl in_M f_M_259 ?_
    rw [up_cell (show o_M ≠ m_tIs by decide), up_cell (show o_M ≠ m_tMinute by decide), up_cell (show o_M ≠ m_tFan by decide), up_cell (show o_M ≠ m_tPlan by decide), er]
    refine x_iconst (1) d_M_does_424 rfl ⟨by decide, by decide⟩ ?_
    refine x_iaddN d_M_does_425 (by omega) (by omega) ?_
    refine x_putIG (kf := 5) tyX12 d_M_does_426 rfl rfl rfl in_M f_M_259 tyX12_ok nmX12 (by decide +kernel) rfl ?_
    refine x_goto (508) d_M_does_429 (by decide) ?_
    refine x_return d_M_does_508 rfl ?_ (Nat.zero_le _) (Nat.zero_le _)
    rw [← hQ]
    exact ⟨_, rfl, rfl, _, rfl, r.add (T := 4) (by decide) (v6 (R 1) (R 2) (R 3) (R 4) 0 0), hFrame.add G (T := 4) (by decide) _ (v6 (R 1) (R 2) (R 3) (R 4) 0 0) _⟩
  · refine x_tabIn (432) d_M_does_50 (by omega) (by omega) (off := 382) (by rw [q]; rfl) (by decide) ?_
    unfold rAp at hQ
    rw [if_neg (by omega : ¬ R 0 = 0), if_neg (by omega : ¬ R 0 = 1), if_neg (by omega : ¬ R 0 = 2), if_neg (by omega : ¬ R 0 = 3), if_neg (by omega : ¬ R 0 = 4), if_neg (by omega : ¬ R 0 = 5), if_pos (by omega : R 0 = 6)] at hQ
    refine x_aload_n d_M_does_432 rfl rfl ?_
    refine x_iload_n d_M_does_433 rfl rfl ?_
    refine x_putIG (kf := 10) tyX12 d_M_does_434 rfl rfl rfl in_M f_M_7 tyX12_ok nmX12 (by decide +kernel) rfl ?_
    refine x_goto (508) d_M_does_437 (by decide) ?_
    refine x_return d_M_does_508 rfl ?_ (Nat.zero_le _) (Nat.zero_le _)
    rw [← hQ]
    exact ⟨_, rfl, rfl, _, rfl, r.dial (c := 0) (by decide) (R 1), hFrame.dial G (c := 0) (by decide) _⟩
  · refine x_tabIn (440) d_M_does_50 (by omega) (by omega) (off := 390) (by rw [q]; rfl) (by decide) ?_
    unfold rAp at hQ
    rw [if_neg (by omega : ¬ R 0 = 0), if_neg (by omega : ¬ R 0 = 1), if_neg (by omega : ¬ R 0 = 2), if_neg (by omega : ¬ R 0 = 3), if_neg (by omega : ¬ R 0 = 4), if_neg (by omega : ¬ R 0 = 5), if_neg (by omega : ¬ R 0 = 6), if_pos (by omega : R 0 = 7)] at hQ
    have l := ok7 q
    have er : G o_M 6 = (h.2 5 : Int) := (r.to.1 5 (by decide)).1
    refine x_aload_n d_M_does_440 rfl rfl ?_
    refine x_getF (kf := 37) d_M_does_441 rfl rfl rfl in_M f_M_89 ?_
    refine x_aload_n d_M_does_444 rfl rfl ?_
    refine x_getIG (kf := 6) d_M_does_445 rfl rfl rfl in_M f_M_262 ?_
    rw [er]
    refine x_iload_n d_M_does_448 rfl rfl ?_
    refine x_iastN ((h.2 5)) d_M_does_449 rfl (by omega) (by omega) ?_
    refine x_aload_n d_M_does_450 rfl rfl ?_
    refine x_getF (kf := 38) d_M_does_451 rfl rfl rfl in_M f_M_92 ?_
    refine x_aload_n d_M_does_454 rfl rfl ?_
    refine x_getIG (kf := 6) d_M_does_455 rfl rfl rfl in_M f_M_262 ?_
    rw [up_cell (show o_M ≠ m_gPiece by decide), er]
    refine x_iload d_M_does_458 rfl ?_
    refine x_iastN ((h.2 5)) d_M_does_460 rfl (by omega) (by omega) ?_
    refine x_aload_n d_M_does_461 rfl rfl ?_
    refine x_getF (kf := 39) d_M_does_462 rfl rfl rfl in_M f_M_95 ?_
    refine x_aload_n d_M_does_465 rfl rfl ?_
    refine x_getIG (kf := 6) d_M_does_466 rfl rfl rfl in_M f_M_262 ?_
    rw [up_cell (show o_M ≠ m_gPeople by decide), up_cell (show o_M ≠ m_gPiece by decide), er]
    refine x_iload d_M_does_469 rfl ?_
    refine x_iastN ((h.2 5)) d_M_does_471 rfl (by omega) (by omega) ?_
    refine x_aload_n d_M_does_472 rfl rfl ?_
    refine x_dup d_M_does_473 rfl ?_
    refine x_getIG (kf := 6) d_M_does_474 rfl rfl rfl in_M f_M_262 ?_
    rw [up_cell (show o_M ≠ m_gStart by decide), up_cell (show o_M ≠ m_gPeople by decide), up_cell (show o_M ≠ m_gPiece by decide), er]
    refine x_iconst (1) d_M_does_477 rfl ⟨by decide, by decide⟩ ?_
    refine x_iaddN d_M_does_478 (by omega) (by omega) ?_
    refine x_putIG (kf := 6) tyX12 d_M_does_479 rfl rfl rfl in_M f_M_262 tyX12_ok nmX12 (by decide +kernel) rfl ?_
    refine x_goto (508) d_M_does_482 (by decide) ?_
    refine x_return d_M_does_508 rfl ?_ (Nat.zero_le _) (Nat.zero_le _)
    rw [← hQ]
    exact ⟨_, rfl, rfl, _, rfl, r.add (T := 5) (by decide) (v6 (R 1) (R 2) (R 3) 0 0 0), hFrame.add G (T := 5) (by decide) _ (v6 (R 1) (R 2) (R 3) 0 0 0) _⟩
  · refine x_tabIn (485) d_M_does_50 (by omega) (by omega) (off := 435) (by rw [q]; rfl) (by decide) ?_
    unfold rAp at hQ
    rw [if_neg (by omega : ¬ R 0 = 0), if_neg (by omega : ¬ R 0 = 1), if_neg (by omega : ¬ R 0 = 2), if_neg (by omega : ¬ R 0 = 3), if_neg (by omega : ¬ R 0 = 4), if_neg (by omega : ¬ R 0 = 5), if_neg (by omega : ¬ R 0 = 6), if_neg (by omega : ¬ R 0 = 7), if_pos (by omega : R 0 = 8)] at hQ
    refine x_aload_n d_M_does_485 rfl rfl ?_
    refine x_iload_n d_M_does_486 rfl rfl ?_
    refine x_putIG (kf := 11) tyX12 d_M_does_487 rfl rfl rfl in_M f_M_13 tyX12_ok nmX12 (by decide +kernel) rfl ?_
    refine x_goto (508) d_M_does_490 (by decide) ?_
    refine x_return d_M_does_508 rfl ?_ (Nat.zero_le _) (Nat.zero_le _)
    rw [← hQ]
    exact ⟨_, rfl, rfl, _, rfl, r.dial (c := 1) (by decide) (R 1), hFrame.dial G (c := 1) (by decide) _⟩
  · refine x_tabOut (493) d_M_does_50 (by omega) (by decide) ?_
    refine x_aload_n d_M_does_493 rfl rfl ?_
    refine x_aload_n d_M_does_494 rfl rfl ?_
    refine x_getF (kf := 49) d_M_does_495 rfl rfl rfl in_M f_M_126 ?_
    refine x_iload_n d_M_does_498 rfl rfl ?_
    refine x_ialdN ((7 * at' + 0)) d_M_does_499 rfl (by omega) (by omega) ?_
    rw [r0]
    refine x_iload_n d_M_does_500 rfl rfl ?_
    refine x_iload d_M_does_501 rfl ?_
    refine x_iload d_M_does_503 rfl ?_
    refine x_VQ d_M_does_505 e_M_does_M_doesMore ⟨rfl, rfl, Nat.zero_le _, Nat.zero_le _⟩ rfl rfl rfl rfl (Nat.le_of_ble_eq_true rfl) (s_doesMore hh r R q ok') (fun v τ H => ?_)
    obtain ⟨rfl, G', rfl, H1, H2⟩ := H
    show x_A y_M_does 508 [some oM, some (xI (at' : Int)), some (xI (7 * (at' : Int))), some (xI (R 1)), some (xI (R 2)), some (xI (R 3)), some (xI (R 4))] [] (S0, G') 0 0 Q
    refine x_return d_M_does_508 rfl ?_ (Nat.zero_le _) (Nat.zero_le _)
    rw [← hQ]
    exact ⟨_, rfl, rfl, _, rfl, H1, H2⟩
