/-! the class: Watch -/
section CWa
variable {h : HH} {G : Nat → Nat → Int}
/-- smoke and marks may be otherwise -/
def wFrame (G G' : Nat → Nat → Int) : Prop := ∀ i, (i < o_Sm ∨ sm_leftMixed < i) → i ≠ wa_marked → G' i = G i
theorem wFrame.rf (G : Nat → Nat → Int) : wFrame G G := fun _ _ _ => rfl
theorem wFrame.tr {G1 G2 G3 : Nat → Nat → Int} (a : wFrame G1 G2) (b : wFrame G2 G3) : wFrame G1 G3 := fun i h1 h2 => (b i h1 h2).trans (a i h1 h2)
theorem cQ.mark {G' : Nat → Nat → Int} (q : cQ h G) (e : ∀ i, i ≠ wa_marked → G' i = G i) : cQ h G' :=
  ⟨q.1.same (fun i _ h2 => e i (by simp only [wa_marked]; omega)), q.2.1.same (fun i _ h2 => e i (by simp only [wa_marked, sm_leftMixed] at *; omega)) (e _ (by decide)), q.2.2.same (e _ (by decide)) (e _ (by decide)) (e _ (by decide))⟩
def mKept (h : HH) (c : CC) (fi : Nat) (G : Nat → Nat → Int) : Option XV → XM → Prop := fun v τ => v = none ∧ ∃ G', τ = (S0, G') ∧ (∀ i, i ≠ wa_marked → G' i = G i) ∧ (∀ j, (j < 21 * fi ∨ 21 * fi + 21 ≤ j) → G' wa_marked j = G wa_marked j) ∧ ∀ m, m ≤ 20 → G' wa_marked (21 * fi + m) = f_mk h c m (h.2 0)
theorem c_keep (hh : Hwf h) (r : fRep h G) (c : CC) (hc : -1 ≤ c.2.2.2 ∧ c.2.2.2 < h.2 2) (s : fSmoke h c G) (fi : Nat) (hfi : fi < 5) : x_M y_Wa_keep [oWa, xI (fi : Int)] (S0, G) (fun r τ => ∃ v, r = .inl v ∧ mKept h c fi G v τ) := by
  have b := hh.1
  refine x_of 3 rfl (Nat.le_of_ble_eq_true rfl) ?_
  show x_A y_Wa_keep 0 [some oWa, some (xI (fi : Int)), none, none, none] [] (S0, G) 0 0 _
  generalize hQ : (fun (r : XRes) (τ : XM) => ∃ v, r = .inl v ∧ mKept h c fi G v τ) = Q
  refine x_iconst (0) d_Wa_keep_0 rfl ⟨by decide, by decide⟩ ?_
  refine x_istore_n d_Wa_keep_1 rfl (by decide) ?_
  dsimp only [x_st1, x_st2, x_kill, List.set, List.getElem?_cons_zero, List.getElem?_cons_succ]
  refine x_up_to (P := fun m => ∀ G' z3 z4, (∀ i, i ≠ wa_marked → G' i = G i) → (∀ j, (j < 21 * fi ∨ 21 * fi + 21 ≤ j) → G' wa_marked j = G wa_marked j) → (∀ m', m' < m → G' wa_marked (21 * fi + m') = f_mk h c m' (h.2 0)) → x_A y_Wa_keep 2 [some oWa, some (xI (fi : Int)), some (xI (m : Int)), z3, z4] [] (S0, G') 0 0 Q) 0 21 (Nat.zero_le _) (fun G' z3 z4 f1 f2 f3 => ?_) (fun m _ hm k G' z3 z4 f1 f2 f3 => ?_) G none none (fun _ _ => rfl) (fun _ _ => rfl) (fun m' hm' => by omega)
  · refine x_iload_n d_Wa_keep_2 rfl rfl ?_
    refine x_bipush (21) d_Wa_keep_3 rfl ⟨by decide, by decide⟩ ?_
    refine x_icmp_ge (72) d_Wa_keep_5 (by decide) (fun g => ?_) (fun g => ?_)
    · refine x_return d_Wa_keep_72 rfl ?_ (Nat.zero_le _) (Nat.zero_le _)
      rw [← hQ]
      exact ⟨none, rfl, rfl, G', rfl, f1, f2, fun m hm => f3 m (by omega)⟩
    · omega
  · have r2 : fRep h G' := r.same (fun i _ h2 => f1 i (by simp only [wa_marked]; omega))
    refine x_iload_n d_Wa_keep_2 rfl rfl ?_
    refine x_bipush (21) d_Wa_keep_3 rfl ⟨by decide, by decide⟩ ?_
    refine x_icmp_ge (72) d_Wa_keep_5 (by decide) (fun g => ?_) (fun g => ?_)
    · omega
    · refine x_iconst (0) d_Wa_keep_8 rfl ⟨by decide, by decide⟩ ?_
      refine x_istore_n d_Wa_keep_9 rfl (by decide) ?_
      dsimp only [x_st1, x_st2, x_kill, List.set, List.getElem?_cons_zero, List.getElem?_cons_succ]
      refine x_iconst (0) d_Wa_keep_10 rfl ⟨by decide, by decide⟩ ?_
      refine x_istore d_Wa_keep_11 (by decide) ?_
      dsimp only [x_st1, x_st2, x_kill, List.set, List.getElem?_cons_zero, List.getElem?_cons_succ]
      refine x_up_to (P := fun p => x_A y_Wa_keep 13 [some oWa, some (xI (fi : Int)), some (xI (m : Int)), some (xI (f_mk h c m p)), some (xI (p : Int))] [] (S0, G') 0 0 Q) 0 (h.2 0) (Nat.zero_le _) ?_ (fun p _ hp k2 => ?_)
      · refine x_iload d_Wa_keep_13 rfl ?_
        refine x_aload_n d_Wa_keep_15 rfl rfl ?_
        refine x_getF (kf := 0) d_Wa_keep_16 rfl rfl rfl in_Wa f_Wa_15 ?_
        refine x_getF (kf := 0) d_Wa_keep_19 rfl rfl rfl in_Ho f_Wa_73 ?_
        refine x_V1 d_Wa_keep_22 e_Wa_keep_Ta_size ⟨rfl, rfl, Nat.zero_le _, Nat.zero_le _⟩ rfl rfl rfl rfl (Nat.le_of_ble_eq_true rfl) (k_size r2 0 (by decide)) ?_
        refine x_icmp_ge (54) d_Wa_keep_25 (by decide) (fun g => ?_) (fun g => ?_)
        · refine x_aload_n d_Wa_keep_54 rfl rfl ?_
          refine x_getF (kf := 2) d_Wa_keep_55 rfl rfl rfl in_Wa f_Wa_9 ?_
          refine x_iload_n d_Wa_keep_58 rfl rfl ?_
          refine x_bipush (21) d_Wa_keep_59 rfl ⟨by decide, by decide⟩ ?_
          refine x_imulN d_Wa_keep_61 (by omega) (by omega) ?_
          refine x_iload_n d_Wa_keep_62 rfl rfl ?_
          refine x_iaddN d_Wa_keep_63 (by omega) (by omega) ?_
          refine x_iload_n d_Wa_keep_64 rfl rfl ?_
          refine x_iastN (21 * fi + m) d_Wa_keep_65 rfl (by omega) (by omega) ?_
          refine x_iincN d_Wa_keep_66 rfl (by decide) (by omega) (by omega) ?_
          dsimp only [x_st1, x_st2, x_kill, List.set, List.getElem?_cons_zero, List.getElem?_cons_succ]
          refine x_goto (2) d_Wa_keep_69 (by decide) ?_
          refine k _ _ _ (fun i hi => by rw [up_cell hi]; exact f1 i hi) (fun j hj => by rw [up_ne (by omega)]; exact f2 j hj) (fun m' hm' => ?_)
          by_cases e : m' = m
          · subst e; rw [up_same]
          · rw [up_ne (by omega)]; exact f3 m' (by omega)
        · omega
      · have s2 : fSmoke h c G' := s.same (fun i _ h2 => f1 i (by simp only [sm_lost, wa_marked] at *; omega))
        obtain ⟨a1, a2, a3, a4⟩ := s2.bd hh hc (m := m) (p := p) (by omega) (by omega)
        have e1 := (s2.1 m (by omega)).1 p (by omega)
        have e5 := f_mk_s h c m p
        refine x_iload d_Wa_keep_13 rfl ?_
        refine x_aload_n d_Wa_keep_15 rfl rfl ?_
        refine x_getF (kf := 0) d_Wa_keep_16 rfl rfl rfl in_Wa f_Wa_15 ?_
        refine x_getF (kf := 0) d_Wa_keep_19 rfl rfl rfl in_Ho f_Wa_73 ?_
        refine x_V1 d_Wa_keep_22 e_Wa_keep_Ta_size ⟨rfl, rfl, Nat.zero_le _, Nat.zero_le _⟩ rfl rfl rfl rfl (Nat.le_of_ble_eq_true rfl) (k_size r2 0 (by decide)) ?_
        refine x_icmp_ge (54) d_Wa_keep_25 (by decide) (fun g => ?_) (fun g => ?_)
        · omega
        · refine x_aload_n d_Wa_keep_28 rfl rfl ?_
          refine x_getF (kf := 1) d_Wa_keep_29 rfl rfl rfl in_Wa f_Wa_19 ?_
          refine x_iload d_Wa_keep_32 rfl ?_
          refine x_iload_n d_Wa_keep_34 rfl rfl ?_
          refine x_V1 d_Wa_keep_35 e_Wa_keep_Sm_isMarked ⟨rfl, rfl, Nat.zero_le _, Nat.zero_le _⟩ rfl rfl rfl rfl (Nat.le_of_ble_eq_true rfl) (c_isMarked hh r2 p m (by omega) (by omega) ⟨a1, a2⟩ ⟨a3, a4⟩) ?_
          rw [e1.1, e1.2]
          by_cases q : h.1 9 0 3 ≤ (sk h c m).1 p + (sk h c m).2.1 p
          · rw [if_pos q] at e5
            rw [decide_eq_true q]
            refine x_if_eq (48) d_Wa_keep_38 (by decide) (fun g => ?_) (fun g => ?_)
            · cases g
            · refine x_iload_n d_Wa_keep_41 rfl rfl ?_
              refine x_iconst (1) d_Wa_keep_42 rfl ⟨by decide, by decide⟩ ?_
              refine x_iload d_Wa_keep_43 rfl ?_
              refine x_ishl d_Wa_keep_45 ?_
              refine x_ior d_Wa_keep_46 ?_
              refine x_istore_n d_Wa_keep_47 rfl (by decide) ?_
              dsimp only [x_st1, x_st2, x_kill, List.set, List.getElem?_cons_zero, List.getElem?_cons_succ]
              refine x_iincN d_Wa_keep_48 rfl (by decide) (by omega) (by omega) ?_
              dsimp only [x_st1, x_st2, x_kill, List.set, List.getElem?_cons_zero, List.getElem?_cons_succ]
              refine x_goto (13) d_Wa_keep_51 (by decide) ?_
              rw [e5] at k2
              exact k2
          · rw [if_neg q] at e5
            rw [decide_eq_false q]
            refine x_if_eq (48) d_Wa_keep_38 (by decide) (fun g => ?_) (fun g => ?_)
            · refine x_iincN d_Wa_keep_48 rfl (by decide) (by omega) (by omega) ?_
              dsimp only [x_st1, x_st2, x_kill, List.set, List.getElem?_cons_zero, List.getElem?_cons_succ]
              refine x_goto (13) d_Wa_keep_51 (by decide) ?_
              rw [e5] at k2
              exact k2
            · exact absurd rfl g
/-- marks of all fires, and of none, by a plan -/
def wM (h : HH) (pl : Int) (G : Nat → Nat → Int) : Prop := ∀ fi, (fi < h.2 2 ∨ fi = 4) → ∀ m, m ≤ 20 → G wa_marked (21 * fi + m) = f_mk h (pl, pl, 0, f_fi fi) m (h.2 0)
def mLooked (h : HH) (pl : Int) (G : Nat → Nat → Int) : Option XV → XM → Prop := fun v τ => v = none ∧ ∃ G', τ = (S0, G') ∧ wFrame G G' ∧ cQ h G' ∧ wM h pl G'
theorem c_look (hh : Hwf h) (q : cQ h G) (pl : Int) : x_M y_Wa_look [oWa, xI pl] (S0, G) (fun r τ => ∃ v, r = .inl v ∧ mLooked h pl G v τ) := by
  have b := hh.1
  refine x_of 1 rfl (Nat.le_of_ble_eq_true rfl) ?_
  show x_A y_Wa_look 0 [some oWa, some (xI pl), none] [] (S0, G) 0 0 _
  generalize hQ : (fun (r : XRes) (τ : XM) => ∃ v, r = .inl v ∧ mLooked h pl G v τ) = Q
  refine x_iconst (0) d_Wa_look_0 rfl ⟨by decide, by decide⟩ ?_
  refine x_istore_n d_Wa_look_1 rfl (by decide) ?_
  dsimp only [x_st1, x_st2, x_kill, List.set, List.getElem?_cons_zero, List.getElem?_cons_succ]
  refine x_up_to (P := fun f => ∀ G', wFrame G G' → cQ h G' → (∀ fi, fi < f → ∀ m, m ≤ 20 → G' wa_marked (21 * fi + m) = f_mk h (pl, pl, 0, f_fi fi) m (h.2 0)) → x_A y_Wa_look 2 [some oWa, some (xI pl), some (xI (f : Int))] [] (S0, G') 0 0 Q) 0 (h.2 2) (Nat.zero_le _) (fun G' f1 f2 f3 => ?_) (fun f _ hf k G' f1 f2 f3 => ?_) G (wFrame.rf G) q (fun fi hfi => by omega)
  · have r2 := f2.1
    refine x_iload_n d_Wa_look_2 rfl rfl ?_
    refine x_aload_n d_Wa_look_3 rfl rfl ?_
    refine x_getF (kf := 0) d_Wa_look_4 rfl rfl rfl in_Wa f_Wa_15 ?_
    refine x_getF (kf := 2) d_Wa_look_7 rfl rfl rfl in_Ho f_Wa_23 ?_
    refine x_V1 d_Wa_look_10 e_Wa_look_Ta_size ⟨rfl, rfl, Nat.zero_le _, Nat.zero_le _⟩ rfl rfl rfl rfl (Nat.le_of_ble_eq_true rfl) (k_size r2 2 (by decide)) ?_
    refine x_icmp_ge (38) d_Wa_look_13 (by decide) (fun g => ?_) (fun g => ?_)
    · refine x_aload_n d_Wa_look_38 rfl rfl ?_
      refine x_getF (kf := 1) d_Wa_look_39 rfl rfl rfl in_Wa f_Wa_19 ?_
      refine x_iload_n d_Wa_look_42 rfl rfl ?_
      refine x_iload_n d_Wa_look_43 rfl rfl ?_
      refine x_iconst (0) d_Wa_look_44 rfl ⟨by decide, by decide⟩ ?_
      refine x_iconst (-1) d_Wa_look_45 rfl ⟨by decide, by decide⟩ ?_
      refine x_VQ d_Wa_look_46 e_Wa_look_Sm_follow ⟨rfl, rfl, Nat.zero_le _, Nat.zero_le _⟩ rfl rfl rfl rfl (Nat.le_of_ble_eq_true rfl) (c_follow hh r2 f2.2.1 (pl, pl, 0, -1) ⟨Int.le_refl _, by show (-1 : Int) < _; omega⟩) (fun v τ hv => ?_)
      obtain ⟨rfl, G1, rfl, g1, g2, g3, g4⟩ := hv
      show x_A y_Wa_look 49 [some oWa, some (xI pl), some (xI ((h.2 2 : Nat) : Int))] [] (S0, G1) 0 0 Q
      have q1 := f2.followed g1 g2 g3 g4
      refine x_aload_n d_Wa_look_49 rfl rfl ?_
      refine x_iconst (4) d_Wa_look_50 rfl ⟨by decide, by decide⟩ ?_
      refine x_VQ d_Wa_look_51 e_Wa_look_Wa_keep ⟨rfl, rfl, Nat.zero_le _, Nat.zero_le _⟩ rfl rfl rfl rfl (Nat.le_of_ble_eq_true rfl) (c_keep hh q1.1 (pl, pl, 0, -1) ⟨Int.le_refl _, by show (-1 : Int) < _; omega⟩ g2 4 (by decide)) (fun v τ hv => ?_)
      obtain ⟨rfl, G2, rfl, e1, e2, e3⟩ := hv
      show x_A y_Wa_look 54 [some oWa, some (xI pl), some (xI ((h.2 2 : Nat) : Int))] [] (S0, G2) 0 0 Q
      refine x_return d_Wa_look_54 rfl ?_ (Nat.zero_le _) (Nat.zero_le _)
      rw [← hQ]
      refine ⟨none, rfl, rfl, G2, rfl, fun i h1 h2 => by rw [e1 i h2, g1 i h1]; exact f1 i h1 h2, q1.mark e1, fun fi hfi m hm => ?_⟩
      by_cases c : fi = 4
      · subst c; exact e3 m hm
      · have hl : fi < h.2 2 := by omega
        rw [e2 _ (Or.inl (by omega)), g1 _ (Or.inr (by decide))]
        exact f3 fi hl m hm
    · omega
  · have r2 := f2.1
    have e4 : f_fi f = (f : Int) := f_fi_n (by omega)
    refine x_iload_n d_Wa_look_2 rfl rfl ?_
    refine x_aload_n d_Wa_look_3 rfl rfl ?_
    refine x_getF (kf := 0) d_Wa_look_4 rfl rfl rfl in_Wa f_Wa_15 ?_
    refine x_getF (kf := 2) d_Wa_look_7 rfl rfl rfl in_Ho f_Wa_23 ?_
    refine x_V1 d_Wa_look_10 e_Wa_look_Ta_size ⟨rfl, rfl, Nat.zero_le _, Nat.zero_le _⟩ rfl rfl rfl rfl (Nat.le_of_ble_eq_true rfl) (k_size r2 2 (by decide)) ?_
    refine x_icmp_ge (38) d_Wa_look_13 (by decide) (fun g => ?_) (fun g => ?_)
    · omega
    · refine x_aload_n d_Wa_look_16 rfl rfl ?_
      refine x_getF (kf := 1) d_Wa_look_17 rfl rfl rfl in_Wa f_Wa_19 ?_
      refine x_iload_n d_Wa_look_20 rfl rfl ?_
      refine x_iload_n d_Wa_look_21 rfl rfl ?_
      refine x_iconst (0) d_Wa_look_22 rfl ⟨by decide, by decide⟩ ?_
      refine x_iload_n d_Wa_look_23 rfl rfl ?_
      refine x_VQ d_Wa_look_24 e_Wa_look_Sm_follow ⟨rfl, rfl, Nat.zero_le _, Nat.zero_le _⟩ rfl rfl rfl rfl (Nat.le_of_ble_eq_true rfl) (c_follow hh r2 f2.2.1 (pl, pl, 0, (f : Int)) ⟨by show (-1 : Int) ≤ f; omega, by show (f : Int) < _; omega⟩) (fun v τ hv => ?_)
      obtain ⟨rfl, G1, rfl, g1, g2, g3, g4⟩ := hv
      show x_A y_Wa_look 27 [some oWa, some (xI pl), some (xI (f : Int))] [] (S0, G1) 0 0 Q
      have q1 := f2.followed g1 g2 g3 g4
      refine x_aload_n d_Wa_look_27 rfl rfl ?_
      refine x_iload_n d_Wa_look_28 rfl rfl ?_
      refine x_VQ d_Wa_look_29 e_Wa_look_Wa_keep ⟨rfl, rfl, Nat.zero_le _, Nat.zero_le _⟩ rfl rfl rfl rfl (Nat.le_of_ble_eq_true rfl) (c_keep hh q1.1 (pl, pl, 0, (f : Int)) ⟨by show (-1 : Int) ≤ f; omega, by show (f : Int) < _; omega⟩ g2 f (by omega)) (fun v τ hv => ?_)
      obtain ⟨rfl, G2, rfl, e1, e2, e3⟩ := hv
      show x_A y_Wa_look 32 [some oWa, some (xI pl), some (xI (f : Int))] [] (S0, G2) 0 0 Q
      refine x_iincN d_Wa_look_32 rfl (by decide) (by omega) (by omega) ?_
      dsimp only [x_st1, x_st2, x_kill, List.set, List.getElem?_cons_zero, List.getElem?_cons_succ]
      refine x_goto (2) d_Wa_look_35 (by decide) ?_
      refine k G2 (fun i h1 h2 => by rw [e1 i h2, g1 i h1]; exact f1 i h1 h2) (q1.mark e1) (fun fi hfi m hm => ?_)
      by_cases c : fi = f
      · subst c; rw [e4]; exact e3 m hm
      · rw [e2 _ (Or.inl (by omega)), g1 _ (Or.inr (by decide))]
        exact f3 fi (by omega) m hm
theorem c_markedAt (fi m : Nat) (hfi : fi < 5) (hm : m ≤ 20) : x_M y_Wa_markedAt [oWa, xI (f_fi fi), xI (m : Int)] (S0, G) (x_is (.inl (some (xI (G wa_marked (21 * fi + m))))) (S0, G)) := by
  refine x_of 2 rfl (Nat.le_of_ble_eq_true rfl) ?_
  show x_A y_Wa_markedAt 0 [some oWa, some (xI (f_fi fi)), some (xI (m : Int)), none, none] [] (S0, G) 0 0 _
  generalize hQ : x_is (.inl (some (xI (G wa_marked (21 * fi + m))))) (S0, G) = Q
  have rest : ∀ z, x_A y_Wa_markedAt 10 [some oWa, z, some (xI (m : Int)), none, none] [xI (fi : Int)] (S0, G) 0 0 Q := by
    intro z
    refine x_istore_n d_Wa_markedAt_10 rfl (by decide) ?_
    dsimp only [x_st1, x_st2, x_kill, List.set, List.getElem?_cons_zero, List.getElem?_cons_succ]
    refine x_iload_n d_Wa_markedAt_11 rfl rfl ?_
    refine x_if_lt (34) d_Wa_markedAt_12 (by decide) (fun g => ?_) (fun g => ?_)
    · omega
    · refine x_iload_n d_Wa_markedAt_15 rfl rfl ?_
      refine x_iconst (4) d_Wa_markedAt_16 rfl ⟨by decide, by decide⟩ ?_
      refine x_icmp_gt (34) d_Wa_markedAt_17 (by decide) (fun g => ?_) (fun g => ?_)
      · omega
      · refine x_iload_n d_Wa_markedAt_20 rfl rfl ?_
        refine x_if_lt (34) d_Wa_markedAt_21 (by decide) (fun g => ?_) (fun g => ?_)
        · omega
        · refine x_iload_n d_Wa_markedAt_24 rfl rfl ?_
          refine x_bipush (21) d_Wa_markedAt_25 rfl ⟨by decide, by decide⟩ ?_
          refine x_icmp_ge (34) d_Wa_markedAt_27 (by decide) (fun g => ?_) (fun g => ?_)
          · omega
          · refine x_iconst (1) d_Wa_markedAt_30 rfl ⟨by decide, by decide⟩ ?_
            refine x_goto (35) d_Wa_markedAt_31 (by decide) ?_
            refine x_istore d_Wa_markedAt_35 (by decide) ?_
            dsimp only [x_st1, x_st2, x_kill, List.set, List.getElem?_cons_zero, List.getElem?_cons_succ]
            refine x_iload d_Wa_markedAt_37 rfl ?_
            refine x_if_eq (56) d_Wa_markedAt_39 (by decide) (fun g => ?_) (fun g => ?_)
            · cases g
            · refine x_aload_n d_Wa_markedAt_42 rfl rfl ?_
              refine x_getF (kf := 2) d_Wa_markedAt_43 rfl rfl rfl in_Wa f_Wa_9 ?_
              refine x_iload_n d_Wa_markedAt_46 rfl rfl ?_
              refine x_bipush (21) d_Wa_markedAt_47 rfl ⟨by decide, by decide⟩ ?_
              refine x_imulN d_Wa_markedAt_49 (by omega) (by omega) ?_
              refine x_iload_n d_Wa_markedAt_50 rfl rfl ?_
              refine x_iaddN d_Wa_markedAt_51 (by omega) (by omega) ?_
              refine x_ialdN (21 * fi + m) d_Wa_markedAt_52 rfl (by omega) (by omega) ?_
              refine x_goto (57) d_Wa_markedAt_53 (by decide) ?_
              refine x_ireturn d_Wa_markedAt_57 rfl ?_ (Nat.zero_le _) (Nat.zero_le _)
              rw [← hQ]
              exact ⟨rfl, rfl⟩
  refine x_iload_n d_Wa_markedAt_0 rfl rfl ?_
  refine x_iconst (-1) d_Wa_markedAt_1 rfl ⟨by decide, by decide⟩ ?_
  by_cases c : fi = 4
  · subst c
    refine x_icmp_ne (9) d_Wa_markedAt_2 (by decide) (fun g => ?_) (fun g => ?_)
    · exact absurd rfl g
    · refine x_iconst (4) d_Wa_markedAt_5 rfl ⟨by decide, by decide⟩ ?_
      refine x_goto (10) d_Wa_markedAt_6 (by decide) ?_
      exact rest _
  · have e4 : f_fi fi = (fi : Int) := f_fi_n (by omega)
    rw [e4]
    refine x_icmp_ne (9) d_Wa_markedAt_2 (by decide) (fun g => ?_) (fun g => ?_)
    · refine x_iload_n d_Wa_markedAt_9 rfl rfl ?_
      exact rest _
    · omega
theorem f_alk_iff (k : Int) (t1 t2 : Nat → Int) (n : Nat) : f_alk k t1 t2 n = true ↔ ∀ m, m < n → (m : Int) ≤ k → t1 m = t2 m := by
  induction n with
  | zero => exact ⟨fun _ m hm => by omega, fun _ => rfl⟩
  | succ n ih =>
    rw [f_alk_s, Bool.and_eq_true, ih]
    constructor
    · rintro ⟨h1, h2⟩ m hm hk
      by_cases e : m = n
      · subst e
        rw [Bool.or_eq_true, decide_eq_true_eq, decide_eq_true_eq] at h2
        rcases h2 with h2 | h2
        · omega
        · exact h2
      · exact h1 m (by omega) hk
    · intro hz
      refine ⟨fun m hm hk => hz m (by omega) hk, ?_⟩
      rw [Bool.or_eq_true, decide_eq_true_eq, decide_eq_true_eq]
      by_cases c : k < (n : Int)
      · exact Or.inl c
      · exact Or.inr (hz n (by omega) (by omega))
theorem c_sameTold (hh : Hwf h) (r : fRep h G) (pl : Int) (w : wM h pl G) (a b : Nat) (k : Int) (ha : a < h.2 2 ∨ a = 4) (hb : b < h.2 2 ∨ b = 4) (hk : 0 ≤ k ∧ k ≤ 21) :
    x_M y_Wa_sameTold [oWa, xI (f_fi a), xI (f_fi b), xI k] (S0, G) (x_is (.inl (some (xI (b2i (f_alk (k - h.1 9 0 4) (fun m => f_tell h (pl, pl, 0, f_fi a) m (h.2 0)) (fun m => f_tell h (pl, pl, 0, f_fi b) m (h.2 0)) 21))))) (S0, G)) := by
  have bb := hh.1
  have dl := hh.2.2.2.2.2.2.2.2.2.2
  have h9 := r.1
  refine x_of 3 rfl (Nat.le_of_ble_eq_true rfl) ?_
  show x_A y_Wa_sameTold 0 [some oWa, some (xI (f_fi a)), some (xI (f_fi b)), some (xI k), none, none, none] [] (S0, G) 0 0 _
  generalize hA : f_alk (k - h.1 9 0 4) (fun m => f_tell h (pl, pl, 0, f_fi a) m (h.2 0)) (fun m => f_tell h (pl, pl, 0, f_fi b) m (h.2 0)) 21 = A
  generalize hQ : x_is (.inl (some (xI (b2i A)))) (S0, G) = Q
  refine x_aload_n d_Wa_sameTold_0 rfl rfl ?_
  refine x_getF (kf := 0) d_Wa_sameTold_1 rfl rfl rfl in_Wa f_Wa_15 ?_
  refine x_getF (kf := 9) d_Wa_sameTold_4 rfl rfl rfl in_Ho f_Wa_45 ?_
  refine x_iconst (0) d_Wa_sameTold_7 rfl ⟨by decide, by decide⟩ ?_
  refine x_iconst (2) d_Wa_sameTold_8 rfl ⟨by decide, by decide⟩ ?_
  refine x_V1 d_Wa_sameTold_9 e_Wa_sameTold_Ta_at ⟨rfl, rfl, Nat.zero_le _, Nat.zero_le _⟩ rfl rfl rfl rfl (Nat.le_of_ble_eq_true rfl) (k_at hh r 9 0 2 (by decide) (by omega) (by decide) rfl rfl) ?_
  refine x_istore d_Wa_sameTold_12 (by decide) ?_
  dsimp only [x_st1, x_st2, x_kill, List.set, List.getElem?_cons_zero, List.getElem?_cons_succ]
  refine x_bipush (20) d_Wa_sameTold_14 rfl ⟨by decide, by decide⟩ ?_
  refine x_iload_n d_Wa_sameTold_16 rfl rfl ?_
  refine x_aload_n d_Wa_sameTold_17 rfl rfl ?_
  refine x_getF (kf := 0) d_Wa_sameTold_18 rfl rfl rfl in_Wa f_Wa_15 ?_
  refine x_getF (kf := 9) d_Wa_sameTold_21 rfl rfl rfl in_Ho f_Wa_45 ?_
  refine x_iconst (0) d_Wa_sameTold_24 rfl ⟨by decide, by decide⟩ ?_
  refine x_iconst (4) d_Wa_sameTold_25 rfl ⟨by decide, by decide⟩ ?_
  refine x_V1 d_Wa_sameTold_26 e_Wa_sameTold_Ta_at ⟨rfl, rfl, Nat.zero_le _, Nat.zero_le _⟩ rfl rfl rfl rfl (Nat.le_of_ble_eq_true rfl) (k_at hh r 9 0 4 (by decide) (by omega) (by decide) rfl rfl) ?_
  refine x_isubN d_Wa_sameTold_29 (by omega) (by omega) ?_
  refine x_S1 d_Wa_sameTold_30 e_Wa_sameTold_JM_min ⟨rfl, rfl, Nat.zero_le _, Nat.zero_le _⟩ rfl rfl (Nat.le_of_ble_eq_true rfl) (s_min _ _ _) ?_
  refine x_istore d_Wa_sameTold_33 (by decide) ?_
  dsimp only [x_st1, x_st2, x_kill, List.set, List.getElem?_cons_zero, List.getElem?_cons_succ]
  refine x_iconst (0) d_Wa_sameTold_35 rfl ⟨by decide, by decide⟩ ?_
  refine x_istore d_Wa_sameTold_36 (by decide) ?_
  dsimp only [x_st1, x_st2, x_kill, List.set, List.getElem?_cons_zero, List.getElem?_cons_succ]
  generalize hu : min 20 (k - h.1 9 0 4) = u
  have key : ∀ f m : Nat, m + f = 22 → (m : Int) ≤ u + 1 ∨ m = 0 → (∀ j, j < m → f_tell h (pl, pl, 0, f_fi a) j (h.2 0) = f_tell h (pl, pl, 0, f_fi b) j (h.2 0)) → x_A y_Wa_sameTold 38 [some oWa, some (xI (f_fi a)), some (xI (f_fi b)), some (xI k), some (xI (h.1 9 0 2)), some (xI u), some (xI (m : Int))] [] (S0, G) 0 0 Q := by
    intro f
    induction f with
    | zero => intro m hm h1 h2; omega
    | succ f ih =>
      intro m hm h1 h2
      refine x_iload d_Wa_sameTold_38 rfl ?_
      refine x_iload d_Wa_sameTold_40 rfl ?_
      refine x_icmp_gt (74) d_Wa_sameTold_42 (by decide) (fun g => ?_) (fun g => ?_)
      · refine x_iconst (1) d_Wa_sameTold_74 rfl ⟨by decide, by decide⟩ ?_
        refine x_zreturn d_Wa_sameTold_75 rfl (by first | exact Or.inl rfl | exact Or.inr rfl | (split <;> first | exact Or.inl rfl | exact Or.inr rfl) | assumption) ?_ (Nat.zero_le _) (Nat.zero_le _)
        have : A = true := by
          rw [← hA, f_alk_iff]
          intro j hj hk'
          exact h2 j (by omega)
        rw [← hQ, this]
        exact ⟨rfl, rfl⟩
      · refine x_aload_n d_Wa_sameTold_45 rfl rfl ?_
        refine x_iload_n d_Wa_sameTold_46 rfl rfl ?_
        refine x_iload d_Wa_sameTold_47 rfl ?_
        refine x_V1 d_Wa_sameTold_49 e_Wa_sameTold_Wa_markedAt ⟨rfl, rfl, Nat.zero_le _, Nat.zero_le _⟩ rfl rfl rfl rfl (Nat.le_of_ble_eq_true rfl) (c_markedAt a m (by omega) (by omega)) ?_
        rw [w a ha m (by omega)]
        refine x_aload_n d_Wa_sameTold_52 rfl rfl ?_
        refine x_iload_n d_Wa_sameTold_53 rfl rfl ?_
        refine x_iload d_Wa_sameTold_54 rfl ?_
        refine x_V1 d_Wa_sameTold_56 e_Wa_sameTold_Wa_markedAt ⟨rfl, rfl, Nat.zero_le _, Nat.zero_le _⟩ rfl rfl rfl rfl (Nat.le_of_ble_eq_true rfl) (c_markedAt b m (by omega) (by omega)) ?_
        rw [w b hb m (by omega)]
        refine x_ixor d_Wa_sameTold_59 ?_
        refine x_iload d_Wa_sameTold_60 rfl ?_
        refine x_iand d_Wa_sameTold_62 ?_
        refine x_if_eq (68) d_Wa_sameTold_63 (by decide) (fun g2 => ?_) (fun g2 => ?_)
        · refine x_iincN d_Wa_sameTold_68 rfl (by decide) (by omega) (by omega) ?_
          dsimp only [x_st1, x_st2, x_kill, List.set, List.getElem?_cons_zero, List.getElem?_cons_succ]
          refine x_goto (38) d_Wa_sameTold_71 (by decide) ?_
          refine ih (m + 1) (by omega) (by omega) (fun j hj => ?_)
          by_cases e : j = m
          · subst e; exact (told_iff h hh _ _ _).mp g2
          · exact h2 j (by omega)
        · refine x_iconst (0) d_Wa_sameTold_66 rfl ⟨by decide, by decide⟩ ?_
          refine x_zreturn d_Wa_sameTold_67 rfl (by first | exact Or.inl rfl | exact Or.inr rfl | (split <;> first | exact Or.inl rfl | exact Or.inr rfl) | assumption) ?_ (Nat.zero_le _) (Nat.zero_le _)
          have : A = false := by
            rw [← hA]
            by_cases c : f_alk (k - h.1 9 0 4) (fun m => f_tell h (pl, pl, 0, f_fi a) m (h.2 0)) (fun m => f_tell h (pl, pl, 0, f_fi b) m (h.2 0)) 21 = true
            · exact absurd ((told_iff h hh _ _ _).mpr ((f_alk_iff _ _ _ _).mp c m (by omega) (by omega))) g2
            · simpa using c
          rw [← hQ, this]
          exact ⟨rfl, rfl⟩
  exact key 22 0 rfl (Or.inr rfl) (fun j hj => by omega)
end CWa
/-! the turn: math -/
theorem t_gr_ge {A : Nat → Nat → Bool} {R : Nat → Nat → Int} {f q n g : Nat} (hg : g < n) (ha : A f g = true) : R g q ≤ t_gr A R f q n := by
  induction n with
  | zero => omega
  | succ n ih =>
    show R g q ≤ if A f n = true then max (t_gr A R f q n) (R n q) else t_gr A R f q n
    by_cases e : g = n
    · subst e; rw [if_pos ha]; omega
    · have := ih (by omega)
      split <;> omega
theorem t_gr_is {A : Nat → Nat → Bool} {R : Nat → Nat → Int} {f q n : Nat} (h : -2147483648 < t_gr A R f q n) : ∃ g, g < n ∧ A f g = true ∧ t_gr A R f q n = R g q := by
  induction n with
  | zero => exact absurd h (by show ¬ (-2147483648 : Int) < -2147483648; omega)
  | succ n ih =>
    have e : t_gr A R f q (n + 1) = if A f n = true then max (t_gr A R f q n) (R n q) else t_gr A R f q n := rfl
    rw [e] at h ⊢
    by_cases c : A f n = true
    · rw [if_pos c] at h ⊢
      by_cases c2 : t_gr A R f q n ≤ R n q
      · exact ⟨n, by omega, c, by omega⟩
      · obtain ⟨g, g1, g2, g3⟩ := ih (by omega)
        exact ⟨g, by omega, g2, by omega⟩
    · rw [if_neg c] at h ⊢
      obtain ⟨g, g1, g2, g3⟩ := ih h
      exact ⟨g, by omega, g2, g3⟩
/-- the greatest, as the class finds it -/
def t_gc (A : Nat → Nat → Bool) (R : Nat → Nat → Int) (f q : Nat) : Nat → Int
  | 0 => -1000000
  | g + 1 => if A f g = true then max (t_gc A R f q g) (R g q) else t_gc A R f q g
theorem t_gc_eq (A : Nat → Nat → Bool) (R : Nat → Nat → Int) (f q n : Nat) : t_gc A R f q n = max (-1000000) (t_gr A R f q n) := by
  induction n with
  | zero => show (-1000000 : Int) = max (-1000000) (-2147483648); omega
  | succ n ih =>
    show (if A f n = true then max (t_gc A R f q n) (R n q) else t_gc A R f q n) = max (-1000000) (if A f n = true then max (t_gr A R f q n) (R n q) else t_gr A R f q n)
    rw [ih]
    split <;> omega
theorem t_gc_gr {A : Nat → Nat → Bool} {R : Nat → Nat → Int} {f q n : Nat} (hf : f < n) (ha : A f f = true) (hR : -1000000 ≤ R f q) : t_gc A R f q n = t_gr A R f q n := by
  rw [t_gc_eq]
  have := t_gr_ge (R := R) (q := q) hf ha
  omega
/-- the plan of the turn is the first with the least of the greatest regrets -/
theorem t_ls_p {A : Nat → Nat → Bool} {R : Nat → Nat → Int} {n f : Nat} (hlt : ∀ q, t_gr A R f q n < 2147483647) (q : Nat) : ∃ p : Nat, p ≤ q ∧ t_ls A R n f 0 (q + 1) = (t_gr A R f p n, (p : Int)) := by
  induction q with
  | zero =>
    refine ⟨0, Nat.le_refl 0, ?_⟩
    show (if (2147483647 : Int) ≤ t_gr A R f 0 n then _ else _) = _
    rw [if_neg (by have := hlt 0; omega)]
  | succ q ih =>
    obtain ⟨p, p1, p2⟩ := ih
    have e : t_ls A R n f 0 (q + 1 + 1) = if (t_ls A R n f 0 (q + 1)).1 ≤ t_gr A R f (q + 1) n then t_ls A R n f 0 (q + 1) else (t_gr A R f (q + 1) n, ((q + 1 : Nat) : Int)) := rfl
    rw [e, p2]
    split
    · exact ⟨p, by omega, rfl⟩
    · exact ⟨q + 1, Nat.le_refl _, rfl⟩
