/-! the class: where a crew comes -/
section CCr2
variable {h : HH} {G : Nat → Nat → Int}
theorem S0_there : S0[cr_there]? = some (.inr (0, 168)) := rfl
/-- the crew's walk there, done before minute m and in it before piece p -/
def iTh (h : HH) (G : Nat → Nat → Int) (m p : Nat) (G' : Nat → Nat → Int) : Prop :=
  (∀ i, i ≠ cr_there → G' i = G i) ∧ (∀ m' q, m' ≤ 20 → q < 8 → 0 ≤ g8 G' cr_there m' q ∧ g8 G' cr_there m' q ≤ 1000000) ∧
  ∀ m' q, m' ≤ 20 → q < h.2 0 → ((m' < m ∨ (m' = m ∧ q < p)) → g8 G' cr_there m' q = min (t_in h m' q) (lT h (g8 G' cr_there) m' q (h.2 1) + cm (shS h G) q m')) ∧ (¬ (m' < m ∨ (m' = m ∧ q < p)) → g8 G' cr_there m' q = t_in h m' q)
theorem g8_up (G : Nat → Nat → Int) (i m p : Nat) (z : Int) (hp : p < 8) (m' q : Nat) (hq : q < 8) : g8 (up G i (8 * m + p) z) i m' q = if m' = m ∧ q = p then z else g8 G i m' q := by
  unfold g8 up
  by_cases e : m' = m ∧ q = p
  · rw [if_pos e, if_pos ⟨rfl, by omega⟩]
  · rw [if_neg e, if_neg (by omega)]
theorem iTh.next (hh : Hwf h) {m p : Nat} {G' : Nat → Nat → Int} (hm : m ≤ 20) (hp : p < h.2 0) (x : iTh h G m p G') : iTh h G m (p + 1) (up G' cr_there (8 * m + p) (min (g8 G' cr_there m p) (lT h (g8 G' cr_there) m p (h.2 1) + cm (shS h G) p m))) := by
  obtain ⟨x1, x2, x3⟩ := x
  have b0 := hh.1
  have bl := lT_bd hh hp hm x2 (n := h.2 1) (Nat.le_refl _)
  have bc := cm_bd (shS h G) p m
  have bx := x2 m p hm (by omega)
  have eu := fun z => g8_up G' cr_there m p z (by omega)
  have low : ∀ z m' q, m' ≤ m → q < h.2 0 → lT h (g8 (up G' cr_there (8 * m + p) z) cr_there) m' q (h.2 1) = lT h (g8 G' cr_there) m' q (h.2 1) := fun z m' q h1 h2 => lT_cg hh h2 (fun a c h3 h4 => by rw [eu z a c (by omega), if_neg (by omega)]) (Nat.le_refl _)
  refine ⟨fun i hi => by rw [up_cell hi]; exact x1 i hi, fun m' q h1 h2 => ?_, fun m' q h1 h2 => ⟨fun h3 => ?_, fun h3 => ?_⟩⟩
  · rw [eu _ m' q h2]
    split
    · omega
    · exact x2 m' q h1 h2
  · rw [eu _ m' q (by omega), low _ m' q (by omega) h2]
    by_cases e : m' = m ∧ q = p
    · obtain ⟨rfl, rfl⟩ := e
      rw [if_pos ⟨rfl, rfl⟩, (x3 m' q h1 h2).2 (by omega)]
    · rw [if_neg e]
      exact (x3 m' q h1 h2).1 (by omega)
  · rw [eu _ m' q (by omega), if_neg (by omega)]
    exact (x3 m' q h1 h2).2 (by omega)
theorem iTh.turn {m : Nat} {G' : Nat → Nat → Int} (x : iTh h G m (h.2 0) G') : iTh h G (m + 1) 0 G' :=
  ⟨x.1, x.2.1, fun m' q h1 h2 => ⟨fun h3 => (x.2.2 m' q h1 h2).1 (by omega), fun h3 => (x.2.2 m' q h1 h2).2 (by omega)⟩⟩
def mThere (h : HH) (G : Nat → Nat → Int) : Option XV → XM → Prop := fun v τ => v = none ∧ ∃ G', τ = (S0, G') ∧ (∀ i, i ≠ cr_there → G' i = G i) ∧ (∀ m' q, m' ≤ 20 → q < 8 → 0 ≤ g8 G' cr_there m' q ∧ g8 G' cr_there m' q ≤ 1000000) ∧ isTh h (shS h G) (g8 G' cr_there)
theorem rep_cr {i : Nat} (hi : 25 < i) (r : fRep h G) {G' : Nat → Nat → Int} (e : ∀ j, j ≠ i → G' j = G j) : fRep h G' := r.same (fun j _ h2 => e j (by omega))
theorem shS_same {G' : Nat → Nat → Int} (e : G' sm_mixed = G sm_mixed) : shS h G' = shS h G := by
  unfold shS; rw [e]
theorem c_goThere (hh : Hwf h) (r : fRep h G) : x_M y_Cr_goThere [oCr] (S0, G) (fun r τ => ∃ v, r = .inl v ∧ mThere h G v τ) := by
  have b0 := hh.1
  refine x_of 2 rfl (Nat.le_of_ble_eq_true rfl) ?_
  show x_A y_Cr_goThere 0 [some oCr, none, none] [] (S0, G) 0 0 _
  generalize hQ : (fun (r : XRes) (τ : XM) => ∃ v, r = .inl v ∧ mThere h G v τ) = Q
  have second : ∀ G', iTh h G 0 0 G' → ∀ z2, x_A y_Cr_goThere 59 [some oCr, some (xI ((0 : Nat) : Int)), z2] [] (S0, G') 0 0 Q := by
    intro G' hi z2
    refine x_up_to (P := fun m => ∀ G' z2, iTh h G m 0 G' → x_A y_Cr_goThere 59 [some oCr, some (xI (m : Int)), z2] [] (S0, G') 0 0 Q) 0 21 (Nat.zero_le _) (fun G' z2 hi => ?_) (fun m _ hm k G' z2 hi => ?_) G' z2 hi
    · refine x_iload_n d_Cr_goThere_59 rfl rfl ?_
      refine x_bipush (21) d_Cr_goThere_60 rfl ⟨by decide, by decide⟩ ?_
      refine x_icmp_ge (122) d_Cr_goThere_62 (by decide) (fun g => ?_) (fun g => ?_)
      · refine x_return d_Cr_goThere_122 rfl ?_ (Nat.zero_le _) (Nat.zero_le _)
        rw [← hQ]
        exact ⟨_, rfl, rfl, _, rfl, hi.1, hi.2.1, fun m' h1 q h2 => (hi.2.2 m' q h1 h2).1 (by omega)⟩
      · omega
    · refine x_iload_n d_Cr_goThere_59 rfl rfl ?_
      refine x_bipush (21) d_Cr_goThere_60 rfl ⟨by decide, by decide⟩ ?_
      refine x_icmp_ge (122) d_Cr_goThere_62 (by decide) (fun g => ?_) (fun g => ?_)
      · omega
      · refine x_iconst (0) d_Cr_goThere_65 rfl ⟨by decide, by decide⟩ ?_
        refine x_istore_n d_Cr_goThere_66 rfl (by decide) ?_
        dsimp only [x_st1, x_st2, x_kill, List.set, List.getElem?_cons_zero, List.getElem?_cons_succ]
        refine x_up_to (P := fun p => ∀ G', iTh h G m p G' → x_A y_Cr_goThere 67 [some oCr, some (xI (m : Int)), some (xI (p : Int))] [] (S0, G') 0 0 Q) 0 (h.2 0) (Nat.zero_le _) (fun G' hi => ?_) (fun p _ hp k2 G' hi => ?_) G' hi
        · have rr := rep_cr (i := cr_there) (by decide) r hi.1
          refine x_iload_n d_Cr_goThere_67 rfl rfl ?_
          refine x_aload_n d_Cr_goThere_68 rfl rfl ?_
          refine x_getF (kf := 0) d_Cr_goThere_69 rfl rfl rfl in_Cr f_Cr_18 ?_
          refine x_getF (kf := 0) d_Cr_goThere_72 rfl rfl rfl in_Ho f_Cr_26 ?_
          refine x_V1 d_Cr_goThere_75 e_Cr_goThere_Ta_size ⟨rfl, rfl, Nat.zero_le _, Nat.zero_le _⟩ rfl rfl rfl rfl (Nat.le_of_ble_eq_true rfl) (k_size rr 0 (by decide)) ?_
          refine x_icmp_ge (116) d_Cr_goThere_78 (by decide) (fun g2 => ?_) (fun g2 => ?_)
          · refine x_iincN d_Cr_goThere_116 rfl (by decide) (by omega) (by omega) ?_
            dsimp only [x_st1, x_st2, x_kill, List.set, List.getElem?_cons_zero, List.getElem?_cons_succ]
            refine x_goto (59) d_Cr_goThere_119 (by decide) ?_
            exact k _ _ hi.turn
          · omega
        · have rr := rep_cr (i := cr_there) (by decide) r hi.1
          have nx := hi.next hh (by omega) hp
          have cl := c_leastThere hh rr p m hp (by omega) hi.2.1
          rw [shS_same (hi.1 sm_mixed (by decide))] at cl
          have bx := hi.2.1 m p (by omega) (by omega)
          refine x_iload_n d_Cr_goThere_67 rfl rfl ?_
          refine x_aload_n d_Cr_goThere_68 rfl rfl ?_
          refine x_getF (kf := 0) d_Cr_goThere_69 rfl rfl rfl in_Cr f_Cr_18 ?_
          refine x_getF (kf := 0) d_Cr_goThere_72 rfl rfl rfl in_Ho f_Cr_26 ?_
          refine x_V1 d_Cr_goThere_75 e_Cr_goThere_Ta_size ⟨rfl, rfl, Nat.zero_le _, Nat.zero_le _⟩ rfl rfl rfl rfl (Nat.le_of_ble_eq_true rfl) (k_size rr 0 (by decide)) ?_
          refine x_icmp_ge (116) d_Cr_goThere_78 (by decide) (fun g2 => ?_) (fun g2 => ?_)
          · omega
          · refine x_aload_n d_Cr_goThere_81 rfl rfl ?_
            refine x_getF (kf := 2) d_Cr_goThere_82 rfl rfl rfl in_Cr f_Cr_9 ?_
            refine x_iload_n d_Cr_goThere_85 rfl rfl ?_
            refine x_iload_n d_Cr_goThere_86 rfl rfl ?_
            refine x_SN1 d_Cr_goThere_87 e_Cr_goThere_F_spot ⟨rfl, rfl, Nat.zero_le _, Nat.zero_le _⟩ rfl rfl (Nat.le_of_ble_eq_true rfl) (c_spot _ _ _ (by omega) (by omega)) ?_
            refine x_aload_n d_Cr_goThere_90 rfl rfl ?_
            refine x_getF (kf := 2) d_Cr_goThere_91 rfl rfl rfl in_Cr f_Cr_9 ?_
            refine x_iload_n d_Cr_goThere_94 rfl rfl ?_
            refine x_iload_n d_Cr_goThere_95 rfl rfl ?_
            refine x_SN1 d_Cr_goThere_96 e_Cr_goThere_F_spot ⟨rfl, rfl, Nat.zero_le _, Nat.zero_le _⟩ rfl rfl (Nat.le_of_ble_eq_true rfl) (c_spot _ _ _ (by omega) (by omega)) ?_
            refine x_ialdN ((8 * m + p)) d_Cr_goThere_99 rfl (by omega) (by omega) ?_
            refine x_aload_n d_Cr_goThere_100 rfl rfl ?_
            refine x_iload_n d_Cr_goThere_101 rfl rfl ?_
            refine x_iload_n d_Cr_goThere_102 rfl rfl ?_
            refine x_V1 d_Cr_goThere_103 e_Cr_goThere_Cr_leastThere ⟨rfl, rfl, Nat.zero_le _, Nat.zero_le _⟩ rfl rfl rfl rfl (Nat.le_of_ble_eq_true rfl) (cl) ?_
            refine x_S1 d_Cr_goThere_106 e_Cr_goThere_JM_min ⟨rfl, rfl, Nat.zero_le _, Nat.zero_le _⟩ rfl rfl (Nat.le_of_ble_eq_true rfl) (s_min _ _ _) ?_
            refine x_iastN ((8 * m + p)) d_Cr_goThere_109 rfl (by omega) (by omega) ?_
            refine x_iincN d_Cr_goThere_110 rfl (by decide) (by omega) (by omega) ?_
            dsimp only [x_st1, x_st2, x_kill, List.set, List.getElem?_cons_zero, List.getElem?_cons_succ]
            refine x_goto (67) d_Cr_goThere_113 (by decide) ?_
            exact k2 _ nx
  refine x_aload_n d_Cr_goThere_0 rfl rfl ?_
  refine x_getF (kf := 2) d_Cr_goThere_1 rfl rfl rfl in_Cr f_Cr_9 ?_
  refine x_ldc (1000000) d_Cr_goThere_4 k_Cr_48 ⟨by decide, by decide⟩ ?_
  refine x_S0 d_Cr_goThere_6 e_Cr_goThere_JA_fill ⟨rfl, rfl, Nat.zero_le _, Nat.zero_le _⟩ rfl rfl (Nat.le_of_ble_eq_true rfl) (c_fill S0_there (by decide) _) ?_
  refine x_iconst (0) d_Cr_goThere_9 rfl ⟨by decide, by decide⟩ ?_
  refine x_istore_n d_Cr_goThere_10 rfl (by decide) ?_
  dsimp only [x_st1, x_st2, x_kill, List.set, List.getElem?_cons_zero, List.getElem?_cons_succ]
  refine x_up_to (P := fun p => ∀ G', (∀ i, i ≠ cr_there → G' i = G i) ∧ (∀ m' q, m' ≤ 20 → q < 8 → g8 G' cr_there m' q = if m' = 0 ∧ q < p ∧ 0 < h.1 0 q 1 then 0 else 1000000) → x_A y_Cr_goThere 11 [some oCr, some (xI (p : Int)), none] [] (S0, G') 0 0 Q) 0 (h.2 0) (Nat.zero_le _) (fun G' hi => ?_) (fun p _ hp k G' hi => ?_) _ ⟨fun i hi => ?_, fun m' q h1 h2 => ?_⟩
  · have rr := rep_cr (i := cr_there) (by decide) r hi.1
    refine x_iload_n d_Cr_goThere_11 rfl rfl ?_
    refine x_aload_n d_Cr_goThere_12 rfl rfl ?_
    refine x_getF (kf := 0) d_Cr_goThere_13 rfl rfl rfl in_Cr f_Cr_18 ?_
    refine x_getF (kf := 0) d_Cr_goThere_16 rfl rfl rfl in_Ho f_Cr_26 ?_
    refine x_V1 d_Cr_goThere_19 e_Cr_goThere_Ta_size ⟨rfl, rfl, Nat.zero_le _, Nat.zero_le _⟩ rfl rfl rfl rfl (Nat.le_of_ble_eq_true rfl) (k_size rr 0 (by decide)) ?_
    refine x_icmp_ge (57) d_Cr_goThere_22 (by decide) (fun g => ?_) (fun g => ?_)
    · refine x_iconst (0) d_Cr_goThere_57 rfl ⟨by decide, by decide⟩ ?_
      refine x_istore_n d_Cr_goThere_58 rfl (by decide) ?_
      dsimp only [x_st1, x_st2, x_kill, List.set, List.getElem?_cons_zero, List.getElem?_cons_succ]
      refine second _ ⟨hi.1, fun m' q h1 h2 => ?_, fun m' q h1 h2 => ⟨fun h3 => by omega, fun h3 => ?_⟩⟩ _
      · rw [hi.2 m' q h1 h2]
        split <;> omega
      · rw [hi.2 m' q h1 (by omega)]
        unfold t_in
        by_cases c : m' = 0 ∧ 0 < h.1 0 q 1
        · rw [if_pos c, if_pos ⟨c.1, h2, c.2⟩]
        · rw [if_neg c, if_neg (fun z => c ⟨z.1, z.2.2⟩)]
    · omega
  · have rr := rep_cr (i := cr_there) (by decide) r hi.1
    refine x_iload_n d_Cr_goThere_11 rfl rfl ?_
    refine x_aload_n d_Cr_goThere_12 rfl rfl ?_
    refine x_getF (kf := 0) d_Cr_goThere_13 rfl rfl rfl in_Cr f_Cr_18 ?_
    refine x_getF (kf := 0) d_Cr_goThere_16 rfl rfl rfl in_Ho f_Cr_26 ?_
    refine x_V1 d_Cr_goThere_19 e_Cr_goThere_Ta_size ⟨rfl, rfl, Nat.zero_le _, Nat.zero_le _⟩ rfl rfl rfl rfl (Nat.le_of_ble_eq_true rfl) (k_size rr 0 (by decide)) ?_
    refine x_icmp_ge (57) d_Cr_goThere_22 (by decide) (fun g => ?_) (fun g => ?_)
    · omega
    · refine x_aload_n d_Cr_goThere_25 rfl rfl ?_
      refine x_getF (kf := 0) d_Cr_goThere_26 rfl rfl rfl in_Cr f_Cr_18 ?_
      refine x_getF (kf := 0) d_Cr_goThere_29 rfl rfl rfl in_Ho f_Cr_26 ?_
      refine x_iload_n d_Cr_goThere_32 rfl rfl ?_
      refine x_iconst (1) d_Cr_goThere_33 rfl ⟨by decide, by decide⟩ ?_
      refine x_V1 d_Cr_goThere_34 e_Cr_goThere_Ta_at ⟨rfl, rfl, Nat.zero_le _, Nat.zero_le _⟩ rfl rfl rfl rfl (Nat.le_of_ble_eq_true rfl) (k_at hh rr 0 p 1 (by decide) hp (by decide) rfl rfl) ?_
      refine x_if_le (51) d_Cr_goThere_37 (by decide) (fun g2 => ?_) (fun g2 => ?_)
      · refine x_iincN d_Cr_goThere_51 rfl (by decide) (by omega) (by omega) ?_
        dsimp only [x_st1, x_st2, x_kill, List.set, List.getElem?_cons_zero, List.getElem?_cons_succ]
        refine x_goto (11) d_Cr_goThere_54 (by decide) ?_
        refine k _ ⟨hi.1, fun m' q h1 h2 => ?_⟩
        rw [hi.2 m' q h1 h2]
        by_cases c : m' = 0 ∧ q < p ∧ 0 < h.1 0 q 1
        · rw [if_pos c, if_pos ⟨c.1, by omega, c.2.2⟩]
        · rw [if_neg c, if_neg (fun z => c ⟨z.1, by
            by_cases e : q = p
            · subst e; omega
            · omega, z.2.2⟩)]
      · refine x_aload_n d_Cr_goThere_40 rfl rfl ?_
        refine x_getF (kf := 2) d_Cr_goThere_41 rfl rfl rfl in_Cr f_Cr_9 ?_
        refine x_iload_n d_Cr_goThere_44 rfl rfl ?_
        refine x_iconst (0) d_Cr_goThere_45 rfl ⟨by decide, by decide⟩ ?_
        refine x_SN1 d_Cr_goThere_46 e_Cr_goThere_F_spot ⟨rfl, rfl, Nat.zero_le _, Nat.zero_le _⟩ rfl rfl (Nat.le_of_ble_eq_true rfl) (c_spot _ _ _ (by omega) (by omega)) ?_
        refine x_iconst (0) d_Cr_goThere_49 rfl ⟨by decide, by decide⟩ ?_
        refine x_iastN ((8 * 0 + p)) d_Cr_goThere_50 rfl (by omega) (by omega) ?_
        refine x_iincN d_Cr_goThere_51 rfl (by decide) (by omega) (by omega) ?_
        dsimp only [x_st1, x_st2, x_kill, List.set, List.getElem?_cons_zero, List.getElem?_cons_succ]
        refine x_goto (11) d_Cr_goThere_54 (by decide) ?_
        refine k _ ⟨fun i hi' => by rw [up_cell hi']; exact hi.1 i hi', fun m' q h1 h2 => ?_⟩
        rw [g8_up _ _ 0 p _ (by omega) m' q h2, hi.2 m' q h1 h2]
        by_cases c : m' = 0 ∧ q = p
        · obtain ⟨rfl, rfl⟩ := c
          rw [if_pos ⟨rfl, rfl⟩, if_pos ⟨rfl, by omega, by omega⟩]
        · rw [if_neg c]
          by_cases c : m' = 0 ∧ q < p ∧ 0 < h.1 0 q 1
          · rw [if_pos c, if_pos ⟨c.1, by omega, c.2.2⟩]
          · rw [if_neg c, if_neg (fun z => c ⟨z.1, by omega, z.2.2⟩)]
  · unfold fillG
    funext b
    rw [if_neg (fun z => hi z.1)]
  · unfold g8 fillG
    rw [if_pos ⟨rfl, by omega⟩, if_neg (by omega)]
/-! back -/
def iBk (h : HH) (G : Nat → Nat → Int) (m p : Nat) (G' : Nat → Nat → Int) : Prop :=
  (∀ i, i ≠ cr_back → G' i = G i) ∧ (∀ m' q, m' ≤ 20 → q < 8 → 0 ≤ g8 G' cr_back m' q ∧ g8 G' cr_back m' q ≤ 1000000) ∧
  ∀ m' q, m' ≤ 20 → q < h.2 0 → (m < m' ∨ (m' = m ∧ q < p)) → g8 G' cr_back m' q = if 0 < h.1 0 q 1 then 0 else min (lB h (shS h G) (g8 G' cr_back) m' q (h.2 1)) 1000000
theorem iBk.next (hh : Hwf h) {m p : Nat} {G' : Nat → Nat → Int} (hm : m ≤ 20) (hp : p < h.2 0) (x : iBk h G m p G') {z : Int} (hz : z = if 0 < h.1 0 p 1 then 0 else min (lB h (shS h G) (g8 G' cr_back) m p (h.2 1)) 1000000) : iBk h G m (p + 1) (up G' cr_back (8 * m + p) z) := by
  obtain ⟨x1, x2, x3⟩ := x
  have b0 := hh.1
  have bl := lB_bd hh hp hm x2 (n := h.2 1) (sh := shS h G) (Nat.le_refl _)
  have eu := fun z => g8_up G' cr_back m p z (by omega)
  have low : ∀ z m' q, m ≤ m' → q < h.2 0 → lB h (shS h G) (g8 (up G' cr_back (8 * m + p) z) cr_back) m' q (h.2 1) = lB h (shS h G) (g8 G' cr_back) m' q (h.2 1) := fun z m' q h1 h2 => lB_cg hh h2 (fun a c h3 h4 h5 => by rw [eu z a c (by omega), if_neg (by omega)]) (Nat.le_refl _)
  refine ⟨fun i hi => by rw [up_cell hi]; exact x1 i hi, fun m' q h1 h2 => ?_, fun m' q h1 h2 h3 => ?_⟩
  · rw [eu _ m' q h2]
    split
    · rw [hz]; split <;> omega
    · exact x2 m' q h1 h2
  · rw [eu _ m' q (by omega), low _ m' q (by omega) h2]
    by_cases e : m' = m ∧ q = p
    · obtain ⟨rfl, rfl⟩ := e
      rw [if_pos ⟨rfl, rfl⟩, hz]
    · rw [if_neg e]
      exact x3 m' q h1 h2 (by omega)
def mBack (h : HH) (G : Nat → Nat → Int) : Option XV → XM → Prop := fun v τ => v = none ∧ ∃ G', τ = (S0, G') ∧ (∀ i, i ≠ cr_back → G' i = G i) ∧ (∀ m' q, m' ≤ 20 → q < 8 → 0 ≤ g8 G' cr_back m' q ∧ g8 G' cr_back m' q ≤ 1000000) ∧ isBk h (shS h G) (g8 G' cr_back)
theorem c_comeBack (hh : Hwf h) (r : fRep h G) (e : ∀ m' q, m' ≤ 20 → q < 8 → 0 ≤ g8 G cr_back m' q ∧ g8 G cr_back m' q ≤ 1000000) : x_M y_Cr_comeBack [oCr] (S0, G) (fun r τ => ∃ v, r = .inl v ∧ mBack h G v τ) := by
  have b0 := hh.1
  refine x_of 3 rfl (Nat.le_of_ble_eq_true rfl) ?_
  show x_A y_Cr_comeBack 0 [some oCr, none, none, none] [] (S0, G) 0 0 _
  generalize hQ : (fun (r : XRes) (τ : XM) => ∃ v, r = .inl v ∧ mBack h G v τ) = Q
  refine x_bipush (20) d_Cr_comeBack_0 rfl ⟨by decide, by decide⟩ ?_
  refine x_istore_n d_Cr_comeBack_2 rfl (by decide) ?_
  dsimp only [x_st1, x_st2, x_kill, List.set, List.getElem?_cons_zero, List.getElem?_cons_succ]
  refine x_up_to (P := fun n => ∀ G' z2 z3, n ≤ 21 → iBk h G (20 - n) (if n = 21 then h.2 0 else 0) G' → x_A y_Cr_comeBack 3 [some oCr, some (xI (20 - (n : Int))), z2, z3] [] (S0, G') 0 0 Q) 0 21 (Nat.zero_le _) (fun G' z2 z3 _ hi => ?_) (fun n _ hn k G' z2 z3 _ hi => ?_) G none none (by omega) ⟨fun i _ => rfl, e, fun m' q h1 h2 h3 => ?_⟩
  · refine x_iload_n d_Cr_comeBack_3 rfl rfl ?_
    refine x_if_lt (80) d_Cr_comeBack_4 (by decide) (fun g => ?_) (fun g => ?_)
    · refine x_return d_Cr_comeBack_80 rfl ?_ (Nat.zero_le _) (Nat.zero_le _)
      rw [← hQ]
      refine ⟨_, rfl, rfl, _, rfl, hi.1, hi.2.1, fun m' h1 q h2 => hi.2.2 m' q h1 h2 ?_⟩
      rw [if_pos rfl]
      omega
    · omega
  · rw [if_neg (by omega)] at hi
    obtain ⟨m, hm⟩ : ∃ m : Nat, m + n = 20 := ⟨20 - n, by omega⟩
    have em : (20 - (n : Int)) = (m : Int) := by omega
    have em2 : 20 - n = m := by omega
    rw [em2] at hi
    rw [em]
    have k' : ∀ G' z2 z3, iBk h G m (h.2 0) G' → x_A y_Cr_comeBack 3 [some oCr, some (xI ((m : Int) + -1)), z2, z3] [] (S0, G') 0 0 Q := fun G' z2 z3 hi => by
      have := k G' z2 z3 (by omega) (by
        by_cases e : n + 1 = 21
        · rw [if_pos e]
          have e1 : m = 0 := by omega
          have e2 : 20 - (n + 1) = 0 := by omega
          rw [e2]; rw [e1] at hi; exact hi
        · rw [if_neg e]
          exact ⟨hi.1, hi.2.1, fun m' q h1 h2 h3 => hi.2.2 m' q h1 h2 (by omega)⟩)
      rw [show (20 - ((n + 1 : Nat) : Int)) = (m : Int) + -1 by omega] at this
      exact this
    refine x_iload_n d_Cr_comeBack_3 rfl rfl ?_
    refine x_if_lt (80) d_Cr_comeBack_4 (by decide) (fun g => ?_) (fun g => ?_)
    · omega
    · refine x_iconst (0) d_Cr_comeBack_7 rfl ⟨by decide, by decide⟩ ?_
      refine x_istore_n d_Cr_comeBack_8 rfl (by decide) ?_
      dsimp only [x_st1, x_st2, x_kill, List.set, List.getElem?_cons_zero, List.getElem?_cons_succ]
      refine x_up_to (P := fun p => ∀ G' z3, iBk h G m p G' → x_A y_Cr_comeBack 9 [some oCr, some (xI (m : Int)), some (xI (p : Int)), z3] [] (S0, G') 0 0 Q) 0 (h.2 0) (Nat.zero_le _) (fun G' z3 hi => ?_) (fun p _ hp k2 G' z3 hi => ?_) G' z3 hi
      · have rr := rep_cr (i := cr_back) (by decide) r hi.1
        refine x_iload_n d_Cr_comeBack_9 rfl rfl ?_
        refine x_aload_n d_Cr_comeBack_10 rfl rfl ?_
        refine x_getF (kf := 0) d_Cr_comeBack_11 rfl rfl rfl in_Cr f_Cr_18 ?_
        refine x_getF (kf := 0) d_Cr_comeBack_14 rfl rfl rfl in_Ho f_Cr_26 ?_
        refine x_V1 d_Cr_comeBack_17 e_Cr_comeBack_Ta_size ⟨rfl, rfl, Nat.zero_le _, Nat.zero_le _⟩ rfl rfl rfl rfl (Nat.le_of_ble_eq_true rfl) (k_size rr 0 (by decide)) ?_
        refine x_icmp_ge (74) d_Cr_comeBack_20 (by decide) (fun g2 => ?_) (fun g2 => ?_)
        · refine x_iincN d_Cr_comeBack_74 rfl (by decide) (by omega) (by omega) ?_
          dsimp only [x_st1, x_st2, x_kill, List.set, List.getElem?_cons_zero, List.getElem?_cons_succ]
          refine x_goto (3) d_Cr_comeBack_77 (by decide) ?_
          exact k' _ _ _ hi
        · omega
      · have rr := rep_cr (i := cr_back) (by decide) r hi.1
        have cl := c_leastBack hh rr p m hp (by omega) hi.2.1
        rw [shS_same (hi.1 sm_mixed (by decide))] at cl
        refine x_iload_n d_Cr_comeBack_9 rfl rfl ?_
        refine x_aload_n d_Cr_comeBack_10 rfl rfl ?_
        refine x_getF (kf := 0) d_Cr_comeBack_11 rfl rfl rfl in_Cr f_Cr_18 ?_
        refine x_getF (kf := 0) d_Cr_comeBack_14 rfl rfl rfl in_Ho f_Cr_26 ?_
        refine x_V1 d_Cr_comeBack_17 e_Cr_comeBack_Ta_size ⟨rfl, rfl, Nat.zero_le _, Nat.zero_le _⟩ rfl rfl rfl rfl (Nat.le_of_ble_eq_true rfl) (k_size rr 0 (by decide)) ?_
        refine x_icmp_ge (74) d_Cr_comeBack_20 (by decide) (fun g2 => ?_) (fun g2 => ?_)
        · omega
        · refine x_aload_n d_Cr_comeBack_23 rfl rfl ?_
          refine x_getF (kf := 0) d_Cr_comeBack_24 rfl rfl rfl in_Cr f_Cr_18 ?_
          refine x_getF (kf := 0) d_Cr_comeBack_27 rfl rfl rfl in_Ho f_Cr_26 ?_
          refine x_iload_n d_Cr_comeBack_30 rfl rfl ?_
          refine x_iconst (1) d_Cr_comeBack_31 rfl ⟨by decide, by decide⟩ ?_
          refine x_V1 d_Cr_comeBack_32 e_Cr_comeBack_Ta_at ⟨rfl, rfl, Nat.zero_le _, Nat.zero_le _⟩ rfl rfl rfl rfl (Nat.le_of_ble_eq_true rfl) (k_at hh rr 0 p 1 (by decide) hp (by decide) rfl rfl) ?_
          refine x_if_le (42) d_Cr_comeBack_35 (by decide) (fun g3 => ?_) (fun g3 => ?_)
          · refine x_iconst (0) d_Cr_comeBack_42 rfl ⟨by decide, by decide⟩ ?_
            refine x_istore_n d_Cr_comeBack_43 rfl (by decide) ?_
            dsimp only [x_st1, x_st2, x_kill, List.set, List.getElem?_cons_zero, List.getElem?_cons_succ]
            refine x_aload_n d_Cr_comeBack_44 rfl rfl ?_
            refine x_getF (kf := 3) d_Cr_comeBack_45 rfl rfl rfl in_Cr f_Cr_15 ?_
            refine x_iload_n d_Cr_comeBack_48 rfl rfl ?_
            refine x_iload_n d_Cr_comeBack_49 rfl rfl ?_
            refine x_SN1 d_Cr_comeBack_50 e_Cr_comeBack_F_spot ⟨rfl, rfl, Nat.zero_le _, Nat.zero_le _⟩ rfl rfl (Nat.le_of_ble_eq_true rfl) (c_spot _ _ _ (by omega) (by omega)) ?_
            refine x_iload_n d_Cr_comeBack_53 rfl rfl ?_
            refine x_if_eq (61) d_Cr_comeBack_54 (by decide) (fun g4 => ?_) (fun g4 => ?_)
            · refine x_aload_n d_Cr_comeBack_61 rfl rfl ?_
              refine x_iload_n d_Cr_comeBack_62 rfl rfl ?_
              refine x_iload_n d_Cr_comeBack_63 rfl rfl ?_
              refine x_V1 d_Cr_comeBack_64 e_Cr_comeBack_Cr_leastBack ⟨rfl, rfl, Nat.zero_le _, Nat.zero_le _⟩ rfl rfl rfl rfl (Nat.le_of_ble_eq_true rfl) (cl) ?_
              refine x_iastN ((8 * m + p)) d_Cr_comeBack_67 rfl (by omega) (by omega) ?_
              refine x_iincN d_Cr_comeBack_68 rfl (by decide) (by omega) (by omega) ?_
              dsimp only [x_st1, x_st2, x_kill, List.set, List.getElem?_cons_zero, List.getElem?_cons_succ]
              refine x_goto (9) d_Cr_comeBack_71 (by decide) ?_
              exact k2 _ _ (hi.next hh (by omega) hp (by rw [if_neg (by omega)]))
            · exact absurd rfl g4
          · refine x_iconst (1) d_Cr_comeBack_38 rfl ⟨by decide, by decide⟩ ?_
            refine x_goto (43) d_Cr_comeBack_39 (by decide) ?_
            refine x_istore_n d_Cr_comeBack_43 rfl (by decide) ?_
            dsimp only [x_st1, x_st2, x_kill, List.set, List.getElem?_cons_zero, List.getElem?_cons_succ]
            refine x_aload_n d_Cr_comeBack_44 rfl rfl ?_
            refine x_getF (kf := 3) d_Cr_comeBack_45 rfl rfl rfl in_Cr f_Cr_15 ?_
            refine x_iload_n d_Cr_comeBack_48 rfl rfl ?_
            refine x_iload_n d_Cr_comeBack_49 rfl rfl ?_
            refine x_SN1 d_Cr_comeBack_50 e_Cr_comeBack_F_spot ⟨rfl, rfl, Nat.zero_le _, Nat.zero_le _⟩ rfl rfl (Nat.le_of_ble_eq_true rfl) (c_spot _ _ _ (by omega) (by omega)) ?_
            refine x_iload_n d_Cr_comeBack_53 rfl rfl ?_
            refine x_if_eq (61) d_Cr_comeBack_54 (by decide) (fun g4 => ?_) (fun g4 => ?_)
            · cases g4
            · refine x_iconst (0) d_Cr_comeBack_57 rfl ⟨by decide, by decide⟩ ?_
              refine x_goto (67) d_Cr_comeBack_58 (by decide) ?_
              refine x_iastN ((8 * m + p)) d_Cr_comeBack_67 rfl (by omega) (by omega) ?_
              refine x_iincN d_Cr_comeBack_68 rfl (by decide) (by omega) (by omega) ?_
              dsimp only [x_st1, x_st2, x_kill, List.set, List.getElem?_cons_zero, List.getElem?_cons_succ]
              refine x_goto (9) d_Cr_comeBack_71 (by decide) ?_
              exact k2 _ _ (hi.next hh (by omega) hp (by rw [if_pos (by omega)]))
  · rw [if_neg (by omega)] at h3
    omega
/-! the first minute -/
def isFst (f : Nat → Prop) (V : Int) : Prop := (V = -1 ∧ ∀ m, m ≤ 20 → ¬ f m) ∨ ∃ m : Nat, V = m ∧ m ≤ 20 ∧ f m ∧ ∀ m', m' < m → ¬ f m'
theorem isFst.uniq {f : Nat → Prop} {a b : Int} (x : isFst f a) (y : isFst f b) : a = b := by
  rcases x with ⟨x1, x2⟩ | ⟨m, x1, x2, x3, x4⟩
  · rcases y with ⟨y1, y2⟩ | ⟨t, y1, y2, y3, y4⟩
    · omega
    · exact absurd y3 (x2 t y2)
  · rcases y with ⟨y1, y2⟩ | ⟨t, y1, y2, y3, y4⟩
    · exact absurd x3 (y2 m x2)
    · have p : ¬ t < m := fun z => x4 t z y3
      have q : ¬ m < t := fun z => y4 m z x3
      omega
def mCrew (h : HH) (p : Nat) (air : Int) (G : Nat → Nat → Int) : Option XV → XM → Prop := fun v τ => ∃ V G' th bk, v = some (xI V) ∧ τ = (S0, G') ∧ (∀ i, i ≠ cr_there → i ≠ cr_back → G' i = G i) ∧ (∀ m' q, m' ≤ 20 → q < 8 → 0 ≤ g8 G' cr_back m' q ∧ g8 G' cr_back m' q ≤ 1000000) ∧ (∀ m' q, m' ≤ 20 → q < h.2 0 → 0 ≤ th m' q ∧ th m' q ≤ 1000000 ∧ 0 ≤ bk m' q ∧ bk m' q ≤ 1000000) ∧ isTh h (shS h G) th ∧ isBk h (shS h G) bk ∧ isFst (fun m => th m p + bk m p ≤ air) V
theorem c_firstReach (hh : Hwf h) (r : fRep h G) (p : Nat) (hp : p < h.2 0) (air : Int) (e : ∀ m' q, m' ≤ 20 → q < 8 → 0 ≤ g8 G cr_back m' q ∧ g8 G cr_back m' q ≤ 1000000) : x_M y_Cr_firstReach [oCr, xI (p : Int), xI air] (S0, G) (fun r τ => ∃ v, r = .inl v ∧ mCrew h p air G v τ) := by
  have b0 := hh.1
  refine x_of 1 rfl (Nat.le_of_ble_eq_true rfl) ?_
  show x_A y_Cr_firstReach 0 [some oCr, some (xI (p : Int)), some (xI air), none] [] (S0, G) 0 0 _
  generalize hQ : (fun (r : XRes) (τ : XM) => ∃ v, r = .inl v ∧ mCrew h p air G v τ) = Q
  refine x_aload_n d_Cr_firstReach_0 rfl rfl ?_
  refine x_getF (kf := 0) d_Cr_firstReach_1 rfl rfl rfl in_Cr f_Cr_18 ?_
  refine x_getF (kf := 0) d_Cr_firstReach_4 rfl rfl rfl in_Ho f_Cr_26 ?_
  refine x_iload_n d_Cr_firstReach_7 rfl rfl ?_
  refine x_V1 d_Cr_firstReach_8 e_Cr_firstReach_Ta_has ⟨rfl, rfl, Nat.zero_le _, Nat.zero_le _⟩ rfl rfl rfl rfl (Nat.le_of_ble_eq_true rfl) (k_has r 0 (by decide) (p : Int)) ?_
  rw [decide_eq_true (show 0 ≤ (p : Int) ∧ (p : Int) < h.2 0 from by omega)]
  refine x_if_ne (16) d_Cr_firstReach_11 (by decide) (fun g => ?_) (fun g => ?_)
  · refine x_aload_n d_Cr_firstReach_16 rfl rfl ?_
    refine x_VQ d_Cr_firstReach_17 e_Cr_firstReach_Cr_goThere ⟨rfl, rfl, Nat.zero_le _, Nat.zero_le _⟩ rfl rfl rfl rfl (Nat.le_of_ble_eq_true rfl) (c_goThere hh r) (fun v τ H => ?_)
    obtain ⟨rfl, G1, rfl, f1, t1, t2⟩ := H
    have r1 := rep_cr (i := cr_there) (by decide) r f1
    have e1 : g8 G1 cr_back = g8 G cr_back := by unfold g8; rw [f1 cr_back (by decide)]
    have cb := c_comeBack hh r1 (by rw [e1]; exact e)
    show x_A y_Cr_firstReach 20 [some oCr, some (xI (p : Int)), some (xI air), none] [] (S0, G1) 0 0 Q
    refine x_aload_n d_Cr_firstReach_20 rfl rfl ?_
    refine x_VQ d_Cr_firstReach_21 e_Cr_firstReach_Cr_comeBack ⟨rfl, rfl, Nat.zero_le _, Nat.zero_le _⟩ rfl rfl rfl rfl (Nat.le_of_ble_eq_true rfl) (cb) (fun v τ H => ?_)
    obtain ⟨rfl, G2, rfl, f2, b1, b2⟩ := H
    rw [shS_same (f1 sm_mixed (by decide))] at b2
    have et : G2 cr_there = G1 cr_there := f2 cr_there (by decide)
    have et8 : g8 G2 cr_there = g8 G1 cr_there := by unfold g8; rw [et]
    rw [← et8] at t1 t2
    show x_A y_Cr_firstReach 24 [some oCr, some (xI (p : Int)), some (xI air), none] [] (S0, G2) 0 0 Q
    refine x_iconst (0) d_Cr_firstReach_24 rfl ⟨by decide, by decide⟩ ?_
    refine x_istore_n d_Cr_firstReach_25 rfl (by decide) ?_
    dsimp only [x_st1, x_st2, x_kill, List.set, List.getElem?_cons_zero, List.getElem?_cons_succ]
    have fin : ∀ V, isFst (fun m => g8 G2 cr_there m p + g8 G2 cr_back m p ≤ air) V → Q (.inl (some (xI V))) (S0, G2) := fun V hV => by
      rw [← hQ]
      exact ⟨_, rfl, V, G2, _, _, rfl, rfl, fun i h1 h2 => (f2 i h2).trans (f1 i h1), b1, fun m' q h1 h2 => ⟨(t1 m' q h1 (by omega)).1, (t1 m' q h1 (by omega)).2, (b1 m' q h1 (by omega)).1, (b1 m' q h1 (by omega)).2⟩, t2, b2, hV⟩
    refine x_up_to (P := fun m => (∀ m', m' < m → ¬ (g8 G2 cr_there m' p + g8 G2 cr_back m' p ≤ air)) → x_A y_Cr_firstReach 26 [some oCr, some (xI (p : Int)), some (xI air), some (xI (m : Int))] [] (S0, G2) 0 0 Q) 0 21 (Nat.zero_le _) (fun hn => ?_) (fun m _ hm k hn => ?_) (fun m' hm' => by omega)
    · refine x_iload_n d_Cr_firstReach_26 rfl rfl ?_
      refine x_bipush (21) d_Cr_firstReach_27 rfl ⟨by decide, by decide⟩ ?_
      refine x_icmp_ge (65) d_Cr_firstReach_29 (by decide) (fun g => ?_) (fun g => ?_)
      · refine x_iconst (-1) d_Cr_firstReach_65 rfl ⟨by decide, by decide⟩ ?_
        refine x_ireturn d_Cr_firstReach_66 rfl ?_ (Nat.zero_le _) (Nat.zero_le _)
        exact fin _ (Or.inl ⟨rfl, fun m' h1 => hn m' (by omega)⟩)
      · omega
    · have x1 := t1 m p (by omega) (by omega)
      have x2 := b1 m p (by omega) (by omega)
      have fin' := fin (m : Int)
      have k' : ¬ (g8 G2 cr_there m p + g8 G2 cr_back m p ≤ air) → _ := fun z => k (fun m' hm' => by
        by_cases e : m' = m
        · subst e; exact z
        · exact hn m' (by omega))
      have fin2 : g8 G2 cr_there m p + g8 G2 cr_back m p ≤ air → _ := fun z => fin' (Or.inr ⟨m, rfl, by omega, z, fun m' hm' => hn m' hm'⟩)
      unfold g8 at x1 x2 k' fin2
      refine x_iload_n d_Cr_firstReach_26 rfl rfl ?_
      refine x_bipush (21) d_Cr_firstReach_27 rfl ⟨by decide, by decide⟩ ?_
      refine x_icmp_ge (65) d_Cr_firstReach_29 (by decide) (fun g => ?_) (fun g => ?_)
      · omega
      · refine x_aload_n d_Cr_firstReach_32 rfl rfl ?_
        refine x_getF (kf := 2) d_Cr_firstReach_33 rfl rfl rfl in_Cr f_Cr_9 ?_
        refine x_iload_n d_Cr_firstReach_36 rfl rfl ?_
        refine x_iload_n d_Cr_firstReach_37 rfl rfl ?_
        refine x_SN1 d_Cr_firstReach_38 e_Cr_firstReach_F_spot ⟨rfl, rfl, Nat.zero_le _, Nat.zero_le _⟩ rfl rfl (Nat.le_of_ble_eq_true rfl) (c_spot _ _ _ (by omega) (by omega)) ?_
        refine x_ialdN ((8 * m + p)) d_Cr_firstReach_41 rfl (by omega) (by omega) ?_
        refine x_aload_n d_Cr_firstReach_42 rfl rfl ?_
        refine x_getF (kf := 3) d_Cr_firstReach_43 rfl rfl rfl in_Cr f_Cr_15 ?_
        refine x_iload_n d_Cr_firstReach_46 rfl rfl ?_
        refine x_iload_n d_Cr_firstReach_47 rfl rfl ?_
        refine x_SN1 d_Cr_firstReach_48 e_Cr_firstReach_F_spot ⟨rfl, rfl, Nat.zero_le _, Nat.zero_le _⟩ rfl rfl (Nat.le_of_ble_eq_true rfl) (c_spot _ _ _ (by omega) (by omega)) ?_
        refine x_ialdN ((8 * m + p)) d_Cr_firstReach_51 rfl (by omega) (by omega) ?_
        refine x_iaddN d_Cr_firstReach_52 (by omega) (by omega) ?_
        refine x_iload_n d_Cr_firstReach_53 rfl rfl ?_
        refine x_icmp_gt (59) d_Cr_firstReach_54 (by decide) (fun g2 => ?_) (fun g2 => ?_)
        · refine x_iincN d_Cr_firstReach_59 rfl (by decide) (by omega) (by omega) ?_
          dsimp only [x_st1, x_st2, x_kill, List.set, List.getElem?_cons_zero, List.getElem?_cons_succ]
          refine x_goto (26) d_Cr_firstReach_62 (by decide) ?_
          exact k' (by omega)
        · refine x_iload_n d_Cr_firstReach_57 rfl rfl ?_
          refine x_ireturn d_Cr_firstReach_58 rfl ?_ (Nat.zero_le _) (Nat.zero_le _)
          exact fin2 (by omega)
  · exact absurd (show b2i true = 0 from by omega) (by decide)
end CCr2
