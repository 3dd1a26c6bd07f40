/-! the class: a person alone -/
abbrev oPe : XV := xR (some o_Pe)
def p3 (G : Nat → Nat → Int) (i : Nat) : T3 := (G pe_doses i, G pe_outs i, G pe_deeds i)
def pF (i : Nat) (G G' : Nat → Nat → Int) : Prop := (∀ z, z ≠ pe_doses → z ≠ pe_outs → z ≠ pe_deeds → G' z = G z) ∧ ∀ j, j ≠ i → p3 G' j = p3 G j
theorem pF.rf (i : Nat) (G : Nat → Nat → Int) : pF i G G := ⟨fun _ _ _ _ => rfl, fun _ _ => rfl⟩
theorem pF.tr {i : Nat} {G1 G2 G3 : Nat → Nat → Int} (a : pF i G1 G2) (b : pF i G2 G3) : pF i G1 G3 := ⟨fun z h1 h2 h3 => (b.1 z h1 h2 h3).trans (a.1 z h1 h2 h3), fun j hj => (b.2 j hj).trans (a.2 j hj)⟩
theorem pF.put (i : Nat) (G : Nat → Nat → Int) (a b c : Int) : pF i G (up (up (up G pe_doses i a) pe_outs i b) pe_deeds i c) ∧ p3 (up (up (up G pe_doses i a) pe_outs i b) pe_deeds i c) i = (a, b, c) := by
  have d1 : pe_doses ≠ pe_outs := by decide
  have d2 : pe_doses ≠ pe_deeds := by decide
  have d3 : pe_outs ≠ pe_deeds := by decide
  refine ⟨⟨fun z h1 h2 h3 => by rw [up_cell h3, up_cell h2, up_cell h1], fun j hj => ?_⟩, ?_⟩
  · unfold p3
    rw [up_cell d2, up_cell d1, up_ne hj, up_cell d3, up_ne hj, up_cell d1.symm, up_ne hj, up_cell d3.symm, up_cell d2.symm]
  · unfold p3
    rw [up_cell d2, up_cell d1, up_same, up_cell d3, up_same, up_same]
theorem pF.one (i : Nat) (G : Nat → Nat → Int) (a : Int) : pF i G (up G pe_doses i a) ∧ p3 (up G pe_doses i a) i = (a, (p3 G i).2) := by
  have d1 : pe_outs ≠ pe_doses := by decide
  have d2 : pe_deeds ≠ pe_doses := by decide
  refine ⟨⟨fun z h1 h2 h3 => by rw [up_cell h1], fun j hj => ?_⟩, ?_⟩
  · unfold p3
    rw [up_ne hj, up_cell d1, up_cell d2]
  · unfold p3
    rw [up_same, up_cell d1, up_cell d2]
def p_try (z k : T3) (deed : Int) : T3 := if k.1 ≠ -1 ∧ (z.1 = -1 ∨ k.1 < z.1 ∨ (k.1 = z.1 ∧ k.2.1 < z.2.1)) then (k.1, k.2.1, deed) else z
def p_do (G : Nat → Nat → Int) (i : Nat) (q t deed : Int) : T3 := if 0 ≤ q ∧ q < 8 ∧ 0 ≤ t ∧ t < 21 then p_try (p3 G i) (p3 G (8 * t.toNat + q.toNat)) deed else p3 G i
def mPt (i : Nat) (z : T3) (G : Nat → Nat → Int) : Option XV → XM → Prop := fun v τ => v = none ∧ ∃ G', τ = (S0, G') ∧ pF i G G' ∧ p3 G' i = z
theorem c_isPlace (σ : XM) (a b : Int) : x_M y_Pe_isPlace [xI a, xI b] σ (x_is (.inl (some (xI (b2i (decide (0 ≤ a ∧ a < 8 ∧ 0 ≤ b ∧ b < 21)))))) σ) := by
  refine x_of 0 rfl (Nat.le_of_ble_eq_true rfl) ?_
  show x_A y_Pe_isPlace 0 [some (xI a), some (xI b)] [] σ 0 0 _
  have no : ¬ (0 ≤ a ∧ a < 8 ∧ 0 ≤ b ∧ b < 21) → x_A y_Pe_isPlace 24 [some (xI a), some (xI b)] [] σ 0 0 (x_is (.inl (some (xI (b2i (decide (0 ≤ a ∧ a < 8 ∧ 0 ≤ b ∧ b < 21)))))) σ) := by
    intro z
    refine x_iconst (0) d_Pe_isPlace_24 rfl ⟨by decide, by decide⟩ ?_
    refine x_zreturn d_Pe_isPlace_25 rfl (by first | exact Or.inl rfl | exact Or.inr rfl | (split <;> first | exact Or.inl rfl | exact Or.inr rfl) | assumption) ?_ (Nat.zero_le _) (Nat.zero_le _)
    rw [decide_eq_false z]
    exact ⟨rfl, rfl⟩
  refine x_iload_n d_Pe_isPlace_0 rfl rfl ?_
  refine x_if_lt (24) d_Pe_isPlace_1 (by decide) (fun g1 => ?_) (fun g1 => ?_)
  · exact no (by omega)
  · refine x_iload_n d_Pe_isPlace_4 rfl rfl ?_
    refine x_bipush (8) d_Pe_isPlace_5 rfl ⟨by decide, by decide⟩ ?_
    refine x_icmp_ge (24) d_Pe_isPlace_7 (by decide) (fun g2 => ?_) (fun g2 => ?_)
    · exact no (by omega)
    · refine x_iload_n d_Pe_isPlace_10 rfl rfl ?_
      refine x_if_lt (24) d_Pe_isPlace_11 (by decide) (fun g3 => ?_) (fun g3 => ?_)
      · exact no (by omega)
      · refine x_iload_n d_Pe_isPlace_14 rfl rfl ?_
        refine x_bipush (21) d_Pe_isPlace_15 rfl ⟨by decide, by decide⟩ ?_
        refine x_icmp_ge (24) d_Pe_isPlace_17 (by decide) (fun g4 => ?_) (fun g4 => ?_)
        · exact no (by omega)
        · refine x_iconst (1) d_Pe_isPlace_20 rfl ⟨by decide, by decide⟩ ?_
          refine x_goto (25) d_Pe_isPlace_21 (by decide) ?_
          refine x_zreturn d_Pe_isPlace_25 rfl (by first | exact Or.inl rfl | exact Or.inr rfl | (split <;> first | exact Or.inl rfl | exact Or.inr rfl) | assumption) ?_ (Nat.zero_le _) (Nat.zero_le _)
          rw [decide_eq_true (show 0 ≤ a ∧ a < 8 ∧ 0 ≤ b ∧ b < 21 by omega)]
          exact ⟨rfl, rfl⟩
section CPe
variable {h : HH} {G : Nat → Nat → Int}
theorem c_tryDeed {i : Nat} (hi : i < 168) (q t deed : Int) : x_M y_Pe_tryDeed [oPe, xI (i : Int), xI q, xI t, xI deed] (S0, G) (fun r τ => ∃ u, r = .inl u ∧ mPt i (p_do G i q t deed) G u τ) := by
  refine x_of 2 rfl (Nat.le_of_ble_eq_true rfl) ?_
  show x_A y_Pe_tryDeed 0 [some oPe, some (xI (i : Int)), some (xI q), some (xI t), some (xI deed), none, none] [] (S0, G) 0 0 _
  generalize hQ : (fun (r : XRes) (τ : XM) => ∃ u, r = .inl u ∧ mPt i (p_do G i q t deed) G u τ) = Q
  refine x_iload_n d_Pe_tryDeed_0 rfl rfl ?_
  refine x_iload_n d_Pe_tryDeed_1 rfl rfl ?_
  refine x_S1 d_Pe_tryDeed_2 e_Pe_tryDeed_Pe_isPlace ⟨rfl, rfl, Nat.zero_le _, Nat.zero_le _⟩ rfl rfl (Nat.le_of_ble_eq_true rfl) (c_isPlace _ _ _) ?_
  by_cases c : 0 ≤ q ∧ q < 8 ∧ 0 ≤ t ∧ t < 21
  · rw [decide_eq_true c]
    refine x_if_ne (9) d_Pe_tryDeed_5 (by decide) (fun g => ?_) (fun g => ?_)
    · obtain ⟨j, hj⟩ : ∃ j : Nat, j = 8 * t.toNat + q.toNat := ⟨_, rfl⟩
      have hdo : p_do G i q t deed = p_try (p3 G i) (p3 G j) deed := by unfold p_do; rw [if_pos c, hj]
      rw [hdo] at hQ
      have keep : ¬ (G pe_doses j ≠ -1 ∧ (G pe_doses i = -1 ∨ G pe_doses j < G pe_doses i ∨ (G pe_doses j = G pe_doses i ∧ G pe_outs j < G pe_outs i))) → Q (.inl none) (S0, G) := by
        intro z
        rw [← hQ]
        exact ⟨_, rfl, rfl, G, rfl, pF.rf i G, by unfold p_try; exact (if_neg z).symm⟩
      have flag : ∀ v z6, ((v = 1 ∧ (G pe_doses i = -1 ∨ G pe_doses j < G pe_doses i ∨ (G pe_doses j = G pe_doses i ∧ G pe_outs j < G pe_outs i))) ∨ (v = 0 ∧ ¬ (G pe_doses i = -1 ∨ G pe_doses j < G pe_doses i ∨ (G pe_doses j = G pe_doses i ∧ G pe_outs j < G pe_outs i)))) → x_A y_Pe_tryDeed 79 [some oPe, some (xI (i : Int)), some (xI q), some (xI t), some (xI deed), some (xI (j : Int)), z6] [xI v] (S0, G) 0 0 Q := by
        intro v z6 hv
        refine x_istore d_Pe_tryDeed_79 (by decide) ?_
        dsimp only [x_st1, x_st2, x_kill, List.set, List.getElem?_cons_zero, List.getElem?_cons_succ]
        refine x_aload_n d_Pe_tryDeed_81 rfl rfl ?_
        refine x_getF (kf := 2) d_Pe_tryDeed_82 rfl rfl rfl in_Pe f_Pe_9 ?_
        refine x_iload d_Pe_tryDeed_85 rfl ?_
        refine x_ialdN (j) d_Pe_tryDeed_87 rfl (by omega) (by omega) ?_
        refine x_iconst (-1) d_Pe_tryDeed_88 rfl ⟨by decide, by decide⟩ ?_
        refine x_icmp_eq (131) d_Pe_tryDeed_89 (by decide) (fun g1 => ?_) (fun g1 => ?_)
        · refine x_return d_Pe_tryDeed_131 rfl ?_ (Nat.zero_le _) (Nat.zero_le _)
          exact keep (fun z => z.1 g1)
        · refine x_iload d_Pe_tryDeed_92 rfl ?_
          refine x_if_eq (131) d_Pe_tryDeed_94 (by decide) (fun g2 => ?_) (fun g2 => ?_)
          · refine x_return d_Pe_tryDeed_131 rfl ?_ (Nat.zero_le _) (Nat.zero_le _)
            refine keep (fun z => ?_)
            rcases hv with ⟨hv, _⟩ | ⟨_, hv⟩
            · omega
            · exact hv z.2
          · have hc : G pe_doses j ≠ -1 ∧ (G pe_doses i = -1 ∨ G pe_doses j < G pe_doses i ∨ (G pe_doses j = G pe_doses i ∧ G pe_outs j < G pe_outs i)) := by
              rcases hv with ⟨_, hv⟩ | ⟨hv, _⟩
              · exact ⟨g1, hv⟩
              · omega
            refine x_aload_n d_Pe_tryDeed_97 rfl rfl ?_
            refine x_getF (kf := 2) d_Pe_tryDeed_98 rfl rfl rfl in_Pe f_Pe_9 ?_
            refine x_iload_n d_Pe_tryDeed_101 rfl rfl ?_
            refine x_aload_n d_Pe_tryDeed_102 rfl rfl ?_
            refine x_getF (kf := 2) d_Pe_tryDeed_103 rfl rfl rfl in_Pe f_Pe_9 ?_
            refine x_iload d_Pe_tryDeed_106 rfl ?_
            refine x_ialdN (j) d_Pe_tryDeed_108 rfl (by omega) (by omega) ?_
            refine x_iastN (i) d_Pe_tryDeed_109 rfl (by omega) (by omega) ?_
            refine x_aload_n d_Pe_tryDeed_110 rfl rfl ?_
            refine x_getF (kf := 3) d_Pe_tryDeed_111 rfl rfl rfl in_Pe f_Pe_15 ?_
            refine x_iload_n d_Pe_tryDeed_114 rfl rfl ?_
            refine x_aload_n d_Pe_tryDeed_115 rfl rfl ?_
            refine x_getF (kf := 3) d_Pe_tryDeed_116 rfl rfl rfl in_Pe f_Pe_15 ?_
            refine x_iload d_Pe_tryDeed_119 rfl ?_
            refine x_ialdN (j) d_Pe_tryDeed_121 rfl (by omega) (by omega) ?_
            rw [up_cell (show pe_outs ≠ pe_doses by decide)]
            refine x_iastN (i) d_Pe_tryDeed_122 rfl (by omega) (by omega) ?_
            refine x_aload_n d_Pe_tryDeed_123 rfl rfl ?_
            refine x_getF (kf := 4) d_Pe_tryDeed_124 rfl rfl rfl in_Pe f_Pe_18 ?_
            refine x_iload_n d_Pe_tryDeed_127 rfl rfl ?_
            refine x_iload d_Pe_tryDeed_128 rfl ?_
            refine x_iastN (i) d_Pe_tryDeed_130 rfl (by omega) (by omega) ?_
            refine x_return d_Pe_tryDeed_131 rfl ?_ (Nat.zero_le _) (Nat.zero_le _)
            rw [← hQ]
            have q := pF.put i G (G pe_doses j) (G pe_outs j) deed
            exact ⟨_, rfl, rfl, _, rfl, q.1, by rw [q.2]; unfold p_try; exact (if_pos hc).symm⟩
      refine x_iload_n d_Pe_tryDeed_9 rfl rfl ?_
      refine x_iload_n d_Pe_tryDeed_10 rfl rfl ?_
      refine x_SN1 d_Pe_tryDeed_11 e_Pe_tryDeed_F_spot ⟨rfl, rfl, Nat.zero_le _, Nat.zero_le _⟩ rfl rfl (Nat.le_of_ble_eq_true rfl) (c_spot _ _ _ (by omega) (by omega)) ?_
      rw [show t * 8 + q = (j : Int) by omega]
      refine x_istore d_Pe_tryDeed_14 (by decide) ?_
      dsimp only [x_st1, x_st2, x_kill, List.set, List.getElem?_cons_zero, List.getElem?_cons_succ]
      refine x_aload_n d_Pe_tryDeed_16 rfl rfl ?_
      refine x_getF (kf := 2) d_Pe_tryDeed_17 rfl rfl rfl in_Pe f_Pe_9 ?_
      refine x_iload_n d_Pe_tryDeed_20 rfl rfl ?_
      refine x_ialdN (i) d_Pe_tryDeed_21 rfl (by omega) (by omega) ?_
      refine x_iconst (-1) d_Pe_tryDeed_22 rfl ⟨by decide, by decide⟩ ?_
      refine x_icmp_eq (74) d_Pe_tryDeed_23 (by decide) (fun g1 => ?_) (fun g1 => ?_)
      · refine x_iconst (1) d_Pe_tryDeed_74 rfl ⟨by decide, by decide⟩ ?_
        refine x_goto (79) d_Pe_tryDeed_75 (by decide) ?_
        exact flag _ _ (Or.inl ⟨rfl, Or.inl g1⟩)
      · refine x_aload_n d_Pe_tryDeed_26 rfl rfl ?_
        refine x_getF (kf := 2) d_Pe_tryDeed_27 rfl rfl rfl in_Pe f_Pe_9 ?_
        refine x_iload d_Pe_tryDeed_30 rfl ?_
        refine x_ialdN (j) d_Pe_tryDeed_32 rfl (by omega) (by omega) ?_
        refine x_aload_n d_Pe_tryDeed_33 rfl rfl ?_
        refine x_getF (kf := 2) d_Pe_tryDeed_34 rfl rfl rfl in_Pe f_Pe_9 ?_
        refine x_iload_n d_Pe_tryDeed_37 rfl rfl ?_
        refine x_ialdN (i) d_Pe_tryDeed_38 rfl (by omega) (by omega) ?_
        refine x_icmp_lt (74) d_Pe_tryDeed_39 (by decide) (fun g2 => ?_) (fun g2 => ?_)
        · refine x_iconst (1) d_Pe_tryDeed_74 rfl ⟨by decide, by decide⟩ ?_
          refine x_goto (79) d_Pe_tryDeed_75 (by decide) ?_
          exact flag _ _ (Or.inl ⟨rfl, Or.inr (Or.inl g2)⟩)
        · refine x_aload_n d_Pe_tryDeed_42 rfl rfl ?_
          refine x_getF (kf := 2) d_Pe_tryDeed_43 rfl rfl rfl in_Pe f_Pe_9 ?_
          refine x_iload d_Pe_tryDeed_46 rfl ?_
          refine x_ialdN (j) d_Pe_tryDeed_48 rfl (by omega) (by omega) ?_
          refine x_aload_n d_Pe_tryDeed_49 rfl rfl ?_
          refine x_getF (kf := 2) d_Pe_tryDeed_50 rfl rfl rfl in_Pe f_Pe_9 ?_
          refine x_iload_n d_Pe_tryDeed_53 rfl rfl ?_
          refine x_ialdN (i) d_Pe_tryDeed_54 rfl (by omega) (by omega) ?_
          refine x_icmp_ne (78) d_Pe_tryDeed_55 (by decide) (fun g3 => ?_) (fun g3 => ?_)
          · refine x_iconst (0) d_Pe_tryDeed_78 rfl ⟨by decide, by decide⟩ ?_
            exact flag _ _ (Or.inr ⟨rfl, fun z => by rcases z with z | z | z <;> omega⟩)
          · refine x_aload_n d_Pe_tryDeed_58 rfl rfl ?_
            refine x_getF (kf := 3) d_Pe_tryDeed_59 rfl rfl rfl in_Pe f_Pe_15 ?_
            refine x_iload d_Pe_tryDeed_62 rfl ?_
            refine x_ialdN (j) d_Pe_tryDeed_64 rfl (by omega) (by omega) ?_
            refine x_aload_n d_Pe_tryDeed_65 rfl rfl ?_
            refine x_getF (kf := 3) d_Pe_tryDeed_66 rfl rfl rfl in_Pe f_Pe_15 ?_
            refine x_iload_n d_Pe_tryDeed_69 rfl rfl ?_
            refine x_ialdN (i) d_Pe_tryDeed_70 rfl (by omega) (by omega) ?_
            refine x_icmp_ge (78) d_Pe_tryDeed_71 (by decide) (fun g4 => ?_) (fun g4 => ?_)
            · refine x_iconst (0) d_Pe_tryDeed_78 rfl ⟨by decide, by decide⟩ ?_
              exact flag _ _ (Or.inr ⟨rfl, fun z => by rcases z with z | z | z <;> omega⟩)
            · refine x_iconst (1) d_Pe_tryDeed_74 rfl ⟨by decide, by decide⟩ ?_
              refine x_goto (79) d_Pe_tryDeed_75 (by decide) ?_
              exact flag _ _ (Or.inl ⟨rfl, Or.inr (Or.inr ⟨by omega, by omega⟩)⟩)
    · exact absurd (show b2i true = 0 from by omega) (by decide)
  · rw [decide_eq_false c]
    refine x_if_ne (9) d_Pe_tryDeed_5 (by decide) (fun g => ?_) (fun g => ?_)
    · exact absurd rfl g
    · refine x_return d_Pe_tryDeed_8 rfl ?_ (Nat.zero_le _) (Nat.zero_le _)
      rw [← hQ]
      exact ⟨_, rfl, rfl, G, rfl, pF.rf i G, by unfold p_do; exact (if_neg c).symm⟩
theorem c_takes1 : x_M y_Pe_takes [oPe, xI 1] (S0, G) (x_is (.inl (some (xI 1))) (S0, G)) := by
  refine x_of 0 rfl (Nat.le_of_ble_eq_true rfl) ?_
  show x_A y_Pe_takes 0 [some oPe, some (xI 1)] [] (S0, G) 0 0 _
  refine x_iload_n d_Pe_takes_0 rfl rfl ?_
  refine x_iconst (1) d_Pe_takes_1 rfl ⟨by decide, by decide⟩ ?_
  refine x_icmp_ne (9) d_Pe_takes_2 (by decide) (fun g => ?_) (fun g => ?_)
  · exact absurd rfl g
  · refine x_iconst (1) d_Pe_takes_5 rfl ⟨by decide, by decide⟩ ?_
    refine x_goto (31) d_Pe_takes_6 (by decide) ?_
    refine x_ireturn d_Pe_takes_31 rfl ?_ (Nat.zero_le _) (Nat.zero_le _)
    exact ⟨rfl, rfl⟩
theorem w_wk (hh : Hwf h) {w : Nat} (hw : w < h.2 1) : 1 ≤ h.1 1 w 2 * h.1 9 0 1 ∧ h.1 1 w 2 * h.1 9 0 1 ≤ 12 := by
  have b := hh.2.2.1 w hw
  have b9 := hh.2.2.2.2.2.2.2.2.2.2
  have : h.1 9 0 1 = 1 ∨ h.1 9 0 1 = 2 ∨ h.1 9 0 1 = 3 := by omega
  rcases this with e | e | e <;> rw [e] <;> omega
theorem c_takes (hh : Hwf h) (r : fRep h G) (w : Nat) (hw : w < h.2 1) {a : Int} (ha : a = 2 + w) : x_M y_Pe_takes [oPe, xI a] (S0, G) (x_is (.inl (some (xI (h.1 1 w 2 * h.1 9 0 1)))) (S0, G)) := by
  subst ha
  have b0 := hh.1
  have bw := w_wk hh hw
  refine x_of 0 rfl (Nat.le_of_ble_eq_true rfl) ?_
  show x_A y_Pe_takes 0 [some oPe, some (xI (2 + (w : Int)))] [] (S0, G) 0 0 _
  refine x_iload_n d_Pe_takes_0 rfl rfl ?_
  refine x_iconst (1) d_Pe_takes_1 rfl ⟨by decide, by decide⟩ ?_
  refine x_icmp_ne (9) d_Pe_takes_2 (by decide) (fun g => ?_) (fun g => ?_)
  · refine x_aload_n d_Pe_takes_9 rfl rfl ?_
    refine x_getF (kf := 0) d_Pe_takes_10 rfl rfl rfl in_Pe f_Pe_21 ?_
    refine x_getF (kf := 1) d_Pe_takes_13 rfl rfl rfl in_Ho f_Pe_78 ?_
    refine x_iload_n d_Pe_takes_16 rfl rfl ?_
    refine x_iconst (2) d_Pe_takes_17 rfl ⟨by decide, by decide⟩ ?_
    refine x_isubN d_Pe_takes_18 (by omega) (by omega) ?_
    refine x_iconst (2) d_Pe_takes_19 rfl ⟨by decide, by decide⟩ ?_
    refine x_V1 d_Pe_takes_20 e_Pe_takes_Ta_at ⟨rfl, rfl, Nat.zero_le _, Nat.zero_le _⟩ rfl rfl rfl rfl (Nat.le_of_ble_eq_true rfl) (k_at hh r 1 w 2 (by decide) hw (by decide) (by omega) rfl) ?_
    refine x_aload_n d_Pe_takes_23 rfl rfl ?_
    refine x_getF (kf := 0) d_Pe_takes_24 rfl rfl rfl in_Pe f_Pe_21 ?_
    refine x_V1 d_Pe_takes_27 e_Pe_takes_Ho_walkTimes ⟨rfl, rfl, Nat.zero_le _, Nat.zero_le _⟩ rfl rfl rfl rfl (Nat.le_of_ble_eq_true rfl) (c_walkTimes hh r) ?_
    refine x_imulN d_Pe_takes_30 (by omega) (by omega) ?_
    refine x_ireturn d_Pe_takes_31 rfl ?_ (Nat.zero_le _) (Nat.zero_le _)
    exact ⟨rfl, rfl⟩
  · omega
/-- how a state of the class stands to one of the reference -/
def pR (mix B : Int) (cl z : T3) : Prop := (z = (1000000000000, 21, -1) ∧ cl.1 = -1) ∨ (0 ≤ cl.1 ∧ cl.1 ≤ B ∧ z = (mix + cl.1, cl.2.1, cl.2.2))
theorem pR.step {mix B : Int} {cl z k d : T3} {deed : Int} (hm : 0 ≤ mix ∧ mix ≤ 2000000) (hB : B ≤ 42000000) (a : pR mix B cl z) (b : pR 0 B k d) : pR mix B (p_try cl k deed) (a_try z deed (mix + d.1) d.2.1) := by
  rcases b with ⟨b1, b2⟩ | ⟨b1, b2, b3⟩
  · have e1 : p_try cl k deed = cl := by unfold p_try; exact if_neg (fun q => q.1 b2)
    have e2 : a_try z deed (mix + d.1) d.2.1 = z := by
      unfold a_try
      refine if_pos ?_
      rw [b1]
      rcases a with ⟨a1, a2⟩ | ⟨a1, a2, a3⟩
      · rw [a1]; show (1000000000000 : Int) < mix + 1000000000000 ∨ (mix + 1000000000000 = (1000000000000 : Int) ∧ (21 : Int) ≤ 21); omega
      · rw [a3]; left; show mix + cl.1 < mix + 1000000000000; omega
    rw [e1, e2]; exact a
  · have ed1 : d.1 = k.1 := by rw [b3]; show 0 + k.1 = k.1; omega
    have ed2 : d.2.1 = k.2.1 := by rw [b3]
    rw [ed1, ed2]
    rcases a with ⟨a1, a2⟩ | ⟨a1, a2, a3⟩
    · have e1 : p_try cl k deed = (k.1, k.2.1, deed) := by unfold p_try; exact if_pos ⟨by omega, Or.inl a2⟩
      have e2 : a_try z deed (mix + k.1) k.2.1 = (mix + k.1, k.2.1, deed) := by
        unfold a_try
        refine if_neg ?_
        rw [a1]; show ¬ ((1000000000000 : Int) < mix + k.1 ∨ (mix + k.1 = (1000000000000 : Int) ∧ (21 : Int) ≤ k.2.1)); omega
      rw [e1, e2]; exact Or.inr ⟨b1, b2, rfl⟩
    · have z1 : z.1 = mix + cl.1 := by rw [a3]
      have z2 : z.2.1 = cl.2.1 := by rw [a3]
      unfold p_try a_try
      rw [z1, z2]
      by_cases c : k.1 < cl.1 ∨ (k.1 = cl.1 ∧ k.2.1 < cl.2.1)
      · rw [if_pos ⟨by omega, Or.inr c⟩, if_neg (by omega)]
        exact Or.inr ⟨b1, b2, rfl⟩
      · rw [if_neg (fun q => by omega), if_pos (by omega)]
        exact Or.inr ⟨a1, a2, a3⟩
end CPe
