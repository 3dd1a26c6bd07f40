/-! the class: one minute's smoke, piece by piece -/
section CB
variable {h : HH} {G : Nat → Nat → Int}
def mBegun (h : HH) (m : Nat) (a : Nat → Int) (gv : Int) (G : Nat → Nat → Int) : Option XV → XM → Prop := fun v τ => v = none ∧ ∃ G', τ = (S0, G') ∧
  (∀ i, i ≠ sm_leftAbove → i ≠ sm_leftMixed → i ≠ sm_shares → i ≠ sm_totals → i ≠ o_Sm → G' i = G i) ∧ (∀ k, k ≠ 12 → G' o_Sm k = G o_Sm k) ∧ G' o_Sm 12 = 0 ∧
  (∀ p, p < h.2 0 → G' sm_leftAbove p = a p ∧ G' sm_leftMixed p = G sm_mixed (8 * m + p) ∧ G' sm_shares p = a p / 8) ∧
  (∀ j, (j < 3 * (m + 1) ∨ 3 * (m + 1) + 3 ≤ j) → G' sm_totals j = G sm_totals j) ∧ G' sm_totals (3 * (m + 1)) = G sm_totals (3 * m) + gv ∧ G' sm_totals (3 * (m + 1) + 1) = G sm_totals (3 * m + 1) ∧ G' sm_totals (3 * (m + 1) + 2) = G sm_totals (3 * m + 2)
theorem c_sbegin (hh : Hwf h) (r : fRep h G) (m : Nat) (bu gv : Int) (a : Nat → Int) (hm : m < 20) (hg : 0 ≤ gv ∧ gv ≤ 100000) (ht : 0 ≤ G sm_totals (3 * m) ∧ G sm_totals (3 * m) ≤ 10000000) (hA : ∀ p, p < 8 → 0 ≤ G sm_above (8 * m + p) ∧ G sm_above (8 * m + p) ≤ 10000000) (ha : ∀ p, p < h.2 0 → a p = G sm_above (8 * m + p) + (if (p : Int) = bu then gv else 0)) :
    x_M y_Sm_begin [oSm, xI (m : Int), xI bu, xI gv] (S0, G) (fun r τ => ∃ v, r = .inl v ∧ mBegun h m a gv G v τ) := by
  have b := hh.1
  refine x_of 1 rfl (Nat.le_of_ble_eq_true rfl) ?_
  show x_A y_Sm_begin 0 [some oSm, some (xI (m : Int)), some (xI bu), some (xI gv), none] [] (S0, G) 0 0 _
  generalize hQ : (fun (r : XRes) (τ : XM) => ∃ v, r = .inl v ∧ mBegun h m a gv G v τ) = Q
  refine x_iconst (0) d_Sm_begin_0 rfl ⟨by decide, by decide⟩ ?_
  refine x_istore d_Sm_begin_1 (by decide) ?_
  dsimp only [x_st1, x_st2, x_kill, List.set, List.getElem?_cons_zero, List.getElem?_cons_succ]
  have second : ∀ G1, (∀ i, i ≠ sm_leftAbove → i ≠ sm_leftMixed → i ≠ sm_shares → G1 i = G i) → (∀ p, p < h.2 0 → G1 sm_leftAbove p = a p ∧ G1 sm_leftMixed p = G sm_mixed (8 * m + p) ∧ G1 sm_shares p = a p / 8) → x_A y_Sm_begin 84 [some oSm, some (xI (m : Int)), some (xI bu), some (xI gv), some (xI 0)] [] (S0, G1) 0 0 Q := by
    intro G1 f1 f2
    have et := f1 sm_totals (by decide) (by decide) (by decide)
    refine x_iload d_Sm_begin_84 rfl ?_
    refine x_iconst (3) d_Sm_begin_86 rfl ⟨by decide, by decide⟩ ?_
    refine x_icmp_ge (120) d_Sm_begin_87 (by decide) (fun g => ?_) (fun g => ?_)
    · omega
    · refine x_aload_n d_Sm_begin_90 rfl rfl ?_
      refine x_getF (kf := 5) d_Sm_begin_91 rfl rfl rfl in_Sm f_Sm_21 ?_
      refine x_iload_n d_Sm_begin_94 rfl rfl ?_
      refine x_iconst (1) d_Sm_begin_95 rfl ⟨by decide, by decide⟩ ?_
      refine x_iaddN d_Sm_begin_96 (by omega) (by omega) ?_
      refine x_iconst (3) d_Sm_begin_97 rfl ⟨by decide, by decide⟩ ?_
      refine x_imulN d_Sm_begin_98 (by omega) (by omega) ?_
      refine x_iload d_Sm_begin_99 rfl ?_
      refine x_iaddN d_Sm_begin_101 (by omega) (by omega) ?_
      refine x_aload_n d_Sm_begin_102 rfl rfl ?_
      refine x_getF (kf := 5) d_Sm_begin_103 rfl rfl rfl in_Sm f_Sm_21 ?_
      refine x_iload_n d_Sm_begin_106 rfl rfl ?_
      refine x_iconst (3) d_Sm_begin_107 rfl ⟨by decide, by decide⟩ ?_
      refine x_imulN d_Sm_begin_108 (by omega) (by omega) ?_
      refine x_iload d_Sm_begin_109 rfl ?_
      refine x_iaddN d_Sm_begin_111 (by omega) (by omega) ?_
      refine x_ialdN (3 * m) d_Sm_begin_112 rfl (by omega) (by omega) ?_
      refine x_iastN (3 * (m + 1)) d_Sm_begin_113 rfl (by omega) (by omega) ?_
      refine x_iincN d_Sm_begin_114 rfl (by decide) (by omega) (by omega) ?_
      dsimp only [x_st1, x_st2, x_kill, List.set, List.getElem?_cons_zero, List.getElem?_cons_succ]
      refine x_goto (84) d_Sm_begin_117 (by decide) ?_
      refine x_iload d_Sm_begin_84 rfl ?_
      refine x_iconst (3) d_Sm_begin_86 rfl ⟨by decide, by decide⟩ ?_
      refine x_icmp_ge (120) d_Sm_begin_87 (by decide) (fun g => ?_) (fun g => ?_)
      · omega
      · refine x_aload_n d_Sm_begin_90 rfl rfl ?_
        refine x_getF (kf := 5) d_Sm_begin_91 rfl rfl rfl in_Sm f_Sm_21 ?_
        refine x_iload_n d_Sm_begin_94 rfl rfl ?_
        refine x_iconst (1) d_Sm_begin_95 rfl ⟨by decide, by decide⟩ ?_
        refine x_iaddN d_Sm_begin_96 (by omega) (by omega) ?_
        refine x_iconst (3) d_Sm_begin_97 rfl ⟨by decide, by decide⟩ ?_
        refine x_imulN d_Sm_begin_98 (by omega) (by omega) ?_
        refine x_iload d_Sm_begin_99 rfl ?_
        refine x_iaddN d_Sm_begin_101 (by omega) (by omega) ?_
        refine x_aload_n d_Sm_begin_102 rfl rfl ?_
        refine x_getF (kf := 5) d_Sm_begin_103 rfl rfl rfl in_Sm f_Sm_21 ?_
        refine x_iload_n d_Sm_begin_106 rfl rfl ?_
        refine x_iconst (3) d_Sm_begin_107 rfl ⟨by decide, by decide⟩ ?_
        refine x_imulN d_Sm_begin_108 (by omega) (by omega) ?_
        refine x_iload d_Sm_begin_109 rfl ?_
        refine x_iaddN d_Sm_begin_111 (by omega) (by omega) ?_
        refine x_ialdN (3 * m + 1) d_Sm_begin_112 rfl (by omega) (by omega) ?_
        refine x_iastN (3 * (m + 1) + 1) d_Sm_begin_113 rfl (by omega) (by omega) ?_
        refine x_iincN d_Sm_begin_114 rfl (by decide) (by omega) (by omega) ?_
        dsimp only [x_st1, x_st2, x_kill, List.set, List.getElem?_cons_zero, List.getElem?_cons_succ]
        refine x_goto (84) d_Sm_begin_117 (by decide) ?_
        refine x_iload d_Sm_begin_84 rfl ?_
        refine x_iconst (3) d_Sm_begin_86 rfl ⟨by decide, by decide⟩ ?_
        refine x_icmp_ge (120) d_Sm_begin_87 (by decide) (fun g => ?_) (fun g => ?_)
        · omega
        · refine x_aload_n d_Sm_begin_90 rfl rfl ?_
          refine x_getF (kf := 5) d_Sm_begin_91 rfl rfl rfl in_Sm f_Sm_21 ?_
          refine x_iload_n d_Sm_begin_94 rfl rfl ?_
          refine x_iconst (1) d_Sm_begin_95 rfl ⟨by decide, by decide⟩ ?_
          refine x_iaddN d_Sm_begin_96 (by omega) (by omega) ?_
          refine x_iconst (3) d_Sm_begin_97 rfl ⟨by decide, by decide⟩ ?_
          refine x_imulN d_Sm_begin_98 (by omega) (by omega) ?_
          refine x_iload d_Sm_begin_99 rfl ?_
          refine x_iaddN d_Sm_begin_101 (by omega) (by omega) ?_
          refine x_aload_n d_Sm_begin_102 rfl rfl ?_
          refine x_getF (kf := 5) d_Sm_begin_103 rfl rfl rfl in_Sm f_Sm_21 ?_
          refine x_iload_n d_Sm_begin_106 rfl rfl ?_
          refine x_iconst (3) d_Sm_begin_107 rfl ⟨by decide, by decide⟩ ?_
          refine x_imulN d_Sm_begin_108 (by omega) (by omega) ?_
          refine x_iload d_Sm_begin_109 rfl ?_
          refine x_iaddN d_Sm_begin_111 (by omega) (by omega) ?_
          refine x_ialdN (3 * m + 2) d_Sm_begin_112 rfl (by omega) (by omega) ?_
          refine x_iastN (3 * (m + 1) + 2) d_Sm_begin_113 rfl (by omega) (by omega) ?_
          refine x_iincN d_Sm_begin_114 rfl (by decide) (by omega) (by omega) ?_
          dsimp only [x_st1, x_st2, x_kill, List.set, List.getElem?_cons_zero, List.getElem?_cons_succ]
          refine x_goto (84) d_Sm_begin_117 (by decide) ?_
          refine x_iload d_Sm_begin_84 rfl ?_
          refine x_iconst (3) d_Sm_begin_86 rfl ⟨by decide, by decide⟩ ?_
          refine x_icmp_ge (120) d_Sm_begin_87 (by decide) (fun g => ?_) (fun g => ?_)
          · rw [up_ne (show 3 * m + 2 ≠ 3 * (m + 1) + 1 by omega), up_ne (show 3 * m + 2 ≠ 3 * (m + 1) by omega), up_ne (show 3 * m + 1 ≠ 3 * (m + 1) by omega)]
            generalize hG2 : up (up (up G1 sm_totals (3 * (m + 1)) (G1 sm_totals (3 * m))) sm_totals (3 * (m + 1) + 1) (G1 sm_totals (3 * m + 1))) sm_totals (3 * (m + 1) + 2) (G1 sm_totals (3 * m + 2)) = G2
            have e0 : G2 sm_totals (3 * (m + 1)) = G sm_totals (3 * m) := by rw [← hG2, up_ne (by omega), up_ne (by omega), up_same, et]
            have e1 : G2 sm_totals (3 * (m + 1) + 1) = G sm_totals (3 * m + 1) := by rw [← hG2, up_ne (by omega), up_same, et]
            have e2 : G2 sm_totals (3 * (m + 1) + 2) = G sm_totals (3 * m + 2) := by rw [← hG2, up_same, et]
            have e3 : ∀ j, (j < 3 * (m + 1) ∨ 3 * (m + 1) + 3 ≤ j) → G2 sm_totals j = G sm_totals j := fun j hj => by rw [← hG2, up_ne (by omega), up_ne (by omega), up_ne (by omega), et]
            have e4 : ∀ i, i ≠ sm_totals → G2 i = G1 i := fun i hi => by rw [← hG2, up_cell hi, up_cell hi, up_cell hi]
            refine x_aload_n d_Sm_begin_120 rfl rfl ?_
            refine x_getF (kf := 5) d_Sm_begin_121 rfl rfl rfl in_Sm f_Sm_21 ?_
            refine x_iload_n d_Sm_begin_124 rfl rfl ?_
            refine x_iconst (1) d_Sm_begin_125 rfl ⟨by decide, by decide⟩ ?_
            refine x_iaddN d_Sm_begin_126 (by omega) (by omega) ?_
            refine x_iconst (3) d_Sm_begin_127 rfl ⟨by decide, by decide⟩ ?_
            refine x_imulN d_Sm_begin_128 (by omega) (by omega) ?_
            refine x_iconst (0) d_Sm_begin_129 rfl ⟨by decide, by decide⟩ ?_
            refine x_iaddN d_Sm_begin_130 (by omega) (by omega) ?_
            refine x_dup2 d_Sm_begin_131 rfl rfl ?_
            refine x_ialdN (3 * (m + 1)) d_Sm_begin_132 rfl (by omega) (by omega) ?_
            rw [e0]
            refine x_iload_n d_Sm_begin_133 rfl rfl ?_
            refine x_iaddN d_Sm_begin_134 (by omega) (by omega) ?_
            refine x_iastN (3 * (m + 1)) d_Sm_begin_135 rfl (by omega) (by omega) ?_
            refine x_aload_n d_Sm_begin_136 rfl rfl ?_
            refine x_iconst (0) d_Sm_begin_137 rfl ⟨by decide, by decide⟩ ?_
            refine x_putIG (kf := 12) tyX7 d_Sm_begin_138 rfl rfl rfl in_Sm f_Sm_164 tyX7_ok nmX7 (by decide +kernel) rfl ?_
            refine x_return d_Sm_begin_141 rfl ?_ (Nat.zero_le _) (Nat.zero_le _)
            rw [← hQ]
            refine ⟨none, rfl, rfl, _, rfl, fun i i1 i2 i3 i4 i5 => ?_, fun k hk => ?_, up_same _ _ _ _, fun p hp => ?_, fun j hj => ?_, ?_, ?_, ?_⟩
            · rw [up_cell i5, up_cell i4, e4 i i4, f1 i i1 i2 i3]
            · rw [up_ne hk, up_cell (by decide), e4 _ (by decide), f1 _ (by decide) (by decide) (by decide)]
            · rw [up_cell (by decide), up_cell (by decide), e4 _ (by decide), up_cell (by decide), up_cell (by decide), e4 _ (by decide), up_cell (by decide), up_cell (by decide), e4 _ (by decide)]
              exact f2 p hp
            · rw [up_cell (by decide), up_ne (by omega)]; exact e3 j hj
            · rw [up_cell (by decide), up_same]
            · rw [up_cell (by decide), up_ne (by omega)]; exact e1
            · rw [up_cell (by decide), up_ne (by omega)]; exact e2
          · omega
  refine x_up_to (P := fun i => ∀ G1, (∀ i, i ≠ sm_leftAbove → i ≠ sm_leftMixed → i ≠ sm_shares → G1 i = G i) → (∀ p, p < i → G1 sm_leftAbove p = a p ∧ G1 sm_leftMixed p = G sm_mixed (8 * m + p) ∧ G1 sm_shares p = a p / 8) → x_A y_Sm_begin 3 [some oSm, some (xI (m : Int)), some (xI bu), some (xI gv), some (xI (i : Int))] [] (S0, G1) 0 0 Q) 0 (h.2 0) (Nat.zero_le _) (fun G1 f1 f2 => ?_) (fun i _ hi k G1 f1 f2 => ?_) G (fun _ _ _ _ => rfl) (fun p hp => by omega)
  · have r2 : fRep h G1 := r.same (fun i h1 h2 => f1 i (by simp only [sm_leftAbove]; omega) (by simp only [sm_leftMixed]; omega) (by simp only [sm_shares]; omega))
    refine x_iload d_Sm_begin_3 rfl ?_
    refine x_aload_n d_Sm_begin_5 rfl rfl ?_
    refine x_getF (kf := 0) d_Sm_begin_6 rfl rfl rfl in_Sm f_Sm_46 ?_
    refine x_getF (kf := 0) d_Sm_begin_9 rfl rfl rfl in_Ho f_Sm_113 ?_
    refine x_V1 d_Sm_begin_12 e_Sm_begin_Ta_size ⟨rfl, rfl, Nat.zero_le _, Nat.zero_le _⟩ rfl rfl rfl rfl (Nat.le_of_ble_eq_true rfl) (k_size r2 0 (by decide)) ?_
    refine x_icmp_ge (81) d_Sm_begin_15 (by decide) (fun g => ?_) (fun g => ?_)
    · refine x_iconst (0) d_Sm_begin_81 rfl ⟨by decide, by decide⟩ ?_
      refine x_istore d_Sm_begin_82 (by decide) ?_
      dsimp only [x_st1, x_st2, x_kill, List.set, List.getElem?_cons_zero, List.getElem?_cons_succ]
      exact second G1 f1 f2
    · omega
  · have r2 : fRep h G1 := r.same (fun i h1 h2 => f1 i (by simp only [sm_leftAbove]; omega) (by simp only [sm_leftMixed]; omega) (by simp only [sm_shares]; omega))
    have ea := f1 sm_above (by decide) (by decide) (by decide)
    have em := f1 sm_mixed (by decide) (by decide) (by decide)
    have bA := hA i (by omega)
    have av := ha i hi
    have ab : 0 ≤ a i ∧ a i ≤ 10100000 := by rw [av]; split <;> omega
    have body : x_A y_Sm_begin 43 [some oSm, some (xI (m : Int)), some (xI bu), some (xI gv), some (xI (i : Int))] [xI (a i), xI (i : Int), xR (some sm_leftAbove)] (S0, G1) 0 0 Q := by
      refine x_iastN (i) d_Sm_begin_43 rfl (by omega) (by omega) ?_
      refine x_aload_n d_Sm_begin_44 rfl rfl ?_
      refine x_getF (kf := 11) d_Sm_begin_45 rfl rfl rfl in_Sm f_Sm_39 ?_
      refine x_iload d_Sm_begin_48 rfl ?_
      refine x_aload_n d_Sm_begin_50 rfl rfl ?_
      refine x_iload d_Sm_begin_51 rfl ?_
      refine x_iload_n d_Sm_begin_53 rfl rfl ?_
      refine x_V1 d_Sm_begin_54 e_Sm_begin_Sm_mixedIn ⟨rfl, rfl, Nat.zero_le _, Nat.zero_le _⟩ rfl rfl rfl rfl (Nat.le_of_ble_eq_true rfl) (c_mixedIn i m (by omega) (by omega)) ?_
      rw [up_cell (show sm_mixed ≠ sm_leftAbove by decide), em]
      refine x_iastN (i) d_Sm_begin_57 rfl (by omega) (by omega) ?_
      refine x_aload_n d_Sm_begin_58 rfl rfl ?_
      refine x_getF (kf := 9) d_Sm_begin_59 rfl rfl rfl in_Sm f_Sm_33 ?_
      refine x_iload d_Sm_begin_62 rfl ?_
      refine x_aload_n d_Sm_begin_64 rfl rfl ?_
      refine x_getF (kf := 10) d_Sm_begin_65 rfl rfl rfl in_Sm f_Sm_36 ?_
      refine x_iload d_Sm_begin_68 rfl ?_
      refine x_ialdN (i) d_Sm_begin_70 rfl (by omega) (by omega) ?_
      rw [up_cell (show sm_leftAbove ≠ sm_leftMixed by decide), up_same]
      refine x_bipush (8) d_Sm_begin_71 rfl ⟨by decide, by decide⟩ ?_
      refine x_idiv d_Sm_begin_73 (by decide) ?_
      rw [x_div_pos (by omega) (by omega) (by omega) (by omega)]
      refine x_iastN (i) d_Sm_begin_74 rfl (by omega) (by omega) ?_
      refine x_iincN d_Sm_begin_75 rfl (by decide) (by omega) (by omega) ?_
      dsimp only [x_st1, x_st2, x_kill, List.set, List.getElem?_cons_zero, List.getElem?_cons_succ]
      refine x_goto (3) d_Sm_begin_78 (by decide) ?_
      refine k _ (fun j j1 j2 j3 => by rw [up_cell j3, up_cell j2, up_cell j1]; exact f1 j j1 j2 j3) (fun p hp => ?_)
      rw [up_cell (show sm_leftAbove ≠ sm_shares by decide), up_cell (show sm_leftAbove ≠ sm_leftMixed by decide), up_cell (show sm_leftMixed ≠ sm_shares by decide)]
      by_cases e : p = i
      · subst e
        rw [up_same, up_same, up_same]
        exact ⟨rfl, rfl, rfl⟩
      · rw [up_ne e, up_ne e, up_ne e, up_cell (show sm_leftMixed ≠ sm_leftAbove by decide), up_cell (show sm_shares ≠ sm_leftMixed by decide), up_cell (show sm_shares ≠ sm_leftAbove by decide)]
        exact f2 p (by omega)
    refine x_iload d_Sm_begin_3 rfl ?_
    refine x_aload_n d_Sm_begin_5 rfl rfl ?_
    refine x_getF (kf := 0) d_Sm_begin_6 rfl rfl rfl in_Sm f_Sm_46 ?_
    refine x_getF (kf := 0) d_Sm_begin_9 rfl rfl rfl in_Ho f_Sm_113 ?_
    refine x_V1 d_Sm_begin_12 e_Sm_begin_Ta_size ⟨rfl, rfl, Nat.zero_le _, Nat.zero_le _⟩ rfl rfl rfl rfl (Nat.le_of_ble_eq_true rfl) (k_size r2 0 (by decide)) ?_
    refine x_icmp_ge (81) d_Sm_begin_15 (by decide) (fun g => ?_) (fun g => ?_)
    · omega
    · refine x_aload_n d_Sm_begin_18 rfl rfl ?_
      refine x_getF (kf := 10) d_Sm_begin_19 rfl rfl rfl in_Sm f_Sm_36 ?_
      refine x_iload d_Sm_begin_22 rfl ?_
      refine x_aload_n d_Sm_begin_24 rfl rfl ?_
      refine x_iload d_Sm_begin_25 rfl ?_
      refine x_iload_n d_Sm_begin_27 rfl rfl ?_
      refine x_V1 d_Sm_begin_28 e_Sm_begin_Sm_aboveIn ⟨rfl, rfl, Nat.zero_le _, Nat.zero_le _⟩ rfl rfl rfl rfl (Nat.le_of_ble_eq_true rfl) (c_aboveIn i m (by omega) (by omega)) ?_
      rw [ea]
      refine x_iload d_Sm_begin_31 rfl ?_
      refine x_iload_n d_Sm_begin_33 rfl rfl ?_
      refine x_icmp_ne (41) d_Sm_begin_34 (by decide) (fun g2 => ?_) (fun g2 => ?_)
      · refine x_iconst (0) d_Sm_begin_41 rfl ⟨by decide, by decide⟩ ?_
        refine x_iaddN d_Sm_begin_42 (by omega) (by omega) ?_
        rw [if_neg g2] at av
        rw [← av]
        exact body
      · refine x_iload_n d_Sm_begin_37 rfl rfl ?_
        refine x_goto (42) d_Sm_begin_38 (by decide) ?_
        refine x_iaddN d_Sm_begin_42 (by omega) (by omega) ?_
        rw [if_pos (by omega)] at av
        rw [← av]
        exact body
def mCarried (m fr to : Nat) (ga gm st : Int) (G : Nat → Nat → Int) : Option XV → XM → Prop := fun v τ => v = none ∧ ∃ G', τ = (S0, G') ∧
  (∀ i, i ≠ sm_leftAbove → i ≠ sm_leftMixed → i ≠ sm_above → i ≠ sm_mixed → i ≠ o_Sm → G' i = G i) ∧ (∀ k, k ≠ 12 → G' o_Sm k = G o_Sm k) ∧ G' o_Sm 12 = st ∧
  (∀ j, G' sm_leftAbove j = G sm_leftAbove j - pt fr ga j) ∧ (∀ j, G' sm_leftMixed j = G sm_leftMixed j - pt fr gm j) ∧ (∀ j, G' sm_above j = G sm_above j + pt (8 * (m + 1) + to) ga j) ∧ (∀ j, G' sm_mixed j = G sm_mixed j + pt (8 * (m + 1) + to) gm j)
theorem up_pt (G : Nat → Nat → Int) (i j : Nat) (v : Int) (b : Nat) : up G i j (G i j + v) i b = G i b + pt j v b := by
  unfold up pt
  by_cases e : b = j
  · subst e; simp
  · simp [e]
theorem up_mt (G : Nat → Nat → Int) (i j : Nat) (v : Int) (b : Nat) : up G i j (G i j - v) i b = G i b - pt j v b := by
  unfold up pt
  by_cases e : b = j
  · subst e; simp
  · simp [e]
theorem pt_0 (j b : Nat) : pt j 0 b = 0 := by unfold pt; split <;> rfl
theorem c_carry (m fr to : Nat) (ai : Int) (hm : m < 20) (hf : fr < 8) (ht : to < 8) (hai : -12 ≤ ai ∧ ai ≤ 12) (hs : 0 ≤ G sm_shares fr ∧ G sm_shares fr ≤ 10100000) (hlA : 0 ≤ G sm_leftAbove fr ∧ G sm_leftAbove fr ≤ 10100000) (hlM : 0 ≤ G sm_leftMixed fr ∧ G sm_leftMixed fr ≤ 10100000) (hx : 0 ≤ G sm_mixed (8 * m + fr) ∧ G sm_mixed (8 * m + fr) ≤ 10000000)
    (hA : 0 ≤ G sm_above (8 * (m + 1) + to) ∧ G sm_above (8 * (m + 1) + to) ≤ 500000000) (hM : 0 ≤ G sm_mixed (8 * (m + 1) + to) ∧ G sm_mixed (8 * (m + 1) + to) ≤ 500000000) :
    x_M y_Sm_carry [oSm, xI (m : Int), xI (fr : Int), xI (to : Int), xI ai] (S0, G) (fun r τ => ∃ v, r = .inl v ∧ mCarried m fr to (if -4 < ai then min (G sm_shares fr) (G sm_leftAbove fr) else 0) (if 0 < ai then min (G sm_mixed (8 * m + fr) * ai / 16) (G sm_leftMixed fr) else 0) (if 6 ≤ ai ∨ ai ≤ -6 then x_or (G o_Sm 12) (x_shl 1 fr) else G o_Sm 12) G v τ) := by
  generalize hga : (if -4 < ai then min (G sm_shares fr) (G sm_leftAbove fr) else 0) = ga
  generalize hgm : (if 0 < ai then min (G sm_mixed (8 * m + fr) * ai / 16) (G sm_leftMixed fr) else 0) = gm
  generalize hst : (if 6 ≤ ai ∨ ai ≤ -6 then x_or (G o_Sm 12) (x_shl 1 fr) else G o_Sm 12) = st
  refine x_of 2 rfl (Nat.le_of_ble_eq_true rfl) ?_
  show x_A y_Sm_carry 0 [some oSm, some (xI (m : Int)), some (xI (fr : Int)), some (xI (to : Int)), some (xI ai), none, none] [] (S0, G) 0 0 _
  generalize hQ : (fun (r : XRes) (τ : XM) => ∃ v, r = .inl v ∧ mCarried m fr to ga gm st G v τ) = Q
  refine x_iload_n d_Sm_carry_0 rfl rfl ?_
  refine x_iconst (1) d_Sm_carry_1 rfl ⟨by decide, by decide⟩ ?_
  refine x_iaddN d_Sm_carry_2 (by omega) (by omega) ?_
  refine x_bipush (8) d_Sm_carry_3 rfl ⟨by decide, by decide⟩ ?_
  refine x_imulN d_Sm_carry_5 (by omega) (by omega) ?_
  refine x_iload_n d_Sm_carry_6 rfl rfl ?_
  refine x_iaddN d_Sm_carry_7 (by omega) (by omega) ?_
  refine x_istore d_Sm_carry_8 (by decide) ?_
  dsimp only [x_st1, x_st2, x_kill, List.set, List.getElem?_cons_zero, List.getElem?_cons_succ]
  refine x_iload d_Sm_carry_10 rfl ?_
  refine x_bipush (6) d_Sm_carry_12 rfl ⟨by decide, by decide⟩ ?_
  have third : ∀ G2 z, (∀ i, i ≠ o_Sm → i ≠ sm_leftAbove → i ≠ sm_above → G2 i = G i) → (∀ k, k ≠ 12 → G2 o_Sm k = G o_Sm k) → G2 o_Sm 12 = st → (∀ j, G2 sm_leftAbove j = G sm_leftAbove j - pt fr ga j) → (∀ j, G2 sm_above j = G sm_above j + pt (8 * (m + 1) + to) ga j) →
      x_A y_Sm_carry 83 [some oSm, some (xI (m : Int)), some (xI (fr : Int)), some (xI (to : Int)), some (xI ai), some (xI (((m : Int) + 1) * 8 + to)), z] [] (S0, G2) 0 0 Q := by
    intro G2 z f1 f2 f3 f4 f5
    have em := f1 sm_mixed (by decide) (by decide) (by decide)
    have el := f1 sm_leftMixed (by decide) (by decide) (by decide)
    have el2 := congrFun el fr
    refine x_iload d_Sm_carry_83 rfl ?_
    refine x_if_le (134) d_Sm_carry_85 (by decide) (fun g => ?_) (fun g => ?_)
    · refine x_return d_Sm_carry_134 rfl ?_ (Nat.zero_le _) (Nat.zero_le _)
      rw [← hQ]
      rw [if_neg (by omega)] at hgm
      refine ⟨none, rfl, rfl, G2, rfl, fun i i1 i2 i3 i4 i5 => f1 i i5 i1 i3, f2, f3, f4, fun j => ?_, f5, fun j => ?_⟩
      · rw [← hgm, pt_0, el]; omega
      · rw [← hgm, pt_0, em]; omega
    · rw [if_pos (by omega)] at hgm
      have mb : 0 ≤ G sm_mixed (8 * m + fr) * ai ∧ G sm_mixed (8 * m + fr) * ai ≤ 10000000 * 12 := ⟨Int.mul_nonneg (by omega) (by omega), Int.mul_le_mul (by omega) (by omega) (by omega) (by omega)⟩
      refine x_aload_n d_Sm_carry_88 rfl rfl ?_
      refine x_iload_n d_Sm_carry_89 rfl rfl ?_
      refine x_iload_n d_Sm_carry_90 rfl rfl ?_
      refine x_V1 d_Sm_carry_91 e_Sm_carry_Sm_mixedIn ⟨rfl, rfl, Nat.zero_le _, Nat.zero_le _⟩ rfl rfl rfl rfl (Nat.le_of_ble_eq_true rfl) (c_mixedIn fr m hf (by omega)) ?_
      rw [em]
      refine x_iload d_Sm_carry_94 rfl ?_
      refine x_imulN d_Sm_carry_96 (by omega) (by omega) ?_
      refine x_bipush (16) d_Sm_carry_97 rfl ⟨by decide, by decide⟩ ?_
      refine x_idiv d_Sm_carry_99 (by decide) ?_
      rw [x_div_pos (by omega) (by omega) (by omega) (by omega)]
      refine x_aload_n d_Sm_carry_100 rfl rfl ?_
      refine x_getF (kf := 11) d_Sm_carry_101 rfl rfl rfl in_Sm f_Sm_39 ?_
      refine x_iload_n d_Sm_carry_104 rfl rfl ?_
      refine x_ialdN (fr) d_Sm_carry_105 rfl (by omega) (by omega) ?_
      rw [el]
      refine x_S1 d_Sm_carry_106 e_Sm_carry_JM_min ⟨rfl, rfl, Nat.zero_le _, Nat.zero_le _⟩ rfl rfl (Nat.le_of_ble_eq_true rfl) (s_min _ _ _) ?_
      rw [hgm]
      refine x_istore d_Sm_carry_109 (by decide) ?_
      dsimp only [x_st1, x_st2, x_kill, List.set, List.getElem?_cons_zero, List.getElem?_cons_succ]
      refine x_aload_n d_Sm_carry_111 rfl rfl ?_
      refine x_getF (kf := 11) d_Sm_carry_112 rfl rfl rfl in_Sm f_Sm_39 ?_
      refine x_iload_n d_Sm_carry_115 rfl rfl ?_
      refine x_dup2 d_Sm_carry_116 rfl rfl ?_
      refine x_ialdN (fr) d_Sm_carry_117 rfl (by omega) (by omega) ?_
      refine x_iload d_Sm_carry_118 rfl ?_
      refine x_isubN d_Sm_carry_120 (by omega) (by omega) ?_
      refine x_iastN (fr) d_Sm_carry_121 rfl (by omega) (by omega) ?_
      refine x_aload_n d_Sm_carry_122 rfl rfl ?_
      refine x_getF (kf := 3) d_Sm_carry_123 rfl rfl rfl in_Sm f_Sm_15 ?_
      refine x_iload d_Sm_carry_126 rfl ?_
      refine x_dup2 d_Sm_carry_128 rfl rfl ?_
      refine x_ialdN (8 * (m + 1) + to) d_Sm_carry_129 rfl (by omega) (by omega) ?_
      rw [up_cell (show sm_mixed ≠ sm_leftMixed by decide), em]
      refine x_iload d_Sm_carry_130 rfl ?_
      refine x_iaddN d_Sm_carry_132 (by omega) (by omega) ?_
      refine x_iastN (8 * (m + 1) + to) d_Sm_carry_133 rfl (by omega) (by omega) ?_
      refine x_return d_Sm_carry_134 rfl ?_ (Nat.zero_le _) (Nat.zero_le _)
      rw [← hQ]
      refine ⟨none, rfl, rfl, _, rfl, fun i i1 i2 i3 i4 i5 => ?_, fun k hk => ?_, ?_, fun j => ?_, fun j => ?_, fun j => ?_, fun j => ?_⟩
      · rw [up_cell i4, up_cell i2]; exact f1 i i5 i1 i3
      · rw [up_cell (by decide), up_cell (by decide)]; exact f2 k hk
      · rw [up_cell (by decide), up_cell (by decide)]; exact f3
      · rw [up_cell (by decide), up_cell (by decide)]; exact f4 j
      · rw [up_cell (by decide), up_mt, el]
      · rw [up_cell (by decide), up_cell (by decide)]; exact f5 j
      · have := up_pt (up G2 sm_leftMixed fr (G2 sm_leftMixed fr - gm)) sm_mixed (8 * (m + 1) + to) gm j
        rw [up_cell (show sm_mixed ≠ sm_leftMixed by decide), em] at this
        exact this
  have second : ∀ G1, (∀ i, i ≠ o_Sm → G1 i = G i) → (∀ k, k ≠ 12 → G1 o_Sm k = G o_Sm k) → G1 o_Sm 12 = st → x_A y_Sm_carry 36 [some oSm, some (xI (m : Int)), some (xI (fr : Int)), some (xI (to : Int)), some (xI ai), some (xI (((m : Int) + 1) * 8 + to)), none] [] (S0, G1) 0 0 Q := by
    intro G1 f1 f2 f3
    have e1 := f1 sm_shares (by decide)
    have e2 := f1 sm_leftAbove (by decide)
    have e22 := congrFun e2 fr
    have e3 := f1 sm_above (by decide)
    refine x_iload d_Sm_carry_36 rfl ?_
    refine x_bipush (-4) d_Sm_carry_38 rfl ⟨by decide, by decide⟩ ?_
    refine x_icmp_le (83) d_Sm_carry_40 (by decide) (fun g => ?_) (fun g => ?_)
    · rw [if_neg (by omega)] at hga
      refine third G1 none (fun i i1 _ _ => f1 i i1) f2 f3 (fun j => ?_) (fun j => ?_)
      · rw [← hga, pt_0, e2]; omega
      · rw [← hga, pt_0, e3]; omega
    · rw [if_pos (by omega)] at hga
      refine x_aload_n d_Sm_carry_43 rfl rfl ?_
      refine x_getF (kf := 9) d_Sm_carry_44 rfl rfl rfl in_Sm f_Sm_33 ?_
      refine x_iload_n d_Sm_carry_47 rfl rfl ?_
      refine x_ialdN (fr) d_Sm_carry_48 rfl (by omega) (by omega) ?_
      refine x_aload_n d_Sm_carry_49 rfl rfl ?_
      refine x_getF (kf := 10) d_Sm_carry_50 rfl rfl rfl in_Sm f_Sm_36 ?_
      refine x_iload_n d_Sm_carry_53 rfl rfl ?_
      refine x_ialdN (fr) d_Sm_carry_54 rfl (by omega) (by omega) ?_
      rw [e1, e2]
      refine x_S1 d_Sm_carry_55 e_Sm_carry_JM_min ⟨rfl, rfl, Nat.zero_le _, Nat.zero_le _⟩ rfl rfl (Nat.le_of_ble_eq_true rfl) (s_min _ _ _) ?_
      rw [hga]
      refine x_istore d_Sm_carry_58 (by decide) ?_
      dsimp only [x_st1, x_st2, x_kill, List.set, List.getElem?_cons_zero, List.getElem?_cons_succ]
      refine x_aload_n d_Sm_carry_60 rfl rfl ?_
      refine x_getF (kf := 10) d_Sm_carry_61 rfl rfl rfl in_Sm f_Sm_36 ?_
      refine x_iload_n d_Sm_carry_64 rfl rfl ?_
      refine x_dup2 d_Sm_carry_65 rfl rfl ?_
      refine x_ialdN (fr) d_Sm_carry_66 rfl (by omega) (by omega) ?_
      refine x_iload d_Sm_carry_67 rfl ?_
      refine x_isubN d_Sm_carry_69 (by omega) (by omega) ?_
      refine x_iastN (fr) d_Sm_carry_70 rfl (by omega) (by omega) ?_
      refine x_aload_n d_Sm_carry_71 rfl rfl ?_
      refine x_getF (kf := 2) d_Sm_carry_72 rfl rfl rfl in_Sm f_Sm_9 ?_
      refine x_iload d_Sm_carry_75 rfl ?_
      refine x_dup2 d_Sm_carry_77 rfl rfl ?_
      refine x_ialdN (8 * (m + 1) + to) d_Sm_carry_78 rfl (by omega) (by omega) ?_
      rw [up_cell (show sm_above ≠ sm_leftAbove by decide), e3]
      refine x_iload d_Sm_carry_79 rfl ?_
      refine x_iaddN d_Sm_carry_81 (by omega) (by omega) ?_
      refine x_iastN (8 * (m + 1) + to) d_Sm_carry_82 rfl (by omega) (by omega) ?_
      refine third _ _ (fun i i1 i2 i3 => ?_) (fun k hk => ?_) ?_ (fun j => ?_) (fun j => ?_)
      · rw [up_cell i3, up_cell i2]; exact f1 i i1
      · rw [up_cell (by decide), up_cell (by decide)]; exact f2 k hk
      · rw [up_cell (by decide), up_cell (by decide)]; exact f3
      · rw [up_cell (by decide), up_mt, e2]
      · have := up_pt (up G1 sm_leftAbove fr (G1 sm_leftAbove fr - ga)) sm_above (8 * (m + 1) + to) ga j
        rw [up_cell (show sm_above ≠ sm_leftAbove by decide), e3] at this
        exact this
  have stir : (6 ≤ ai ∨ ai ≤ -6) → x_A y_Sm_carry 24 [some oSm, some (xI (m : Int)), some (xI (fr : Int)), some (xI (to : Int)), some (xI ai), some (xI (((m : Int) + 1) * 8 + to)), none] [] (S0, G) 0 0 Q := by
    intro z
    rw [if_pos z] at hst
    refine x_aload_n d_Sm_carry_24 rfl rfl ?_
    refine x_dup d_Sm_carry_25 rfl ?_
    refine x_getIG (kf := 12) d_Sm_carry_26 rfl rfl rfl in_Sm f_Sm_164 ?_
    refine x_iconst (1) d_Sm_carry_29 rfl ⟨by decide, by decide⟩ ?_
    refine x_iload_n d_Sm_carry_30 rfl rfl ?_
    refine x_ishl d_Sm_carry_31 ?_
    refine x_ior d_Sm_carry_32 ?_
    refine x_putIG (kf := 12) tyX7 d_Sm_carry_33 rfl rfl rfl in_Sm f_Sm_164 tyX7_ok nmX7 (by decide +kernel) rfl ?_
    rw [hst]
    exact second _ (fun i hi => up_cell hi) (fun k hk => up_ne hk) (up_same _ _ _ _)
  refine x_icmp_ge (24) d_Sm_carry_14 (by decide) (fun g => ?_) (fun g => ?_)
  · exact stir (Or.inl (by omega))
  · refine x_iload d_Sm_carry_17 rfl ?_
    refine x_bipush (-6) d_Sm_carry_19 rfl ⟨by decide, by decide⟩ ?_
    refine x_icmp_gt (36) d_Sm_carry_21 (by decide) (fun g2 => ?_) (fun g2 => ?_)
    · rw [if_neg (by omega)] at hst
      exact second G (fun _ _ => rfl) (fun _ _ => rfl) hst
    · exact stir (Or.inr (by omega))
def mSettled (m p : Nat) (go dA dM : Int) (G : Nat → Nat → Int) : Option XV → XM → Prop := fun v τ => v = none ∧ ∃ G', τ = (S0, G') ∧
  (∀ i, i ≠ sm_leftAbove → i ≠ sm_leftMixed → i ≠ sm_above → i ≠ sm_mixed → i ≠ sm_totals → G' i = G i) ∧ (∀ j, j ≠ p → G' sm_leftAbove j = G sm_leftAbove j ∧ G' sm_leftMixed j = G sm_leftMixed j) ∧
  (∀ j, G' sm_totals j = G sm_totals j + pt (3 * (m + 1) + 1) go j) ∧ (∀ j, G' sm_above j = G sm_above j + pt (8 * (m + 1) + p) dA j) ∧ (∀ j, G' sm_mixed j = G sm_mixed j + pt (8 * (m + 1) + p) dM j)
theorem c_settle (hh : Hwf h) (r : fRep h G) (m p : Nat) (hm : m < 20) (hp : p < h.2 0) {la lm x sh : Int} (e1 : G sm_leftAbove p = la) (e2 : G sm_leftMixed p = lm) (e3 : G sm_shares p = sh) (e4 : G sm_mixed (8 * m + p) = x) (hs : 0 ≤ sh ∧ sh ≤ 10100000) (hlA : 0 ≤ la ∧ la ≤ 10100000) (hlM : 0 ≤ lm ∧ lm ≤ 10100000) (hx : 0 ≤ x ∧ x ≤ 10000000)
    (hA : 0 ≤ G sm_above (8 * (m + 1) + p) ∧ G sm_above (8 * (m + 1) + p) ≤ 500000000) (hM : 0 ≤ G sm_mixed (8 * (m + 1) + p) ∧ G sm_mixed (8 * (m + 1) + p) ≤ 500000000) (hT : 0 ≤ G sm_totals (3 * (m + 1) + 1) ∧ G sm_totals (3 * (m + 1) + 1) ≤ 500000000)
    {ga gm fl : Int} (hga : (if 0 < h.1 0 p 1 then min sh la else 0) = ga) (hgm : (if 0 < h.1 0 p 1 then min (x * 2 / 16) lm else 0) = gm) (hfl : (if xb (G o_Sm 12) p = true then la - ga else (la - ga) / 4) = fl) :
    x_M y_Sm_settle [oSm, xI (m : Int), xI (p : Int)] (S0, G) (fun r τ => ∃ v, r = .inl v ∧ mSettled m p (ga + gm) (la - ga - fl) (lm - gm + fl) G v τ) := by
  have b := hh.1
  have bga : 0 ≤ ga ∧ ga ≤ la := by rw [← hga]; split <;> omega
  have bgm : 0 ≤ gm ∧ gm ≤ lm := by rw [← hgm]; split <;> omega
  refine x_of 3 rfl (Nat.le_of_ble_eq_true rfl) ?_
  show x_A y_Sm_settle 0 [some oSm, some (xI (m : Int)), some (xI (p : Int)), none, none, none] [] (S0, G) 0 0 _
  generalize hQ : (fun (r : XRes) (τ : XM) => ∃ v, r = .inl v ∧ mSettled m p (ga + gm) (la - ga - fl) (lm - gm + fl) G v τ) = Q
  refine x_iload_n d_Sm_settle_0 rfl rfl ?_
  refine x_iconst (1) d_Sm_settle_1 rfl ⟨by decide, by decide⟩ ?_
  refine x_iaddN d_Sm_settle_2 (by omega) (by omega) ?_
  refine x_bipush (8) d_Sm_settle_3 rfl ⟨by decide, by decide⟩ ?_
  refine x_imulN d_Sm_settle_5 (by omega) (by omega) ?_
  refine x_iload_n d_Sm_settle_6 rfl rfl ?_
  refine x_iaddN d_Sm_settle_7 (by omega) (by omega) ?_
  refine x_istore_n d_Sm_settle_8 rfl (by decide) ?_
  dsimp only [x_st1, x_st2, x_kill, List.set, List.getElem?_cons_zero, List.getElem?_cons_succ]
  refine x_aload_n d_Sm_settle_9 rfl rfl ?_
  refine x_getF (kf := 0) d_Sm_settle_10 rfl rfl rfl in_Sm f_Sm_46 ?_
  refine x_getF (kf := 0) d_Sm_settle_13 rfl rfl rfl in_Ho f_Sm_113 ?_
  refine x_iload_n d_Sm_settle_16 rfl rfl ?_
  refine x_iconst (1) d_Sm_settle_17 rfl ⟨by decide, by decide⟩ ?_
  refine x_V1 d_Sm_settle_18 e_Sm_settle_Ta_at ⟨rfl, rfl, Nat.zero_le _, Nat.zero_le _⟩ rfl rfl rfl rfl (Nat.le_of_ble_eq_true rfl) (k_at hh r 0 p 1 (by decide) hp (by decide) rfl rfl) ?_
  have second : ∀ G1 z1 z2, (∀ i, i ≠ sm_leftAbove → i ≠ sm_leftMixed → i ≠ sm_totals → G1 i = G i) → (∀ j, j ≠ p → G1 sm_leftAbove j = G sm_leftAbove j ∧ G1 sm_leftMixed j = G sm_leftMixed j) → G1 sm_leftAbove p = la - ga → G1 sm_leftMixed p = lm - gm → (∀ j, G1 sm_totals j = G sm_totals j + pt (3 * (m + 1) + 1) (ga + gm) j) →
      x_A y_Sm_settle 105 [some oSm, some (xI (m : Int)), some (xI (p : Int)), some (xI (((m : Int) + 1) * 8 + p)), z1, z2] [] (S0, G1) 0 0 Q := by
    intro G1 z1 z2 f1 f2 f3 f4 f5
    have eS := f1 o_Sm (by decide) (by decide) (by decide)
    have eA := f1 sm_above (by decide) (by decide) (by decide)
    have eM := f1 sm_mixed (by decide) (by decide) (by decide)
    have bfl : 0 ≤ fl ∧ fl ≤ la - ga := by rw [← hfl]; split <;> omega
    have last : x_A y_Sm_settle 134 [some oSm, some (xI (m : Int)), some (xI (p : Int)), some (xI (((m : Int) + 1) * 8 + p)), z1, z2] [xI fl] (S0, G1) 0 0 Q := by
      refine x_istore d_Sm_settle_134 (by decide) ?_
      dsimp only [x_st1, x_st2, x_kill, List.set, List.getElem?_cons_zero, List.getElem?_cons_succ]
      refine x_aload_n d_Sm_settle_136 rfl rfl ?_
      refine x_getF (kf := 2) d_Sm_settle_137 rfl rfl rfl in_Sm f_Sm_9 ?_
      refine x_iload_n d_Sm_settle_140 rfl rfl ?_
      refine x_dup2 d_Sm_settle_141 rfl rfl ?_
      refine x_ialdN (8 * (m + 1) + p) d_Sm_settle_142 rfl (by omega) (by omega) ?_
      rw [eA]
      refine x_aload_n d_Sm_settle_143 rfl rfl ?_
      refine x_getF (kf := 10) d_Sm_settle_144 rfl rfl rfl in_Sm f_Sm_36 ?_
      refine x_iload_n d_Sm_settle_147 rfl rfl ?_
      refine x_ialdN (p) d_Sm_settle_148 rfl (by omega) (by omega) ?_
      rw [f3]
      refine x_iload d_Sm_settle_149 rfl ?_
      refine x_isubN d_Sm_settle_151 (by omega) (by omega) ?_
      refine x_iaddN d_Sm_settle_152 (by omega) (by omega) ?_
      refine x_iastN (8 * (m + 1) + p) d_Sm_settle_153 rfl (by omega) (by omega) ?_
      refine x_aload_n d_Sm_settle_154 rfl rfl ?_
      refine x_getF (kf := 3) d_Sm_settle_155 rfl rfl rfl in_Sm f_Sm_15 ?_
      refine x_iload_n d_Sm_settle_158 rfl rfl ?_
      refine x_dup2 d_Sm_settle_159 rfl rfl ?_
      refine x_ialdN (8 * (m + 1) + p) d_Sm_settle_160 rfl (by omega) (by omega) ?_
      rw [up_cell (show sm_mixed ≠ sm_above by decide), eM]
      refine x_aload_n d_Sm_settle_161 rfl rfl ?_
      refine x_getF (kf := 11) d_Sm_settle_162 rfl rfl rfl in_Sm f_Sm_39 ?_
      refine x_iload_n d_Sm_settle_165 rfl rfl ?_
      refine x_ialdN (p) d_Sm_settle_166 rfl (by omega) (by omega) ?_
      rw [up_cell (show sm_leftMixed ≠ sm_above by decide), f4]
      refine x_iload d_Sm_settle_167 rfl ?_
      refine x_iaddN d_Sm_settle_169 (by omega) (by omega) ?_
      refine x_iaddN d_Sm_settle_170 (by omega) (by omega) ?_
      refine x_iastN (8 * (m + 1) + p) d_Sm_settle_171 rfl (by omega) (by omega) ?_
      refine x_return d_Sm_settle_172 rfl ?_ (Nat.zero_le _) (Nat.zero_le _)
      rw [← hQ]
      refine ⟨none, rfl, rfl, _, rfl, fun i i1 i2 i3 i4 i5 => ?_, fun j hj => ?_, fun j => ?_, fun j => ?_, fun j => ?_⟩
      · rw [up_cell i4, up_cell i3]; exact f1 i i1 i2 i5
      · rw [up_cell (by decide), up_cell (by decide), up_cell (by decide), up_cell (by decide)]; exact f2 j hj
      · rw [up_cell (by decide), up_cell (by decide)]; exact f5 j
      · rw [up_cell (by decide), ← eA, up_pt]
      · have := up_pt (up G1 sm_above (8 * (m + 1) + p) (G sm_above (8 * (m + 1) + p) + (la - ga - fl))) sm_mixed (8 * (m + 1) + p) (lm - gm + fl) j
        rw [up_cell (show sm_mixed ≠ sm_above by decide), eM] at this
        exact this
    refine x_aload_n d_Sm_settle_105 rfl rfl ?_
    refine x_getIG (kf := 12) d_Sm_settle_106 rfl rfl rfl in_Sm f_Sm_164 ?_
    rw [eS]
    refine x_iload_n d_Sm_settle_109 rfl rfl ?_
    refine x_ishr d_Sm_settle_110 ?_
    refine x_iconst (1) d_Sm_settle_111 rfl ⟨by decide, by decide⟩ ?_
    refine x_iand d_Sm_settle_112 ?_
    refine x_iconst (1) d_Sm_settle_113 rfl ⟨by decide, by decide⟩ ?_
    refine x_icmp_ne (126) d_Sm_settle_114 (by decide) (fun g => ?_) (fun g => ?_)
    · rw [if_neg (fun z => g ((x_bit _ (by omega)).mpr z))] at hfl
      refine x_aload_n d_Sm_settle_126 rfl rfl ?_
      refine x_getF (kf := 10) d_Sm_settle_127 rfl rfl rfl in_Sm f_Sm_36 ?_
      refine x_iload_n d_Sm_settle_130 rfl rfl ?_
      refine x_ialdN (p) d_Sm_settle_131 rfl (by omega) (by omega) ?_
      rw [f3]
      refine x_iconst (4) d_Sm_settle_132 rfl ⟨by decide, by decide⟩ ?_
      refine x_idiv d_Sm_settle_133 (by decide) ?_
      rw [x_div_pos (by omega) (by omega) (by omega) (by omega), hfl]
      exact last
    · rw [if_pos ((x_bit _ (by omega)).mp (by omega))] at hfl
      refine x_aload_n d_Sm_settle_117 rfl rfl ?_
      refine x_getF (kf := 10) d_Sm_settle_118 rfl rfl rfl in_Sm f_Sm_36 ?_
      refine x_iload_n d_Sm_settle_121 rfl rfl ?_
      refine x_ialdN (p) d_Sm_settle_122 rfl (by omega) (by omega) ?_
      rw [f3, hfl]
      refine x_goto (134) d_Sm_settle_123 (by decide) ?_
      exact last
  refine x_if_le (105) d_Sm_settle_21 (by decide) (fun g => ?_) (fun g => ?_)
  · rw [if_neg (by omega)] at hga hgm
    refine second G none none (fun _ _ _ _ => rfl) (fun _ _ => ⟨rfl, rfl⟩) (by omega) (by omega) (fun j => ?_)
    rw [show ga + gm = 0 by omega, pt_0]; omega
  · rw [if_pos (by omega)] at hga hgm
    refine x_aload_n d_Sm_settle_24 rfl rfl ?_
    refine x_getF (kf := 9) d_Sm_settle_25 rfl rfl rfl in_Sm f_Sm_33 ?_
    refine x_iload_n d_Sm_settle_28 rfl rfl ?_
    refine x_ialdN (p) d_Sm_settle_29 rfl (by omega) (by omega) ?_
    refine x_aload_n d_Sm_settle_30 rfl rfl ?_
    refine x_getF (kf := 10) d_Sm_settle_31 rfl rfl rfl in_Sm f_Sm_36 ?_
    refine x_iload_n d_Sm_settle_34 rfl rfl ?_
    refine x_ialdN (p) d_Sm_settle_35 rfl (by omega) (by omega) ?_
    rw [e1, e3]
    refine x_S1 d_Sm_settle_36 e_Sm_settle_JM_min ⟨rfl, rfl, Nat.zero_le _, Nat.zero_le _⟩ rfl rfl (Nat.le_of_ble_eq_true rfl) (s_min _ _ _) ?_
    rw [hga]
    refine x_istore d_Sm_settle_39 (by decide) ?_
    dsimp only [x_st1, x_st2, x_kill, List.set, List.getElem?_cons_zero, List.getElem?_cons_succ]
    refine x_aload_n d_Sm_settle_41 rfl rfl ?_
    refine x_iload_n d_Sm_settle_42 rfl rfl ?_
    refine x_iload_n d_Sm_settle_43 rfl rfl ?_
    refine x_V1 d_Sm_settle_44 e_Sm_settle_Sm_mixedIn ⟨rfl, rfl, Nat.zero_le _, Nat.zero_le _⟩ rfl rfl rfl rfl (Nat.le_of_ble_eq_true rfl) (c_mixedIn p m (by omega) (by omega)) ?_
    rw [e4]
    refine x_iconst (2) d_Sm_settle_47 rfl ⟨by decide, by decide⟩ ?_
    refine x_imulN d_Sm_settle_48 (by omega) (by omega) ?_
    refine x_bipush (16) d_Sm_settle_49 rfl ⟨by decide, by decide⟩ ?_
    refine x_idiv d_Sm_settle_51 (by decide) ?_
    rw [x_div_pos (by omega) (by omega) (by omega) (by omega)]
    refine x_aload_n d_Sm_settle_52 rfl rfl ?_
    refine x_getF (kf := 11) d_Sm_settle_53 rfl rfl rfl in_Sm f_Sm_39 ?_
    refine x_iload_n d_Sm_settle_56 rfl rfl ?_
    refine x_ialdN (p) d_Sm_settle_57 rfl (by omega) (by omega) ?_
    rw [e2]
    refine x_S1 d_Sm_settle_58 e_Sm_settle_JM_min ⟨rfl, rfl, Nat.zero_le _, Nat.zero_le _⟩ rfl rfl (Nat.le_of_ble_eq_true rfl) (s_min _ _ _) ?_
    rw [hgm]
    refine x_istore d_Sm_settle_61 (by decide) ?_
    dsimp only [x_st1, x_st2, x_kill, List.set, List.getElem?_cons_zero, List.getElem?_cons_succ]
    refine x_aload_n d_Sm_settle_63 rfl rfl ?_
    refine x_getF (kf := 10) d_Sm_settle_64 rfl rfl rfl in_Sm f_Sm_36 ?_
    refine x_iload_n d_Sm_settle_67 rfl rfl ?_
    refine x_dup2 d_Sm_settle_68 rfl rfl ?_
    refine x_ialdN (p) d_Sm_settle_69 rfl (by omega) (by omega) ?_
    refine x_iload d_Sm_settle_70 rfl ?_
    refine x_isubN d_Sm_settle_72 (by omega) (by omega) ?_
    refine x_iastN (p) d_Sm_settle_73 rfl (by omega) (by omega) ?_
    refine x_aload_n d_Sm_settle_74 rfl rfl ?_
    refine x_getF (kf := 11) d_Sm_settle_75 rfl rfl rfl in_Sm f_Sm_39 ?_
    refine x_iload_n d_Sm_settle_78 rfl rfl ?_
    refine x_dup2 d_Sm_settle_79 rfl rfl ?_
    refine x_ialdN (p) d_Sm_settle_80 rfl (by omega) (by omega) ?_
    rw [up_cell (show sm_leftMixed ≠ sm_leftAbove by decide)]
    refine x_iload d_Sm_settle_81 rfl ?_
    refine x_isubN d_Sm_settle_83 (by omega) (by omega) ?_
    refine x_iastN (p) d_Sm_settle_84 rfl (by omega) (by omega) ?_
    refine x_aload_n d_Sm_settle_85 rfl rfl ?_
    refine x_getF (kf := 5) d_Sm_settle_86 rfl rfl rfl in_Sm f_Sm_21 ?_
    refine x_iload_n d_Sm_settle_89 rfl rfl ?_
    refine x_iconst (1) d_Sm_settle_90 rfl ⟨by decide, by decide⟩ ?_
    refine x_iaddN d_Sm_settle_91 (by omega) (by omega) ?_
    refine x_iconst (3) d_Sm_settle_92 rfl ⟨by decide, by decide⟩ ?_
    refine x_imulN d_Sm_settle_93 (by omega) (by omega) ?_
    refine x_iconst (1) d_Sm_settle_94 rfl ⟨by decide, by decide⟩ ?_
    refine x_iaddN d_Sm_settle_95 (by omega) (by omega) ?_
    refine x_dup2 d_Sm_settle_96 rfl rfl ?_
    refine x_ialdN (3 * (m + 1) + 1) d_Sm_settle_97 rfl (by omega) (by omega) ?_
    rw [up_cell (show sm_totals ≠ sm_leftMixed by decide), up_cell (show sm_totals ≠ sm_leftAbove by decide)]
    refine x_iload d_Sm_settle_98 rfl ?_
    refine x_iload d_Sm_settle_100 rfl ?_
    refine x_iaddN d_Sm_settle_102 (by omega) (by omega) ?_
    refine x_iaddN d_Sm_settle_103 (by omega) (by omega) ?_
    refine x_iastN (3 * (m + 1) + 1) d_Sm_settle_104 rfl (by omega) (by omega) ?_
    refine second _ _ _ (fun i i1 i2 i3 => ?_) (fun j hj => ?_) ?_ ?_ (fun j => ?_)
    · rw [up_cell i3, up_cell i2, up_cell i1]
    · rw [up_cell (by decide), up_cell (by decide), up_ne hj, up_cell (show sm_leftMixed ≠ sm_totals by decide), up_ne hj, up_cell (by decide)]
      exact ⟨rfl, rfl⟩
    · rw [up_cell (by decide), up_cell (by decide), up_same, e1]
    · rw [up_cell (by decide), up_same, e2]
    · have := up_pt (up (up G sm_leftAbove p (G sm_leftAbove p - ga)) sm_leftMixed p (G sm_leftMixed p - gm)) sm_totals (3 * (m + 1) + 1) (ga + gm) j
      rw [up_cell (show sm_totals ≠ sm_leftMixed by decide), up_cell (show sm_totals ≠ sm_leftAbove by decide)] at this
      exact this
theorem c_wash (m p : Nat) (hm : m ≤ 20) (hp : p < 8) {x : Int} (e : G sm_mixed (8 * m + p) = x) (hx : 0 ≤ x ∧ x ≤ 500000000) (hT : 0 ≤ G sm_totals (3 * m + 2) ∧ G sm_totals (3 * m + 2) ≤ 500000000) :
    x_M y_Sm_wash [oSm, xI (m : Int), xI (p : Int)] (S0, G) (x_is (.inl none) (S0, up (up G sm_mixed (8 * m + p) (x - x / 4)) sm_totals (3 * m + 2) (G sm_totals (3 * m + 2) + x / 4))) := by
  refine x_of 1 rfl (Nat.le_of_ble_eq_true rfl) ?_
  show x_A y_Sm_wash 0 [some oSm, some (xI (m : Int)), some (xI (p : Int)), none] [] (S0, G) 0 0 _
  refine x_aload_n d_Sm_wash_0 rfl rfl ?_
  refine x_iload_n d_Sm_wash_1 rfl rfl ?_
  refine x_iload_n d_Sm_wash_2 rfl rfl ?_
  refine x_V1 d_Sm_wash_3 e_Sm_wash_Sm_mixedIn ⟨rfl, rfl, Nat.zero_le _, Nat.zero_le _⟩ rfl rfl rfl rfl (Nat.le_of_ble_eq_true rfl) (c_mixedIn p m hp hm) ?_
  rw [e]
  refine x_iconst (4) d_Sm_wash_6 rfl ⟨by decide, by decide⟩ ?_
  refine x_idiv d_Sm_wash_7 (by decide) ?_
  rw [x_div_pos (by omega) (by omega) (by omega) (by omega)]
  refine x_istore_n d_Sm_wash_8 rfl (by decide) ?_
  dsimp only [x_st1, x_st2, x_kill, List.set, List.getElem?_cons_zero, List.getElem?_cons_succ]
  refine x_aload_n d_Sm_wash_9 rfl rfl ?_
  refine x_getF (kf := 3) d_Sm_wash_10 rfl rfl rfl in_Sm f_Sm_15 ?_
  refine x_iload_n d_Sm_wash_13 rfl rfl ?_
  refine x_bipush (8) d_Sm_wash_14 rfl ⟨by decide, by decide⟩ ?_
  refine x_imulN d_Sm_wash_16 (by omega) (by omega) ?_
  refine x_iload_n d_Sm_wash_17 rfl rfl ?_
  refine x_iaddN d_Sm_wash_18 (by omega) (by omega) ?_
  refine x_dup2 d_Sm_wash_19 rfl rfl ?_
  refine x_ialdN (8 * m + p) d_Sm_wash_20 rfl (by omega) (by omega) ?_
  rw [e]
  refine x_iload_n d_Sm_wash_21 rfl rfl ?_
  refine x_isubN d_Sm_wash_22 (by omega) (by omega) ?_
  refine x_iastN (8 * m + p) d_Sm_wash_23 rfl (by omega) (by omega) ?_
  refine x_aload_n d_Sm_wash_24 rfl rfl ?_
  refine x_getF (kf := 5) d_Sm_wash_25 rfl rfl rfl in_Sm f_Sm_21 ?_
  refine x_iload_n d_Sm_wash_28 rfl rfl ?_
  refine x_iconst (3) d_Sm_wash_29 rfl ⟨by decide, by decide⟩ ?_
  refine x_imulN d_Sm_wash_30 (by omega) (by omega) ?_
  refine x_iconst (2) d_Sm_wash_31 rfl ⟨by decide, by decide⟩ ?_
  refine x_iaddN d_Sm_wash_32 (by omega) (by omega) ?_
  refine x_dup2 d_Sm_wash_33 rfl rfl ?_
  refine x_ialdN (3 * m + 2) d_Sm_wash_34 rfl (by omega) (by omega) ?_
  rw [up_cell (show sm_totals ≠ sm_mixed by decide)]
  refine x_iload_n d_Sm_wash_35 rfl rfl ?_
  refine x_iaddN d_Sm_wash_36 (by omega) (by omega) ?_
  refine x_iastN (3 * m + 2) d_Sm_wash_37 rfl (by omega) (by omega) ?_
  refine x_return d_Sm_wash_38 rfl ?_ (Nat.zero_le _) (Nat.zero_le _)
  exact ⟨rfl, rfl⟩
end CB
