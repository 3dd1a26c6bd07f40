/-! the reference: lay -/
def c_lay (h : HH) (G : Nat → Nat → Int) (a b k f by' w : Int) : Int := if f_wi f (-1) (h.2 2 - 1) = 0 ∨ f_wi w 0 3 = 0 then 1 else if f_co a b k = 0 ∨ f_wi by' 0 20 = 0 then 2 else if G m_rSort w.toNat = -1 then 3 else if G m_rMany w.toNat ≤ by' then 4 else 0
noncomputable def l_sd (h : HH) (a b k f : Int) (y : Nat) : Nat → Bool := f_side (cutF h (f_sh h (a, b, k, f)) y (h.1 9 0 1).toNat (f_made h (h.2 6)))
def mLay2 (h : HH) (a b k f by' w : Int) (G : Nat → Nat → Int) : Option XV → XM → Prop := fun v τ => (c_lay h G a b k f by' w ≠ 0 ∧ v = some (xI 0) ∧ τ = (S0, up G o_M 0 (c_lay h G a b k f by' w))) ∨ (c_lay h G a b k f by' w = 0 ∧ v = some (xI (by' + 1)) ∧ ∃ G' G'', τ = (S0, G'') ∧ pFrame (up G o_M 0 0) G' ∧ (∀ i, i ≠ m_numbers → G'' i = G' i) ∧ ∀ j, G'' m_numbers j = if 30 * w.toNat ≤ j ∧ j ≤ 30 * w.toNat + by'.toNat then f_cutTo (G m_rSort w.toNat) (sN (l_sd h a b k f by'.toNat) (j - 30 * w.toNat) 16) else G m_numbers j)
theorem s_lay {h : HH} {G : Nat → Nat → Int} (hh : Hwf h) (r0 : mRep h G) (rw' : mRows G) (a b k f by' w : Int) : x_M y_M_lay [oM, xI a, xI b, xI k, xI f, xI by', xI w] (S0, G) (fun r τ => ∃ v, r = .inl v ∧ mLay2 h a b k f by' w G v τ) := by
  have r := r0.th 0
  refine x_of 4 rfl (Nat.le_of_ble_eq_true rfl) ?_
  show x_A y_M_lay 0 [some oM, some (xI a), some (xI b), some (xI k), some (xI f), some (xI by'), some (xI w), none, none, none, none] [] (S0, G) 0 0 _
  generalize hQ : (fun (r : XRes) (τ : XM) => ∃ v, r = .inl v ∧ mLay2 h a b k f by' w G v τ) = Q
  have bad : ∀ c : Int, c ≠ 0 → c_lay h G a b k f by' w = c → Q (.inl (some (xI 0))) (S0, up (up G o_M 0 0) o_M 0 c) := fun c h1 h2 => by
    rw [← hQ, up_on]
    exact ⟨_, rfl, Or.inl ⟨by rw [h2]; exact h1, rfl, by rw [h2]⟩⟩
  have one : (f_wi f (-1) (h.2 2 - 1) = 0 ∨ f_wi w 0 3 = 0) → x_A y_M_lay 22 [some oM, some (xI a), some (xI b), some (xI k), some (xI f), some (xI by'), some (xI w), none, none, none, none] [] (S0, up G o_M 0 0) 0 0 Q := by
    intro z
    refine x_aload_n d_M_lay_22 rfl rfl ?_
    refine x_iconst (1) d_M_lay_23 rfl ⟨by decide, by decide⟩ ?_
    refine x_V1 d_M_lay_24 e_M_lay_M_fails ⟨rfl, rfl, Nat.zero_le _, Nat.zero_le _⟩ rfl rfl rfl rfl (Nat.le_of_ble_eq_true rfl) (s_fails (up G o_M 0 0) 1) ?_
    refine x_ireturn d_M_lay_27 rfl ?_ (Nat.zero_le _) (Nat.zero_le _)
    exact bad 1 (by decide) (if_pos z)
  refine x_aload_n d_M_lay_0 rfl rfl ?_
  refine x_iconst (0) d_M_lay_1 rfl ⟨by decide, by decide⟩ ?_
  refine x_putIG (kf := 0) tyX12 d_M_lay_2 rfl rfl rfl in_M f_M_217 tyX12_ok nmX12 (by decide +kernel) rfl ?_
  refine x_aload_n d_M_lay_5 rfl rfl ?_
  refine x_iload d_M_lay_6 rfl ?_
  refine x_V1 d_M_lay_8 e_M_lay_M_isFire ⟨rfl, rfl, Nat.zero_le _, Nat.zero_le _⟩ rfl rfl rfl rfl (Nat.le_of_ble_eq_true rfl) (s_isFire hh r _) ?_
  refine x_if_eq (22) d_M_lay_11 (by decide) (fun c1 => ?_) (fun c1 => ?_)
  · exact one (Or.inl c1)
  · refine x_iload d_M_lay_14 rfl ?_
    refine x_S1 d_M_lay_16 e_M_lay_M_isRow ⟨rfl, rfl, Nat.zero_le _, Nat.zero_le _⟩ rfl rfl (Nat.le_of_ble_eq_true rfl) (s_isRow _ _) ?_
    refine x_if_ne (28) d_M_lay_19 (by decide) (fun c2 => ?_) (fun c2 => ?_)
    · have n1 : ¬ (f_wi f (-1) (h.2 2 - 1) = 0 ∨ f_wi w 0 3 = 0) := fun z => by rcases z with z | z <;> omega
      have q1 := f_wi_1 c1
      have q2 := f_wi_1 c2
      have two : (f_co a b k = 0 ∨ f_wi by' 0 20 = 0) → x_A y_M_lay 45 [some oM, some (xI a), some (xI b), some (xI k), some (xI f), some (xI by'), some (xI w), none, none, none, none] [] (S0, up G o_M 0 0) 0 0 Q := by
        intro z
        refine x_aload_n d_M_lay_45 rfl rfl ?_
        refine x_iconst (2) d_M_lay_46 rfl ⟨by decide, by decide⟩ ?_
        refine x_V1 d_M_lay_47 e_M_lay_M_fails ⟨rfl, rfl, Nat.zero_le _, Nat.zero_le _⟩ rfl rfl rfl rfl (Nat.le_of_ble_eq_true rfl) (s_fails (up G o_M 0 0) 2) ?_
        refine x_ireturn d_M_lay_50 rfl ?_ (Nat.zero_le _) (Nat.zero_le _)
        exact bad 2 (by decide) (by unfold c_lay; rw [if_neg n1, if_pos z])
      refine x_iload_n d_M_lay_28 rfl rfl ?_
      refine x_iload_n d_M_lay_29 rfl rfl ?_
      refine x_iload_n d_M_lay_30 rfl rfl ?_
      refine x_S1 d_M_lay_31 e_M_lay_M_isCourse ⟨rfl, rfl, Nat.zero_le _, Nat.zero_le _⟩ rfl rfl (Nat.le_of_ble_eq_true rfl) (s_isCourse _ _ _ _) ?_
      refine x_if_eq (45) d_M_lay_34 (by decide) (fun c3 => ?_) (fun c3 => ?_)
      · exact two (Or.inl c3)
      · refine x_iload d_M_lay_37 rfl ?_
        refine x_S1 d_M_lay_39 e_M_lay_M_isMinute ⟨rfl, rfl, Nat.zero_le _, Nat.zero_le _⟩ rfl rfl (Nat.le_of_ble_eq_true rfl) (s_isMinute _ _) ?_
        refine x_if_ne (51) d_M_lay_42 (by decide) (fun c4 => ?_) (fun c4 => ?_)
        · have n2 : ¬ (f_co a b k = 0 ∨ f_wi by' 0 20 = 0) := fun z => by rcases z with z | z <;> omega
          have q4 := f_wi_1 c4
          obtain ⟨x, rfl⟩ : ∃ x : Nat, w = x := ⟨w.toNat, by omega⟩
          obtain ⟨y, rfl⟩ : ∃ y : Nat, by' = y := ⟨by'.toNat, by omega⟩
          have rr := rw' x (by omega)
          have cl : c_lay h G a b k f y x = if G m_rSort x = -1 then 3 else if G m_rMany x ≤ y then 4 else 0 := by unfold c_lay; rw [if_neg n1, if_neg n2, Int.toNat_natCast]
          refine x_aload_n d_M_lay_51 rfl rfl ?_
          refine x_getF (kf := 80) d_M_lay_52 rfl rfl rfl in_M f_M_208 ?_
          refine x_iload d_M_lay_55 rfl ?_
          refine x_ialdN (x) d_M_lay_57 rfl (by omega) (by omega) ?_
          rw [up_cell (show m_rSort ≠ o_M by decide)]
          refine x_iconst (-1) d_M_lay_58 rfl ⟨by decide, by decide⟩ ?_
          refine x_icmp_ne (68) d_M_lay_59 (by decide) (fun c5 => ?_) (fun c5 => ?_)
          · refine x_aload_n d_M_lay_68 rfl rfl ?_
            refine x_getF (kf := 81) d_M_lay_69 rfl rfl rfl in_M f_M_211 ?_
            refine x_iload d_M_lay_72 rfl ?_
            refine x_ialdN (x) d_M_lay_74 rfl (by omega) (by omega) ?_
            rw [up_cell (show m_rMany ≠ o_M by decide)]
            refine x_iload d_M_lay_75 rfl ?_
            refine x_icmp_gt (86) d_M_lay_77 (by decide) (fun c6 => ?_) (fun c6 => ?_)
            · have eC : c_lay h G a b k f y x = 0 := by rw [cl, if_neg c5, if_neg (by omega)]
              refine x_aload_n d_M_lay_86 rfl rfl ?_
              refine x_iload_n d_M_lay_87 rfl rfl ?_
              refine x_iload_n d_M_lay_88 rfl rfl ?_
              refine x_iload_n d_M_lay_89 rfl rfl ?_
              refine x_iload d_M_lay_90 rfl ?_
              refine x_iload d_M_lay_92 rfl ?_
              refine x_VQ d_M_lay_94 e_M_lay_M_outBy ⟨rfl, rfl, Nat.zero_le _, Nat.zero_le _⟩ rfl rfl rfl rfl (Nat.le_of_ble_eq_true rfl) (s_outBy hh r (a, b, k, f) (by show -1 ≤ f ∧ f < _; omega) y (by omega)) (fun v τ hv => ?_)
              obtain ⟨G1, N, L, W, rfl, f1, sm, w1, w2, w3, w4, w5, w6, rfl⟩ := hv
              show x_A y_M_lay 97 [some oM, some (xI a), some (xI b), some (xI k), some (xI f), some (xI (y : Int)), some (xI (x : Int)), none, none, none, none] [xI W] (S0, G1) 0 0 Q
              have hL : ∀ e, e < 2 * N.1 → 0 ≤ L e := fun e he' => by have := lCut_bd w1 w3 e; rw [lCut_eq he'] at this; exact this.1
              refine x_istore d_M_lay_97 (by decide) ?_
              dsimp only [x_st1, x_st2, x_kill, List.set, List.getElem?_cons_zero, List.getElem?_cons_succ]
              refine x_aload_n d_M_lay_99 rfl rfl ?_
              refine x_iload d_M_lay_100 rfl ?_
              refine x_VQ d_M_lay_102 e_M_lay_M_sideOf ⟨rfl, rfl, Nat.zero_le _, Nat.zero_le _⟩ rfl rfl rfl rfl (Nat.le_of_ble_eq_true rfl) (s_sideOf w1 w2 hL y (by omega)) (fun v τ hv => ?_)
              obtain ⟨rfl, G2, R, rfl, g1, g2, g3⟩ := hv
              show x_A y_M_lay 105 [some oM, some (xI a), some (xI b), some (xI k), some (xI f), some (xI (y : Int)), some (xI (x : Int)), some (xI W), none, none, none] [] (S0, G2) 0 0 Q
              have es : l_sd h a b k f y = R := f_side_eq (g2.side w3 w4 w5 w6)
              have pf : pFrame (up G o_M 0 0) G2 := f1.p.tr ⟨fun i _ h2 => g1 i (by intro z; subst z; revert h2; decide) (by intro z; subst z; revert h2; decide) (by intro z; subst z; revert h2; decide), fun k _ => by rw [g1 o_M (by decide) (by decide) (by decide)]⟩
              have eS : G2 m_rSort = G m_rSort := (pf.1 m_rSort (by decide) (Or.inr (by decide))).trans (up_cell (by decide))
              have eN : G2 m_numbers = G m_numbers := (pf.1 m_numbers (by decide) (Or.inr (by decide))).trans (up_cell (by decide))
              refine x_iconst (0) d_M_lay_105 rfl ⟨by decide, by decide⟩ ?_
              refine x_istore d_M_lay_106 (by decide) ?_
              dsimp only [x_st1, x_st2, x_kill, List.set, List.getElem?_cons_zero, List.getElem?_cons_succ]
              refine x_up_to (P := fun m => ∀ z9 z10 G', (∀ i, i ≠ m_numbers → G' i = G2 i) → (∀ j, G' m_numbers j = if 30 * x ≤ j ∧ j < 30 * x + m then f_cutTo (G m_rSort x) (sN R (j - 30 * x) 16) else G m_numbers j) → x_A y_M_lay 108 [some oM, some (xI a), some (xI b), some (xI k), some (xI f), some (xI (y : Int)), some (xI (x : Int)), some (xI W), some (xI (m : Int)), z9, z10] [] (S0, G') 0 0 Q) 0 (y + 1) (Nat.zero_le _) (fun z9 z10 G' h1 h2 => ?_) (fun m _ hm kk z9 z10 G' h1 h2 => ?_) none none G2 (fun _ _ => rfl) (fun j => by rw [if_neg (by omega), eN])
              · refine x_iload d_M_lay_108 rfl ?_
                refine x_iload d_M_lay_110 rfl ?_
                refine x_icmp_gt (139) d_M_lay_112 (by decide) (fun g => ?_) (fun g => ?_)
                · refine x_iload d_M_lay_139 rfl ?_
                  refine x_iconst (1) d_M_lay_141 rfl ⟨by decide, by decide⟩ ?_
                  refine x_iaddN d_M_lay_142 (by omega) (by omega) ?_
                  refine x_ireturn d_M_lay_143 rfl ?_ (Nat.zero_le _) (Nat.zero_le _)
                  rw [← hQ]
                  refine ⟨_, rfl, Or.inr ⟨eC, rfl, G2, G', rfl, pf, h1, fun j => ?_⟩⟩
                  rw [Int.toNat_natCast, Int.toNat_natCast, es, h2 j]
                  by_cases c : 30 * x ≤ j ∧ j ≤ 30 * x + y
                  · rw [if_pos c, if_pos (by omega)]
                  · rw [if_neg c, if_neg (by omega)]
                · omega
              · have eS' : G' m_rSort x = G m_rSort x := by rw [h1 m_rSort (by decide), eS]
                have cp := s_puts G' (x := x) (n := m) (by omega) (by omega) (sN R m 16) (by rw [eS']; omega)
                rw [eS'] at cp
                refine x_iload d_M_lay_108 rfl ?_
                refine x_iload d_M_lay_110 rfl ?_
                refine x_icmp_gt (139) d_M_lay_112 (by decide) (fun g => ?_) (fun g => ?_)
                · omega
                · refine x_aload_n d_M_lay_115 rfl rfl ?_
                  refine x_iload d_M_lay_116 rfl ?_
                  refine x_iload d_M_lay_118 rfl ?_
                  refine x_aload_n d_M_lay_120 rfl rfl ?_
                  refine x_getF (kf := 69) d_M_lay_121 rfl rfl rfl in_M f_M_174 ?_
                  refine x_iload d_M_lay_124 rfl ?_
                  refine x_ialdN (m) d_M_lay_126 rfl (by omega) (by omega) ?_
                  rw [h1 m_sides (by decide), g3 m (by omega), if_pos (by omega)]
                  refine x_i2l d_M_lay_127 ?_
                  refine x_V1 d_M_lay_128 e_M_lay_M_puts ⟨rfl, rfl, Nat.zero_le _, Nat.zero_le _⟩ rfl rfl rfl rfl (Nat.le_of_ble_eq_true rfl) (cp) ?_
                  refine x_lstore d_M_lay_131 (by decide) ?_
                  dsimp only [x_st1, x_st2, x_kill, List.set, List.getElem?_cons_zero, List.getElem?_cons_succ]
                  refine x_iincN d_M_lay_133 rfl (by decide) (by omega) (by omega) ?_
                  dsimp only [x_st1, x_st2, x_kill, List.set, List.getElem?_cons_zero, List.getElem?_cons_succ]
                  refine x_goto (108) d_M_lay_136 (by decide) ?_
                  refine kk _ _ _ (fun i hi => by rw [up_cell hi]; exact h1 i hi) (fun j => ?_)
                  by_cases e : j = 30 * x + m
                  · subst e
                    rw [up_same, if_pos (by omega), show 30 * x + m - 30 * x = m by omega]
                  · rw [up_ne e, h2 j]
                    by_cases c : 30 * x ≤ j ∧ j < 30 * x + m
                    · rw [if_pos c, if_pos (by omega)]
                    · rw [if_neg c, if_neg (by omega)]
            · refine x_aload_n d_M_lay_80 rfl rfl ?_
              refine x_iconst (4) d_M_lay_81 rfl ⟨by decide, by decide⟩ ?_
              refine x_V1 d_M_lay_82 e_M_lay_M_fails ⟨rfl, rfl, Nat.zero_le _, Nat.zero_le _⟩ rfl rfl rfl rfl (Nat.le_of_ble_eq_true rfl) (s_fails (up G o_M 0 0) 4) ?_
              refine x_ireturn d_M_lay_85 rfl ?_ (Nat.zero_le _) (Nat.zero_le _)
              exact bad 4 (by decide) (by rw [cl, if_neg c5, if_pos (by omega)])
          · refine x_aload_n d_M_lay_62 rfl rfl ?_
            refine x_iconst (3) d_M_lay_63 rfl ⟨by decide, by decide⟩ ?_
            refine x_V1 d_M_lay_64 e_M_lay_M_fails ⟨rfl, rfl, Nat.zero_le _, Nat.zero_le _⟩ rfl rfl rfl rfl (Nat.le_of_ble_eq_true rfl) (s_fails (up G o_M 0 0) 3) ?_
            refine x_ireturn d_M_lay_67 rfl ?_ (Nat.zero_le _) (Nat.zero_le _)
            exact bad 3 (by decide) (by rw [cl, if_pos (by omega)])
        · exact two (Or.inr (by omega))
    · exact one (Or.inr (by omega))
