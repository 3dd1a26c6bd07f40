/-! the reference: given, costs -/
def c_giv (h : HH) (a b k f m u : Int) : Int := if f_wi f (-1) (h.2 2 - 1) = 0 then 1 else if f_co a b k = 0 ∨ f_wi m 0 20 = 0 ∨ f_wi u 0 3 = 0 then 2 else 0
def f_giv (h : HH) (c : CC) (m : Nat) (u : Int) : Int := if 3 ≤ u then su (fun p => (sk h c m).1 p + (sk h c m).2.1 p) (h.2 0) else if u = 0 then (sk h c m).2.2.2.1 else if u = 1 then (sk h c m).2.2.2.2.1 else (sk h c m).2.2.2.2.2
def v_giv (h : HH) (a b k f m u : Int) : Int := if c_giv h a b k f m u = 0 then f_giv h (a, b, k, f) m.toNat u else 0
theorem s_given {h : HH} {G : Nat → Nat → Int} (hh : Hwf h) (r0 : mRep h G) (a b k f m u : Int) : x_M y_M_given [oM, xI a, xI b, xI k, xI f, xI m, xI u] (S0, G) (fun r τ => ∃ v, r = .inl v ∧ mAnsL G (c_giv h a b k f m u) (v_giv h a b k f m u) v τ) := by
  have bb := hh.1
  have r := r0.th 0
  refine x_of 3 rfl (Nat.le_of_ble_eq_true rfl) ?_
  show x_A y_M_given 0 [some oM, some (xI a), some (xI b), some (xI k), some (xI f), some (xI m), some (xI u), none, none, none] [] (S0, G) 0 0 _
  generalize hV : v_giv h a b k f m u = V
  generalize hC : c_giv h a b k f m u = C
  generalize hQ : (fun (r : XRes) (τ : XM) => ∃ v, r = .inl v ∧ mAnsL G C V v τ) = Q
  have hV0 : C ≠ 0 → V = 0 := fun z => by rw [← hV]; unfold v_giv; rw [hC, if_neg z]
  refine x_aload_n d_M_given_0 rfl rfl ?_
  refine x_iconst (0) d_M_given_1 rfl ⟨by decide, by decide⟩ ?_
  refine x_putIG (kf := 0) tyX12 d_M_given_2 rfl rfl rfl in_M f_M_217 tyX12_ok nmX12 (by decide +kernel) rfl ?_
  refine x_aload_n d_M_given_5 rfl rfl ?_
  refine x_iload d_M_given_6 rfl ?_
  refine x_V1 d_M_given_8 e_M_given_M_isFire ⟨rfl, rfl, Nat.zero_le _, Nat.zero_le _⟩ rfl rfl rfl rfl (Nat.le_of_ble_eq_true rfl) (s_isFire hh r _) ?_
  refine x_if_ne (21) d_M_given_11 (by decide) (fun c1 => ?_) (fun c1 => ?_)
  · refine x_iload_n d_M_given_21 rfl rfl ?_
    refine x_iload_n d_M_given_22 rfl rfl ?_
    refine x_iload_n d_M_given_23 rfl rfl ?_
    refine x_S1 d_M_given_24 e_M_given_M_isCourse ⟨rfl, rfl, Nat.zero_le _, Nat.zero_le _⟩ rfl rfl (Nat.le_of_ble_eq_true rfl) (s_isCourse _ _ _ _) ?_
    have two : (f_co a b k = 0 ∨ f_wi m 0 20 = 0 ∨ f_wi u 0 3 = 0) → x_A y_M_given 51 [some oM, some (xI a), some (xI b), some (xI k), some (xI f), some (xI m), some (xI u), none, none, none] [] (S0, up G o_M 0 0) 0 0 Q := by
      intro z
      have eC : C = 2 := by rw [← hC]; unfold c_giv; rw [if_neg c1, if_pos z]
      refine x_aload_n d_M_given_51 rfl rfl ?_
      refine x_iconst (2) d_M_given_52 rfl ⟨by decide, by decide⟩ ?_
      refine x_V1 d_M_given_53 e_M_given_M_fails ⟨rfl, rfl, Nat.zero_le _, Nat.zero_le _⟩ rfl rfl rfl rfl (Nat.le_of_ble_eq_true rfl) (s_fails (up G o_M 0 0) 2) ?_
      refine x_i2l d_M_given_56 ?_
      refine x_lreturn d_M_given_57 rfl ?_ (Nat.zero_le _) (Nat.zero_le _)
      rw [← hQ, hV0 (by omega)]
      exact ⟨_, rfl, mAnsL.no 0 eC⟩
    refine x_if_eq (51) d_M_given_27 (by decide) (fun c2 => ?_) (fun c2 => ?_)
    · exact two (Or.inl c2)
    · refine x_iload d_M_given_30 rfl ?_
      refine x_S1 d_M_given_32 e_M_given_M_isMinute ⟨rfl, rfl, Nat.zero_le _, Nat.zero_le _⟩ rfl rfl (Nat.le_of_ble_eq_true rfl) (s_isMinute _ _) ?_
      refine x_if_eq (51) d_M_given_35 (by decide) (fun c3 => ?_) (fun c3 => ?_)
      · exact two (Or.inr (Or.inl c3))
      · refine x_iload d_M_given_38 rfl ?_
        refine x_i2l d_M_given_40 ?_
        refine x_lconst (0) d_M_given_41 rfl ⟨by decide, by decide⟩ ?_
        refine x_ldc2 (3) d_M_given_42 k_M_226 ⟨by decide, by decide⟩ ?_
        refine x_S1 d_M_given_45 e_M_given_M_within ⟨rfl, rfl, Nat.zero_le _, Nat.zero_le _⟩ rfl rfl (Nat.le_of_ble_eq_true rfl) (s_within _ _ _ _) ?_
        refine x_if_ne (58) d_M_given_48 (by decide) (fun c4 => ?_) (fun c4 => ?_)
        · have c4 : f_wi u 0 3 ≠ 0 := c4
          have q1 := f_wi_1 c1
          have q3 := f_wi_1 c3
          have q4 := f_wi_1 c4
          obtain ⟨y, rfl⟩ : ∃ y : Nat, m = y := ⟨m.toNat, by omega⟩
          have eC : C = 0 := by rw [← hC]; unfold c_giv; rw [if_neg c1, if_neg (fun z => by rcases z with z | z | z <;> omega)]
          have eV : f_giv h (a, b, k, f) y u = V := by rw [← hV]; unfold v_giv; rw [hC, if_pos eC, Int.toNat_natCast]
          have hcc : -1 ≤ ((a, b, k, f) : CC).2.2.2 ∧ ((a, b, k, f) : CC).2.2.2 < h.2 2 := by show -1 ≤ f ∧ f < _; omega
          refine x_aload_n d_M_given_58 rfl rfl ?_
          refine x_iload_n d_M_given_59 rfl rfl ?_
          refine x_iload_n d_M_given_60 rfl rfl ?_
          refine x_iload_n d_M_given_61 rfl rfl ?_
          refine x_iload d_M_given_62 rfl ?_
          refine x_VQ d_M_given_64 e_M_given_M_burns ⟨rfl, rfl, Nat.zero_le _, Nat.zero_le _⟩ rfl rfl rfl rfl (Nat.le_of_ble_eq_true rfl) (s_burns hh r (a, b, k, f) hcc) (fun v τ hv => ?_)
          obtain ⟨rfl, G1, rfl, f1, sm⟩ := hv
          show x_A y_M_given 67 [some oM, some (xI a), some (xI b), some (xI k), some (xI f), some (xI (y : Int)), some (xI u), none, none, none] [] (S0, G1) 0 0 Q
          have fin : mAnsL G C V (some (xL V)) (S0, G1) := by rw [eC]; exact ⟨G1, rfl, f1.p, rfl⟩
          have sy := sm.1 y (by omega)
          have sb := (sk_le hh hcc (m := y) (by omega)).1
          have e1 := (f1.rep r).1.1
          unfold f_giv at eV
          refine x_iload d_M_given_67 rfl ?_
          refine x_iconst (3) d_M_given_69 rfl ⟨by decide, by decide⟩ ?_
          refine x_icmp_ge (115) d_M_given_70 (by decide) (fun c5 => ?_) (fun c5 => ?_)
          · rw [if_pos (by omega)] at eV
            refine x_lconst (0) d_M_given_115 rfl ⟨by decide, by decide⟩ ?_
            refine x_lstore d_M_given_116 (by decide) ?_
            dsimp only [x_st1, x_st2, x_kill, List.set, List.getElem?_cons_zero, List.getElem?_cons_succ]
            refine x_iconst (0) d_M_given_118 rfl ⟨by decide, by decide⟩ ?_
            refine x_istore d_M_given_119 (by decide) ?_
            dsimp only [x_st1, x_st2, x_kill, List.set, List.getElem?_cons_zero, List.getElem?_cons_succ]
            have all : x_A y_M_given 121 [some oM, some (xI a), some (xI b), some (xI k), some (xI f), some (xI (y : Int)), some (xI u), some (xL (su (fun p => (sk h (a, b, k, f) y).1 p + (sk h (a, b, k, f) y).2.1 p) 0)), none, some (xI ((0 : Nat) : Int))] [] (S0, G1) 0 0 Q := by
              refine x_up_to (P := fun p => x_A y_M_given 121 [some oM, some (xI a), some (xI b), some (xI k), some (xI f), some (xI (y : Int)), some (xI u), some (xL (su (fun p => (sk h (a, b, k, f) y).1 p + (sk h (a, b, k, f) y).2.1 p) p)), none, some (xI (p : Int))] [] (S0, G1) 0 0 Q) 0 (h.2 0) (Nat.zero_le _) ?_ (fun p _ hp k1 => ?_)
              · refine x_iload d_M_given_121 rfl ?_
                refine x_aload_n d_M_given_123 rfl rfl ?_
                refine x_getIG (kf := 1) d_M_given_124 rfl rfl rfl in_M f_M_228 ?_
                refine x_icmp_ge (169) d_M_given_127 (by decide) (fun c6 => ?_) (fun c6 => ?_)
                · refine x_lload d_M_given_169 rfl ?_
                  rw [eV]
                  refine x_lreturn d_M_given_171 rfl ?_ (Nat.zero_le _) (Nat.zero_le _)
                  rw [← hQ]
                  exact ⟨_, rfl, fin⟩
                · omega
              · have sp := sb p
                have ep := sy.1 p (by omega)
                have bd := su_bd (f := fun p => (sk h (a, b, k, f) y).1 p + (sk h (a, b, k, f) y).2.1 p) (c := 0) (d := 4000000) (n := p) (fun j _ => by have := sb j; omega)
                have st : su (fun p => (sk h (a, b, k, f) y).1 p + (sk h (a, b, k, f) y).2.1 p) (p + 1) = su (fun p => (sk h (a, b, k, f) y).1 p + (sk h (a, b, k, f) y).2.1 p) p + ((sk h (a, b, k, f) y).1 p + (sk h (a, b, k, f) y).2.1 p) := rfl
                refine x_iload d_M_given_121 rfl ?_
                refine x_aload_n d_M_given_123 rfl rfl ?_
                refine x_getIG (kf := 1) d_M_given_124 rfl rfl rfl in_M f_M_228 ?_
                refine x_icmp_ge (169) d_M_given_127 (by decide) (fun c6 => ?_) (fun c6 => ?_)
                · omega
                · refine x_lload d_M_given_130 rfl ?_
                  refine x_aload_n d_M_given_132 rfl rfl ?_
                  refine x_getF (kf := 53) d_M_given_133 rfl rfl rfl in_M f_M_129 ?_
                  refine x_bipush (8) d_M_given_136 rfl ⟨by decide, by decide⟩ ?_
                  refine x_iload d_M_given_138 rfl ?_
                  refine x_imulN d_M_given_140 (by omega) (by omega) ?_
                  refine x_iload d_M_given_141 rfl ?_
                  refine x_iaddN d_M_given_143 (by omega) (by omega) ?_
                  refine x_ialdN (8 * y + p) d_M_given_144 rfl (by omega) (by omega) ?_
                  refine x_aload_n d_M_given_145 rfl rfl ?_
                  refine x_getF (kf := 54) d_M_given_146 rfl rfl rfl in_M f_M_132 ?_
                  refine x_bipush (8) d_M_given_149 rfl ⟨by decide, by decide⟩ ?_
                  refine x_iload d_M_given_151 rfl ?_
                  refine x_imulN d_M_given_153 (by omega) (by omega) ?_
                  refine x_iload d_M_given_154 rfl ?_
                  refine x_iaddN d_M_given_156 (by omega) (by omega) ?_
                  refine x_ialdN (8 * y + p) d_M_given_157 rfl (by omega) (by omega) ?_
                  rw [ep.1, ep.2]
                  refine x_iaddN d_M_given_158 (by omega) (by omega) ?_
                  refine x_i2l d_M_given_159 ?_
                  refine x_ladd d_M_given_160 ?_
                  rw [w64_id (by omega) (by omega), ← st]
                  refine x_lstore d_M_given_161 (by decide) ?_
                  dsimp only [x_st1, x_st2, x_kill, List.set, List.getElem?_cons_zero, List.getElem?_cons_succ]
                  refine x_iincN d_M_given_163 rfl (by decide) (by omega) (by omega) ?_
                  dsimp only [x_st1, x_st2, x_kill, List.set, List.getElem?_cons_zero, List.getElem?_cons_succ]
                  refine x_goto (121) d_M_given_166 (by decide) ?_
                  exact k1
            exact all
          · rw [if_neg (by omega)] at eV
            refine x_iload d_M_given_73 rfl ?_
            refine x_if_ne (89) d_M_given_75 (by decide) (fun c6 => ?_) (fun c6 => ?_)
            · rw [if_neg c6] at eV
              refine x_iload d_M_given_89 rfl ?_
              refine x_iconst (1) d_M_given_91 rfl ⟨by decide, by decide⟩ ?_
              refine x_icmp_ne (106) d_M_given_92 (by decide) (fun c7 => ?_) (fun c7 => ?_)
              · rw [if_neg c7] at eV
                refine x_aload_n d_M_given_106 rfl rfl ?_
                refine x_getF (kf := 59) d_M_given_107 rfl rfl rfl in_M f_M_147 ?_
                refine x_iload d_M_given_110 rfl ?_
                refine x_ialdN (y) d_M_given_112 rfl (by omega) (by omega) ?_
                refine x_i2l d_M_given_113 ?_
                rw [sy.2.2.2.2, eV]
                refine x_lreturn d_M_given_114 rfl ?_ (Nat.zero_le _) (Nat.zero_le _)
                rw [← hQ]
                exact ⟨_, rfl, fin⟩
              · rw [if_pos c7] at eV
                refine x_aload_n d_M_given_95 rfl rfl ?_
                refine x_getF (kf := 58) d_M_given_96 rfl rfl rfl in_M f_M_144 ?_
                refine x_iload d_M_given_99 rfl ?_
                refine x_ialdN (y) d_M_given_101 rfl (by omega) (by omega) ?_
                refine x_i2l d_M_given_102 ?_
                refine x_goto (114) d_M_given_103 (by decide) ?_
                rw [sy.2.2.2.1, eV]
                refine x_lreturn d_M_given_114 rfl ?_ (Nat.zero_le _) (Nat.zero_le _)
                rw [← hQ]
                exact ⟨_, rfl, fin⟩
            · rw [if_pos c6] at eV
              refine x_aload_n d_M_given_78 rfl rfl ?_
              refine x_getF (kf := 57) d_M_given_79 rfl rfl rfl in_M f_M_141 ?_
              refine x_iload d_M_given_82 rfl ?_
              refine x_ialdN (y) d_M_given_84 rfl (by omega) (by omega) ?_
              refine x_i2l d_M_given_85 ?_
              refine x_goto (114) d_M_given_86 (by decide) ?_
              rw [sy.2.2.1, eV]
              refine x_lreturn d_M_given_114 rfl ?_ (Nat.zero_le _) (Nat.zero_le _)
              rw [← hQ]
              exact ⟨_, rfl, fin⟩
        · exact two (Or.inr (Or.inr c4))
  · have eC : C = 1 := by rw [← hC]; unfold c_giv; rw [if_pos c1]
    refine x_aload_n d_M_given_14 rfl rfl ?_
    refine x_iconst (1) d_M_given_15 rfl ⟨by decide, by decide⟩ ?_
    refine x_V1 d_M_given_16 e_M_given_M_fails ⟨rfl, rfl, Nat.zero_le _, Nat.zero_le _⟩ rfl rfl rfl rfl (Nat.le_of_ble_eq_true rfl) (s_fails (up G o_M 0 0) 1) ?_
    refine x_i2l d_M_given_19 ?_
    refine x_lreturn d_M_given_20 rfl ?_ (Nat.zero_le _) (Nat.zero_le _)
    rw [← hQ, hV0 (by omega)]
    exact ⟨_, rfl, mAnsL.no 0 eC⟩
theorem s_costs {h : HH} {G : Nat → Nat → Int} (r : mRep h G) (p m : Nat) (hp : p < 8) (hm : m ≤ 20) (z : Int) (hz : 0 ≤ z ∧ z ≤ 100) : x_M y_M_costs [oM, xI (p : Int), xI (m : Int), xI z] (S0, G) (x_is (.inl (some (xI (z + if h.1 9 0 0 < G m_mixed (8 * m + p) then 2 else 0)))) (S0, G)) := by
  refine x_of 0 rfl (Nat.le_of_ble_eq_true rfl) ?_
  show x_A y_M_costs 0 [some oM, some (xI (p : Int)), some (xI (m : Int)), some (xI z)] [] (S0, G) 0 0 _
  refine x_iload_n d_M_costs_0 rfl rfl ?_
  refine x_aload_n d_M_costs_1 rfl rfl ?_
  refine x_iload_n d_M_costs_2 rfl rfl ?_
  refine x_iload_n d_M_costs_3 rfl rfl ?_
  refine x_V1 d_M_costs_4 e_M_costs_M_isShut ⟨rfl, rfl, Nat.zero_le _, Nat.zero_le _⟩ rfl rfl rfl rfl (Nat.le_of_ble_eq_true rfl) (s_isShut r p m hp hm) ?_
  refine x_if_eq (14) d_M_costs_7 (by decide) (fun c => ?_) (fun c => ?_)
  · have c := of_decide_eq_false (b2i_0 c)
    refine x_iconst (0) d_M_costs_14 rfl ⟨by decide, by decide⟩ ?_
    refine x_iaddN d_M_costs_15 (by omega) (by omega) ?_
    refine x_ireturn d_M_costs_16 rfl ?_ (Nat.zero_le _) (Nat.zero_le _)
    rw [if_neg c]
    exact ⟨rfl, rfl⟩
  · have c := of_decide_eq_true (b2i_1 c)
    refine x_iconst (2) d_M_costs_10 rfl ⟨by decide, by decide⟩ ?_
    refine x_goto (15) d_M_costs_11 (by decide) ?_
    refine x_iaddN d_M_costs_15 (by omega) (by omega) ?_
    refine x_ireturn d_M_costs_16 rfl ?_ (Nat.zero_le _) (Nat.zero_le _)
    rw [if_pos c]
    exact ⟨rfl, rfl⟩
