/-! the reference: fits, next -/
def c_pl (pl : Int) : Int := if f_wi pl 0 3 = 0 then 1 else 0
def v_fits (h : HH) (pl : Int) : Int := if c_pl pl = 0 then f_ft h pl 5 else 0
def v_next (h : HH) (pl : Int) : Int := if c_pl pl = 0 then v_nxt h pl else 0
section MNx
variable {h : HH} {G : Nat → Nat → Int}
theorem s_fits (hh : Hwf h) (r0 : mRep h G) (pl : Int) : x_M y_M_fits [oM, xI pl] (S0, G) (fun r τ => ∃ v, r = .inl v ∧ mAnsF G (c_pl pl) (v_fits h pl) v τ) := by
  refine x_of 0 rfl (Nat.le_of_ble_eq_true rfl) ?_
  show x_A y_M_fits 0 [some oM, some (xI pl)] [] (S0, G) 0 0 _
  generalize hQ : (fun (r : XRes) (τ : XM) => ∃ v, r = .inl v ∧ mAnsF G (c_pl pl) (v_fits h pl) v τ) = Q
  refine x_aload_n d_M_fits_0 rfl rfl ?_
  refine x_iconst (0) d_M_fits_1 rfl ⟨by decide, by decide⟩ ?_
  refine x_putIG (kf := 0) tyX12 d_M_fits_2 rfl rfl rfl in_M f_M_217 tyX12_ok nmX12 (by decide +kernel) rfl ?_
  refine x_iload_n d_M_fits_5 rfl rfl ?_
  refine x_S1 d_M_fits_6 e_M_fits_M_isPlan ⟨rfl, rfl, Nat.zero_le _, Nat.zero_le _⟩ rfl rfl (Nat.le_of_ble_eq_true rfl) (s_isPlan _ _) ?_
  refine x_if_eq (20) d_M_fits_9 (by decide) (fun g => ?_) (fun g => ?_)
  · have eC : c_pl pl = 1 := if_pos g
    have eV : v_fits h pl = 0 := if_neg (by omega)
    refine x_aload_n d_M_fits_20 rfl rfl ?_
    refine x_iconst (1) d_M_fits_21 rfl ⟨by decide, by decide⟩ ?_
    refine x_V1 d_M_fits_22 e_M_fits_M_fails ⟨rfl, rfl, Nat.zero_le _, Nat.zero_le _⟩ rfl rfl rfl rfl (Nat.le_of_ble_eq_true rfl) (s_fails _ _) ?_
    refine x_ireturn d_M_fits_25 rfl ?_ (Nat.zero_le _) (Nat.zero_le _)
    rw [← hQ, eC, eV, up_on]
    exact ⟨_, rfl, _, rfl, (pFrame.rf _).q, rfl⟩
  · have eC : c_pl pl = 0 := if_neg g
    have eV : v_fits h pl = f_ft h pl 5 := if_pos eC
    refine x_aload_n d_M_fits_12 rfl rfl ?_
    refine x_iload_n d_M_fits_13 rfl rfl ?_
    refine x_VQ d_M_fits_14 e_M_fits_M_fitting ⟨rfl, rfl, Nat.zero_le _, Nat.zero_le _⟩ rfl rfl rfl rfl (Nat.le_of_ble_eq_true rfl) (s_fitting hh (r0.th 0) pl) (fun v τ H => ?_)
    obtain ⟨rfl, G1, rfl, f1, hm⟩ := H
    show x_A y_M_fits 17 [some oM, some (xI pl)] [xI (f_ft h pl 5)] (S0, G1) 0 0 Q
    refine x_goto (25) d_M_fits_17 (by decide) ?_
    refine x_ireturn d_M_fits_25 rfl ?_ (Nat.zero_le _) (Nat.zero_le _)
    rw [← hQ, eC, eV]
    exact ⟨_, rfl, G1, rfl, f1.q, rfl⟩
theorem f_nx_0 (pl all : Int) (hg : h.1 9 0 2 = 0) : ∀ n, f_nx h pl all n = (-1, 0)
  | 0 => rfl
  | n + 1 => by
    rw [← f_nx_0 pl all hg n]
    show (if _ then _ else _) = _
    rw [if_neg (fun z => by rw [hg, xb_zero] at z; cases z.1)]
theorem s_next (hh : Hwf h) (r0 : mRep h G) (pl : Int) : x_M y_M_next [oM, xI pl] (S0, G) (fun r τ => ∃ v, r = .inl v ∧ mAnsF G (c_pl pl) (v_next h pl) v τ) := by
  have bb := hh.1
  refine x_of 7 rfl (Nat.le_of_ble_eq_true rfl) ?_
  show x_A y_M_next 0 [some oM, some (xI pl), none, none, none, none, none, none, none] [] (S0, G) 0 0 _
  generalize hQ : (fun (r : XRes) (τ : XM) => ∃ v, r = .inl v ∧ mAnsF G (c_pl pl) (v_next h pl) v τ) = Q
  refine x_aload_n d_M_next_0 rfl rfl ?_
  refine x_iconst (0) d_M_next_1 rfl ⟨by decide, by decide⟩ ?_
  refine x_putIG (kf := 0) tyX12 d_M_next_2 rfl rfl rfl in_M f_M_217 tyX12_ok nmX12 (by decide +kernel) rfl ?_
  refine x_iload_n d_M_next_5 rfl rfl ?_
  refine x_S1 d_M_next_6 e_M_next_M_isPlan ⟨rfl, rfl, Nat.zero_le _, Nat.zero_le _⟩ rfl rfl (Nat.le_of_ble_eq_true rfl) (s_isPlan _ _) ?_
  refine x_if_ne (18) d_M_next_9 (by decide) (fun g => ?_) (fun g => ?_)
  · have eC : c_pl pl = 0 := if_neg g
    have eV : v_next h pl = v_nxt h pl := if_pos eC
    obtain ⟨s, hs1, hs2⟩ := f_ft_n h pl (f := 5) (by omega)
    have hs1' : s < 32 := hs1
    have ev : v_nxt h pl = if cb s < 2 then -1 else (f_nx h pl (cb s : Int) 168).1 := by unfold v_nxt; rw [hs2, Int.toNat_natCast]
    rw [eV, ev, eC] at hQ
    have bc : ∀ m p, f_cn h pl m p 5 ≤ cb s := fun m p => (cb_ft h pl m p (by omega) hs2).1
    have bs : cb s ≤ 5 := cb_le (by decide) hs1
    refine x_aload_n d_M_next_18 rfl rfl ?_
    refine x_iload_n d_M_next_19 rfl rfl ?_
    refine x_VQ d_M_next_20 e_M_next_M_fitting ⟨rfl, rfl, Nat.zero_le _, Nat.zero_le _⟩ rfl rfl rfl rfl (Nat.le_of_ble_eq_true rfl) (s_fitting hh (r0.th 0) pl) (fun v τ H => ?_)
    obtain ⟨rfl, G1, rfl, f1, hm⟩ := H
    rw [hs2]
    show x_A y_M_next 23 [some oM, some (xI pl), none, none, none, none, none, none, none] [xI (s : Int)] (S0, G1) 0 0 Q
    have r1 := f1.rep (r0.th 0)
    have eg : G1 o_M 12 = h.1 9 0 2 := r1.2.2.2.2.2.2.2.2.2.2.2.2.1
    have fin : ∀ V, V = (if cb s < 2 then -1 else (f_nx h pl (cb s : Int) 168).1) → Q (.inl (some (xI V))) (S0, G1) := fun V hV => by
      rw [← hQ, ← hV]
      exact ⟨_, rfl, G1, rfl, f1.q, rfl⟩
    refine x_istore_n d_M_next_23 rfl (by decide) ?_
    dsimp only [x_st1, x_st2, x_kill, List.set, List.getElem?_cons_zero, List.getElem?_cons_succ]
    refine x_iload_n d_M_next_24 rfl rfl ?_
    refine x_S1 d_M_next_25 e_M_next_M_ones ⟨rfl, rfl, Nat.zero_le _, Nat.zero_le _⟩ rfl rfl (Nat.le_of_ble_eq_true rfl) (s_ones _ (by omega)) ?_
    refine x_istore_n d_M_next_28 rfl (by decide) ?_
    dsimp only [x_st1, x_st2, x_kill, List.set, List.getElem?_cons_zero, List.getElem?_cons_succ]
    refine x_iload_n d_M_next_29 rfl rfl ?_
    refine x_iconst (2) d_M_next_30 rfl ⟨by decide, by decide⟩ ?_
    refine x_icmp_lt (41) d_M_next_31 (by decide) (fun g2 => ?_) (fun g2 => ?_)
    · refine x_iconst (-1) d_M_next_41 rfl ⟨by decide, by decide⟩ ?_
      refine x_ireturn d_M_next_42 rfl ?_ (Nat.zero_le _) (Nat.zero_le _)
      exact fin _ (by rw [if_pos (by omega)])
    · rw [if_neg (by omega)] at fin
      generalize hall : (cb s : Int) = all at *
      refine x_aload_n d_M_next_34 rfl rfl ?_
      refine x_getIG (kf := 12) d_M_next_35 rfl rfl rfl in_M f_M_272 ?_
      rw [eg]
      refine x_if_ne (43) d_M_next_38 (by decide) (fun g3 => ?_) (fun g3 => ?_)
      · refine x_iconst (-1) d_M_next_43 rfl ⟨by decide, by decide⟩ ?_
        refine x_istore d_M_next_44 (by decide) ?_
        dsimp only [x_st1, x_st2, x_kill, List.set, List.getElem?_cons_zero, List.getElem?_cons_succ]
        refine x_iconst (0) d_M_next_46 rfl ⟨by decide, by decide⟩ ?_
        refine x_istore d_M_next_47 (by decide) ?_
        dsimp only [x_st1, x_st2, x_kill, List.set, List.getElem?_cons_zero, List.getElem?_cons_succ]
        refine x_iconst (0) d_M_next_49 rfl ⟨by decide, by decide⟩ ?_
        refine x_istore d_M_next_50 (by decide) ?_
        dsimp only [x_st1, x_st2, x_kill, List.set, List.getElem?_cons_zero, List.getElem?_cons_succ]
        refine x_up_to (P := fun i => ∀ z7 z8, x_A y_M_next 52 [some oM, some (xI pl), some (xI (s : Int)), some (xI all), some (xI (f_nx h pl all i).1), some (xI (f_nx h pl all i).2), some (xI (i : Int)), z7, z8] [] (S0, G1) 0 0 Q) 0 168 (Nat.zero_le _) (fun z7 z8 => ?_) (fun i _ hi kk z7 z8 => ?_) none none
        · refine x_iload d_M_next_52 rfl ?_
          refine x_sipush (168) d_M_next_54 rfl ⟨by decide, by decide⟩ ?_
          refine x_icmp_ge (174) d_M_next_57 (by decide) (fun g4 => ?_) (fun g4 => ?_)
          · refine x_iload d_M_next_174 rfl ?_
            refine x_ireturn d_M_next_176 rfl ?_ (Nat.zero_le _) (Nat.zero_le _)
            exact fin _ rfl
          · omega
        · have ex : f_nx h pl all (i + 1) = if xb (h.1 9 0 2) (i % 8) = true ∧ ((f_nx h pl all i).1 = -1 ∨ max (f_cn h pl (i / 8) (i % 8) 5) (all - f_cn h pl (i / 8) (i % 8) 5) < (f_nx h pl all i).2) then ((i : Int), max (f_cn h pl (i / 8) (i % 8) 5) (all - f_cn h pl (i / 8) (i % 8) 5)) else f_nx h pl all i := rfl
          rw [ex] at kk
          have bcm := bc (i / 8) (i % 8)
          have bcn := f_cn_bd h pl (i / 8) (i % 8) 5
          generalize hst : f_nx h pl all i = st at *
          have key : ∀ i : Fin 168, x_rem ((i : Nat) : Int) 8 = (((i : Nat) % 8 : Nat) : Int) := by decide +kernel
          refine x_iload d_M_next_52 rfl ?_
          refine x_sipush (168) d_M_next_54 rfl ⟨by decide, by decide⟩ ?_
          refine x_icmp_ge (174) d_M_next_57 (by decide) (fun g4 => ?_) (fun g4 => ?_)
          · omega
          · refine x_aload_n d_M_next_60 rfl rfl ?_
            refine x_getIG (kf := 12) d_M_next_61 rfl rfl rfl in_M f_M_272 ?_
            rw [eg]
            refine x_iload d_M_next_64 rfl ?_
            refine x_bipush (8) d_M_next_66 rfl ⟨by decide, by decide⟩ ?_
            refine x_irem d_M_next_68 (by decide) ?_
            rw [show x_rem (i : Int) 8 = ((i % 8 : Nat) : Int) from key ⟨i, hi⟩]
            refine x_ishr d_M_next_69 ?_
            refine x_iconst (1) d_M_next_70 rfl ⟨by decide, by decide⟩ ?_
            refine x_iand d_M_next_71 ?_
            rw [x_and1, xb_shr _ (by omega)]
            by_cases q : xb (h.1 9 0 2) (i % 8) = true
            · rw [if_pos q]
              refine x_if_ne (78) d_M_next_72 (by decide) (fun g5 => ?_) (fun g5 => ?_)
              · refine x_iconst (0) d_M_next_78 rfl ⟨by decide, by decide⟩ ?_
                refine x_istore d_M_next_79 (by decide) ?_
                dsimp only [x_st1, x_st2, x_kill, List.set, List.getElem?_cons_zero, List.getElem?_cons_succ]
                refine x_iconst (0) d_M_next_81 rfl ⟨by decide, by decide⟩ ?_
                refine x_istore d_M_next_82 (by decide) ?_
                dsimp only [x_st1, x_st2, x_kill, List.set, List.getElem?_cons_zero, List.getElem?_cons_succ]
                refine x_up_to (P := fun f => x_A y_M_next 84 [some oM, some (xI pl), some (xI (s : Int)), some (xI all), some (xI st.1), some (xI st.2), some (xI (i : Int)), some (xI (f_cn h pl (i / 8) (i % 8) f)), some (xI (f : Int))] [] (S0, G1) 0 0 Q) 0 5 (Nat.zero_le _) ?_ (fun f _ hf k2 => ?_)
                · generalize f_cn h pl (i / 8) (i % 8) 5 = n at *
                  have upd : (st.1 = -1 ∨ max n (all - n) < st.2) → x_A y_M_next 160 [some oM, some (xI pl), some (xI (s : Int)), some (xI all), some (xI st.1), some (xI st.2), some (xI (i : Int)), some (xI n), some (xI (max n (all - n)))] [] (S0, G1) 0 0 Q := by
                    intro z
                    rw [if_pos ⟨q, z⟩] at kk
                    refine x_iload d_M_next_160 rfl ?_
                    refine x_istore d_M_next_162 (by decide) ?_
                    dsimp only [x_st1, x_st2, x_kill, List.set, List.getElem?_cons_zero, List.getElem?_cons_succ]
                    refine x_iload d_M_next_164 rfl ?_
                    refine x_istore d_M_next_166 (by decide) ?_
                    dsimp only [x_st1, x_st2, x_kill, List.set, List.getElem?_cons_zero, List.getElem?_cons_succ]
                    refine x_iincN d_M_next_168 rfl (by decide) (by omega) (by omega) ?_
                    dsimp only [x_st1, x_st2, x_kill, List.set, List.getElem?_cons_zero, List.getElem?_cons_succ]
                    refine x_goto (52) d_M_next_171 (by decide) ?_
                    exact kk _ _
                  refine x_iload d_M_next_84 rfl ?_
                  refine x_iconst (5) d_M_next_86 rfl ⟨by decide, by decide⟩ ?_
                  refine x_icmp_ge (133) d_M_next_87 (by decide) (fun g6 => ?_) (fun g6 => ?_)
                  · refine x_iload d_M_next_133 rfl ?_
                    refine x_iload_n d_M_next_135 rfl rfl ?_
                    refine x_iload d_M_next_136 rfl ?_
                    refine x_isubN d_M_next_138 (by omega) (by omega) ?_
                    refine x_S1 d_M_next_139 e_M_next_JM_max ⟨rfl, rfl, Nat.zero_le _, Nat.zero_le _⟩ rfl rfl (Nat.le_of_ble_eq_true rfl) (s_max _ _ _) ?_
                    refine x_istore d_M_next_142 (by decide) ?_
                    dsimp only [x_st1, x_st2, x_kill, List.set, List.getElem?_cons_zero, List.getElem?_cons_succ]
                    refine x_iload d_M_next_144 rfl ?_
                    refine x_iconst (-1) d_M_next_146 rfl ⟨by decide, by decide⟩ ?_
                    refine x_icmp_eq (160) d_M_next_147 (by decide) (fun g7 => ?_) (fun g7 => ?_)
                    · exact upd (Or.inl g7)
                    · refine x_iload d_M_next_150 rfl ?_
                      refine x_iload d_M_next_152 rfl ?_
                      refine x_icmp_lt (160) d_M_next_154 (by decide) (fun g8 => ?_) (fun g8 => ?_)
                      · exact upd (Or.inr g8)
                      · rw [if_neg (fun z => by rcases z.2 with y | y <;> omega)] at kk
                        refine x_goto (168) d_M_next_157 (by decide) ?_
                        refine x_iincN d_M_next_168 rfl (by decide) (by omega) (by omega) ?_
                        dsimp only [x_st1, x_st2, x_kill, List.set, List.getElem?_cons_zero, List.getElem?_cons_succ]
                        refine x_goto (52) d_M_next_171 (by decide) ?_
                        exact kk _ _
                  · omega
                · have e1 : f_cn h pl (i / 8) (i % 8) (f + 1) = f_cn h pl (i / 8) (i % 8) f + if okR h pl f ∧ mkB h pl f (i / 8) (i % 8) = true then 1 else 0 := rfl
                  have bf := f_cn_bd h pl (i / 8) (i % 8) f
                  rw [e1] at k2
                  have fb := f_ft_bit h pl (n := 5) (by omega) (b := f) (by omega)
                  rw [decide_eq_true hf, Bool.true_and, hs2] at fb
                  generalize f_cn h pl (i / 8) (i % 8) f = n at *
                  have no : ¬ (okR h pl f ∧ mkB h pl f (i / 8) (i % 8) = true) → x_A y_M_next 123 [some oM, some (xI pl), some (xI (s : Int)), some (xI all), some (xI st.1), some (xI st.2), some (xI (i : Int)), some (xI n), some (xI (f : Int))] [xI n] (S0, G1) 0 0 Q := by
                    intro z
                    rw [if_neg z] at k2
                    refine x_iconst (0) d_M_next_123 rfl ⟨by decide, by decide⟩ ?_
                    refine x_iaddN d_M_next_124 (by omega) (by omega) ?_
                    refine x_istore d_M_next_125 (by decide) ?_
                    dsimp only [x_st1, x_st2, x_kill, List.set, List.getElem?_cons_zero, List.getElem?_cons_succ]
                    refine x_iincN d_M_next_127 rfl (by decide) (by omega) (by omega) ?_
                    dsimp only [x_st1, x_st2, x_kill, List.set, List.getElem?_cons_zero, List.getElem?_cons_succ]
                    refine x_goto (84) d_M_next_130 (by decide) ?_
                    exact k2
                  refine x_iload d_M_next_84 rfl ?_
                  refine x_iconst (5) d_M_next_86 rfl ⟨by decide, by decide⟩ ?_
                  refine x_icmp_ge (133) d_M_next_87 (by decide) (fun g6 => ?_) (fun g6 => ?_)
                  · omega
                  · refine x_iload d_M_next_90 rfl ?_
                    refine x_iload_n d_M_next_92 rfl rfl ?_
                    refine x_iload d_M_next_93 rfl ?_
                    refine x_ishr d_M_next_95 ?_
                    refine x_iconst (1) d_M_next_96 rfl ⟨by decide, by decide⟩ ?_
                    refine x_iand d_M_next_97 ?_
                    refine x_iconst (1) d_M_next_98 rfl ⟨by decide, by decide⟩ ?_
                    rw [x_and1, xb_shr _ (by omega), fb]
                    by_cases ok : okR h pl f
                    · rw [decide_eq_true ok]
                      have hb := hm f hf ok.1 i hi
                      refine x_icmp_ne (123) d_M_next_99 (by decide) (fun g7 => ?_) (fun g7 => ?_)
                      · exact absurd rfl g7
                      · refine x_aload_n d_M_next_102 rfl rfl ?_
                        refine x_getF (kf := 79) d_M_next_103 rfl rfl rfl in_M f_M_205 ?_
                        refine x_sipush (168) d_M_next_106 rfl ⟨by decide, by decide⟩ ?_
                        refine x_iload d_M_next_109 rfl ?_
                        refine x_imulN d_M_next_111 (by omega) (by omega) ?_
                        refine x_iload d_M_next_112 rfl ?_
                        refine x_iaddN d_M_next_114 (by omega) (by omega) ?_
                        refine x_baldN ((168 * f + i)) d_M_next_115 rfl (by omega) (by omega) ?_
                        rw [hb]
                        cases mb : mkB h pl f (i / 8) (i % 8) with
                        | true =>
                          rw [if_pos ⟨ok, mb⟩] at k2
                          refine x_if_eq (123) d_M_next_116 (by decide) (fun g8 => ?_) (fun g8 => ?_)
                          · cases g8
                          · refine x_iconst (1) d_M_next_119 rfl ⟨by decide, by decide⟩ ?_
                            refine x_goto (124) d_M_next_120 (by decide) ?_
                            refine x_iaddN d_M_next_124 (by omega) (by omega) ?_
                            refine x_istore d_M_next_125 (by decide) ?_
                            dsimp only [x_st1, x_st2, x_kill, List.set, List.getElem?_cons_zero, List.getElem?_cons_succ]
                            refine x_iincN d_M_next_127 rfl (by decide) (by omega) (by omega) ?_
                            dsimp only [x_st1, x_st2, x_kill, List.set, List.getElem?_cons_zero, List.getElem?_cons_succ]
                            refine x_goto (84) d_M_next_130 (by decide) ?_
                            exact k2
                        | false =>
                          refine x_if_eq (123) d_M_next_116 (by decide) (fun g8 => ?_) (fun g8 => ?_)
                          · exact no (fun z => by rw [mb] at z; cases z.2)
                          · exact absurd rfl g8
                    · rw [decide_eq_false ok]
                      refine x_icmp_ne (123) d_M_next_99 (by decide) (fun g7 => ?_) (fun g7 => ?_)
                      · exact no (fun z => ok z.1)
                      · exact absurd g7 (by decide)
              · exact absurd (show (1 : Int) = 0 by omega) (by decide)
            · rw [if_neg q]
              rw [if_neg (fun z => q z.1)] at kk
              refine x_if_ne (78) d_M_next_72 (by decide) (fun g5 => ?_) (fun g5 => ?_)
              · exact absurd rfl g5
              · refine x_goto (168) d_M_next_75 (by decide) ?_
                refine x_iincN d_M_next_168 rfl (by decide) (by omega) (by omega) ?_
                dsimp only [x_st1, x_st2, x_kill, List.set, List.getElem?_cons_zero, List.getElem?_cons_succ]
                refine x_goto (52) d_M_next_171 (by decide) ?_
                exact kk _ _
      · refine x_iconst (-1) d_M_next_41 rfl ⟨by decide, by decide⟩ ?_
        refine x_ireturn d_M_next_42 rfl ?_ (Nat.zero_le _) (Nat.zero_le _)
        exact fin _ (by rw [f_nx_0 pl all (by omega)])
  · have eC : c_pl pl = 1 := if_pos (by omega)
    have eV : v_next h pl = 0 := if_neg (by omega)
    refine x_aload_n d_M_next_12 rfl rfl ?_
    refine x_iconst (1) d_M_next_13 rfl ⟨by decide, by decide⟩ ?_
    refine x_V1 d_M_next_14 e_M_next_M_fails ⟨rfl, rfl, Nat.zero_le _, Nat.zero_le _⟩ rfl rfl rfl rfl (Nat.le_of_ble_eq_true rfl) (s_fails _ _) ?_
    refine x_ireturn d_M_next_17 rfl ?_ (Nat.zero_le _) (Nat.zero_le _)
    rw [← hQ, eC, eV, up_on]
    exact ⟨_, rfl, _, rfl, (pFrame.rf _).q, rfl⟩
end MNx
