def g_drift (h : HH) (ai : Nat → Int) (G : Nat → Nat → Int) (p m : Nat) (x : Int) : Nat → Nat → Int :=
  radd (radd (radd G m_mixed (f_dM h ai p (8 * (m + 1)) x (h.2 1))) m_gone (pt (m + 1) (f_gm h ai p x))) m_mixed (pt (8 * (m + 1) + p) (f_rm h ai p x))
theorem s_drifts {h : HH} {G : Nat → Nat → Int} {ai : Nat → Int} (hh : Hwf h) (r : mRep h G) (p m : Nat) (x : Int) (hp : p < h.2 0) (hm : m < 20) (hx : G m_mixed (8 * m + p) = x) (ha : 0 ≤ x ∧ x ≤ 10000000) (hai : ∀ w, w < h.2 1 → G m_air (12 * m + w) = ai w ∧ -12 ≤ ai w ∧ ai w ≤ 12) (hM : ∀ j, j < 168 → 0 ≤ G m_mixed j ∧ G m_mixed j ≤ 500000000) (hgo : 0 ≤ G m_gone (m + 1) ∧ G m_gone (m + 1) ≤ 500000000) :
    x_M y_M_drifts [oM, xI (p : Int), xI (m : Int)] (S0, G) (x_is (.inl none) (S0, g_drift h ai G p m x)) := by
  have b := hh.1
  have e0 := r.1
  have bLa := fun w => f_Lm_bd h ai p ha.1 w
  have bRa := f_rm_bd h ai p ha.1
  refine x_of 5 rfl (Nat.le_of_ble_eq_true rfl) ?_
  show x_A y_M_drifts 0 [some oM, some (xI (p : Int)), some (xI (m : Int)), none, none, none, none, none] [] (S0, G) 0 0 _
  refine x_aload_n d_M_drifts_0 rfl rfl ?_
  refine x_getF (kf := 54) d_M_drifts_1 rfl rfl rfl in_M f_M_132 ?_
  refine x_bipush (8) d_M_drifts_4 rfl ⟨by decide, by decide⟩ ?_
  refine x_iload_n d_M_drifts_6 rfl rfl ?_
  refine x_imulN d_M_drifts_7 (by omega) (by omega) ?_
  refine x_iload_n d_M_drifts_8 rfl rfl ?_
  refine x_iaddN d_M_drifts_9 (by omega) (by omega) ?_
  refine x_ialdN (8 * m + p) d_M_drifts_10 rfl (by omega) (by omega) ?_
  rw [hx]
  refine x_istore_n d_M_drifts_11 rfl (by decide) ?_
  dsimp only [x_st1, x_st2, x_kill, List.set, List.getElem?_cons_zero, List.getElem?_cons_succ]
  refine x_iload_n d_M_drifts_12 rfl rfl ?_
  refine x_istore d_M_drifts_13 (by decide) ?_
  dsimp only [x_st1, x_st2, x_kill, List.set, List.getElem?_cons_zero, List.getElem?_cons_succ]
  refine x_bipush (8) d_M_drifts_15 rfl ⟨by decide, by decide⟩ ?_
  refine x_iload_n d_M_drifts_17 rfl rfl ?_
  refine x_iconst (1) d_M_drifts_18 rfl ⟨by decide, by decide⟩ ?_
  refine x_iaddN d_M_drifts_19 (by omega) (by omega) ?_
  refine x_imulN d_M_drifts_20 (by omega) (by omega) ?_
  refine x_istore d_M_drifts_21 (by decide) ?_
  dsimp only [x_st1, x_st2, x_kill, List.set, List.getElem?_cons_zero, List.getElem?_cons_succ]
  refine x_iconst (0) d_M_drifts_23 rfl ⟨by decide, by decide⟩ ?_
  refine x_istore d_M_drifts_24 (by decide) ?_
  dsimp only [x_st1, x_st2, x_kill, List.set, List.getElem?_cons_zero, List.getElem?_cons_succ]
  have tail : x_A y_M_drifts 113 [some oM, some (xI (p : Int)), some (xI (m : Int)), some (xI x), some (xI (f_Lm h ai p x (h.2 1))), some (xI (8 * ((m : Int) + 1))), none, none] [] (S0, radd G m_mixed (f_dM h ai p (8 * (m + 1)) x (h.2 1))) 0 0 (x_is (.inl none) (S0, g_drift h ai G p m x)) := by
    have b1 := bLa (h.2 1)
    have bd := fun j => f_dM_bd h ai p (8 * (m + 1)) ha.1 (h.2 1) j
    have r1 := r.radd (i := m_mixed) (by decide) (Or.inr (by decide)) (f_dM h ai p (8 * (m + 1)) x (h.2 1))
    obtain ⟨-, e2, -⟩ := r1.2.1 p hp
    have g1 : ∀ j, radd G m_mixed (f_dM h ai p (8 * (m + 1)) x (h.2 1)) m_mixed j = G m_mixed j + f_dM h ai p (8 * (m + 1)) x (h.2 1) j := fun j => radd_at _ _ _ _
    have g2 : radd G m_mixed (f_dM h ai p (8 * (m + 1)) x (h.2 1)) m_gone = G m_gone := radd_cell (by decide)
    generalize hG : radd G m_mixed (f_dM h ai p (8 * (m + 1)) x (h.2 1)) = G1 at r1 e2 g1 g2
    have last : x_A y_M_drifts 155 [some oM, some (xI (p : Int)), some (xI (m : Int)), some (xI x), some (xI (f_rm h ai p x)), some (xI (8 * ((m : Int) + 1))), none, none] [] (S0, radd G1 m_gone (pt (m + 1) (f_gm h ai p x))) 0 0 (x_is (.inl none) (S0, g_drift h ai G p m x)) := by
      have g4 : radd G1 m_gone (pt (m + 1) (f_gm h ai p x)) m_mixed = G1 m_mixed := radd_cell (by decide)
      have hfin : radd (radd G1 m_gone (pt (m + 1) (f_gm h ai p x))) m_mixed (pt (8 * (m + 1) + p) (f_rm h ai p x)) = g_drift h ai G p m x := by rw [← hG]; rfl
      generalize radd G1 m_gone (pt (m + 1) (f_gm h ai p x)) = G2 at g4 hfin
      have q2 := bd (8 * (m + 1) + p)
      have q3 := hM (8 * (m + 1) + p) (by omega)
      have q4 := g1 (8 * (m + 1) + p)
      refine x_aload_n d_M_drifts_155 rfl rfl ?_
      refine x_getF (kf := 54) d_M_drifts_156 rfl rfl rfl in_M f_M_132 ?_
      refine x_iload d_M_drifts_159 rfl ?_
      refine x_iload_n d_M_drifts_161 rfl rfl ?_
      refine x_iaddN d_M_drifts_162 (by omega) (by omega) ?_
      refine x_dup2 d_M_drifts_163 rfl rfl ?_
      refine x_ialdN (8 * (m + 1) + p) d_M_drifts_164 rfl (by omega) (by omega) ?_
      rw [g4]
      refine x_iload d_M_drifts_165 rfl ?_
      refine x_iaddN d_M_drifts_167 (by omega) (by omega) ?_
      refine x_iastN (8 * (m + 1) + p) d_M_drifts_168 rfl (by omega) (by omega) ?_
      rw [← g4, up_radd]
      refine x_return d_M_drifts_169 rfl ?_ (Nat.zero_le _) (Nat.zero_le _)
      rw [← hfin]
      exact ⟨rfl, rfl⟩
    refine x_aload_n d_M_drifts_113 rfl rfl ?_
    refine x_getF (kf := 16) d_M_drifts_114 rfl rfl rfl in_M f_M_26 ?_
    refine x_iload_n d_M_drifts_117 rfl rfl ?_
    refine x_ialdN (p) d_M_drifts_118 rfl (by omega) (by omega) ?_
    refine x_if_le (155) d_M_drifts_119 (by decide) (fun c => ?_) (fun c => ?_)
    · have ez : f_gm h ai p x = 0 := by unfold f_gm; rw [if_neg (by omega)]
      have ez2 : f_rm h ai p x = f_Lm h ai p x (h.2 1) := by unfold f_rm; rw [ez]; omega
      rw [ez, show pt (m + 1) 0 = fun _ => 0 from by funext b; unfold pt; split <;> rfl, radd_0, ez2] at last
      exact last
    · refine x_iload_n d_M_drifts_122 rfl rfl ?_
      refine x_iconst (2) d_M_drifts_123 rfl ⟨by decide, by decide⟩ ?_
      refine x_imulN d_M_drifts_124 (by omega) (by omega) ?_
      refine x_bipush (16) d_M_drifts_125 rfl ⟨by decide, by decide⟩ ?_
      refine x_idiv d_M_drifts_127 (by decide) ?_
      rw [x_div_pos (by omega) (by omega) (by omega) (by omega)]
      refine x_iload d_M_drifts_128 rfl ?_
      refine x_S1 d_M_drifts_130 e_M_drifts_JM_min ⟨rfl, rfl, Nat.zero_le _, Nat.zero_le _⟩ rfl rfl (Nat.le_of_ble_eq_true rfl) (s_min _ _ _) ?_
      have ez : min (x * 2 / 16) (f_Lm h ai p x (h.2 1)) = f_gm h ai p x := by unfold f_gm; rw [if_pos (by omega)]
      rw [ez]
      have ez2 : f_Lm h ai p x (h.2 1) - f_gm h ai p x = f_rm h ai p x := rfl
      refine x_istore d_M_drifts_133 (by decide) ?_
      dsimp only [x_st1, x_st2, x_kill, List.set, List.getElem?_cons_zero, List.getElem?_cons_succ]
      refine x_aload_n d_M_drifts_135 rfl rfl ?_
      refine x_getF (kf := 58) d_M_drifts_136 rfl rfl rfl in_M f_M_144 ?_
      refine x_iload_n d_M_drifts_139 rfl rfl ?_
      refine x_iconst (1) d_M_drifts_140 rfl ⟨by decide, by decide⟩ ?_
      refine x_iaddN d_M_drifts_141 (by omega) (by omega) ?_
      refine x_dup2 d_M_drifts_142 rfl rfl ?_
      refine x_ialdN (m + 1) d_M_drifts_143 rfl (by omega) (by omega) ?_
      rw [g2]
      refine x_iload d_M_drifts_144 rfl ?_
      refine x_iaddN d_M_drifts_146 (by omega) (by omega) ?_
      refine x_iastN (m + 1) d_M_drifts_147 rfl (by omega) (by omega) ?_
      rw [← g2, up_radd]
      refine x_iload d_M_drifts_148 rfl ?_
      refine x_iload d_M_drifts_150 rfl ?_
      refine x_isubN d_M_drifts_152 (by omega) (by omega) ?_
      rw [ez2]
      refine x_istore d_M_drifts_153 (by decide) ?_
      dsimp only [x_st1, x_st2, x_kill, List.set, List.getElem?_cons_zero, List.getElem?_cons_succ]
      exact x_sub (fun j v hj => by
        match j, hj with
        | 0, hj => exact hj
        | 1, hj => exact hj
        | 2, hj => exact hj
        | 3, hj => exact hj
        | 4, hj => exact hj
        | 5, hj => exact hj
        | 6, hj => cases hj
        | 7, hj => cases hj
        | j + 8, hj => cases hj) last
  have start : x_A y_M_drifts 26 [some oM, some (xI (p : Int)), some (xI (m : Int)), some (xI x), some (xI (f_Lm h ai p x 0)), some (xI (8 * ((m : Int) + 1))), some (xI ((0 : Nat) : Int)), none] [] (S0, radd G m_mixed (f_dM h ai p (8 * (m + 1)) x 0)) 0 0 (x_is (.inl none) (S0, g_drift h ai G p m x)) := by
    refine x_up_to (P := fun w => x_A y_M_drifts 26 [some oM, some (xI (p : Int)), some (xI (m : Int)), some (xI x), some (xI (f_Lm h ai p x w)), some (xI (8 * ((m : Int) + 1))), some (xI (w : Int)), none] [] (S0, radd G m_mixed (f_dM h ai p (8 * (m + 1)) x w)) 0 0 (x_is (.inl none) (S0, g_drift h ai G p m x))) 0 (h.2 1) (Nat.zero_le _) ?_ (fun w _ hw k => ?_)
    · have r1 := r.radd (i := m_mixed) (by decide) (Or.inr (by decide)) (f_dM h ai p (8 * (m + 1)) x (h.2 1))
      have e1 := r1.1
      refine x_iload d_M_drifts_26 rfl ?_
      refine x_aload_n d_M_drifts_28 rfl rfl ?_
      refine x_getIG (kf := 2) d_M_drifts_29 rfl rfl rfl in_M f_M_250 ?_
      refine x_icmp_ge (113) d_M_drifts_32 (by decide) (fun c => ?_) (fun c => ?_)
      · exact x_sub (fun j v hj => by
          match j, hj with
          | 0, hj => exact hj
          | 1, hj => exact hj
          | 2, hj => exact hj
          | 3, hj => exact hj
          | 4, hj => exact hj
          | 5, hj => exact hj
          | 6, hj => cases hj
          | 7, hj => cases hj
          | j + 8, hj => cases hj) tail
      · omega
    · have r1 := r.radd (i := m_mixed) (by decide) (Or.inr (by decide)) (f_dM h ai p (8 * (m + 1)) x w)
      have e1 := r1.1
      have eai : radd G m_mixed (f_dM h ai p (8 * (m + 1)) x w) m_air (12 * m + w) = ai w := by rw [radd_cell (by decide)]; exact (hai w hw).1
      have g1 : ∀ j, radd G m_mixed (f_dM h ai p (8 * (m + 1)) x w) m_mixed j = G m_mixed j + f_dM h ai p (8 * (m + 1)) x w j := fun j => radd_at _ _ _ _
      have bai := (hai w hw).2
      have btw := f_tow_bd h (a := ai w) p w bai
      have bo := f_oth_bd hh p hw
      have b1 := bLa w
      have q1 := hM (8 * (m + 1) + (f_oth h p w).toNat) (by omega)
      have q2 := f_dM_bd h ai p (8 * (m + 1)) ha.1 w (8 * (m + 1) + (f_oth h p w).toNat)
      have q3 := g1 (8 * (m + 1) + (f_oth h p w).toNat)
      have keepG : f_fm h ai p x w = 0 → radd G m_mixed (f_dM h ai p (8 * (m + 1)) x (w + 1)) = radd G m_mixed (f_dM h ai p (8 * (m + 1)) x w) := by
        intro hz
        congr 1
        funext b
        show f_dM h ai p (8 * (m + 1)) x w b + pt _ _ b = _
        rw [hz]
        unfold pt
        split <;> omega
      have moveG : radd (radd G m_mixed (f_dM h ai p (8 * (m + 1)) x w)) m_mixed (pt (8 * (m + 1) + (f_oth h p w).toNat) (f_fm h ai p x w)) = radd G m_mixed (f_dM h ai p (8 * (m + 1)) x (w + 1)) := by
        rw [radd_radd]; rfl
      have eL := f_Lm_s h ai p x w
      generalize hG : radd G m_mixed (f_dM h ai p (8 * (m + 1)) x w) = G1 at r1 e1 eai g1 q3 keepG moveG
      have skip : f_fm h ai p x w = 0 → x_A y_M_drifts 107 [some oM, some (xI (p : Int)), some (xI (m : Int)), some (xI x), some (xI (f_Lm h ai p x w)), some (xI (8 * ((m : Int) + 1))), some (xI (w : Int)), none] [] (S0, G1) 0 0 (x_is (.inl none) (S0, g_drift h ai G p m x)) := by
        intro ez
        rw [keepG ez, eL, ez, Int.sub_zero] at k
        refine x_iincN d_M_drifts_107 rfl (by decide) (by omega) (by omega) ?_
        dsimp only [x_st1, x_st2, x_kill, List.set, List.getElem?_cons_zero, List.getElem?_cons_succ]
        refine x_goto (26) d_M_drifts_110 (by decide) ?_
        exact k
      refine x_iload d_M_drifts_26 rfl ?_
      refine x_aload_n d_M_drifts_28 rfl rfl ?_
      refine x_getIG (kf := 2) d_M_drifts_29 rfl rfl rfl in_M f_M_250 ?_
      refine x_icmp_ge (113) d_M_drifts_32 (by decide) (fun c => ?_) (fun c => ?_)
      · omega
      · refine x_aload_n d_M_drifts_35 rfl rfl ?_
        refine x_iload_n d_M_drifts_36 rfl rfl ?_
        refine x_iload d_M_drifts_37 rfl ?_
        refine x_V1 d_M_drifts_39 e_M_drifts_M_isAt ⟨rfl, rfl, Nat.zero_le _, Nat.zero_le _⟩ rfl rfl rfl rfl (Nat.le_of_ble_eq_true rfl) (s_isAt hh r1 _ w hw) ?_
        refine x_if_eq (107) d_M_drifts_42 (by decide) (fun c1 => ?_) (fun c1 => ?_)
        · have hat : f_at h p w = false := b2i_f.mp c1
          exact skip (by unfold f_fm; rw [if_neg (fun q => by rw [hat] at q; cases q.1)])
        · have hat : f_at h p w = true := b2i_t.mp c1
          refine x_aload_n d_M_drifts_45 rfl rfl ?_
          refine x_iload_n d_M_drifts_46 rfl rfl ?_
          refine x_iload d_M_drifts_47 rfl ?_
          refine x_iload_n d_M_drifts_49 rfl rfl ?_
          refine x_V1 d_M_drifts_50 e_M_drifts_M_towards ⟨rfl, rfl, Nat.zero_le _, Nat.zero_le _⟩ rfl rfl rfl rfl (Nat.le_of_ble_eq_true rfl) (s_towards hh r1 _ w m hw (by omega) (by rw [eai]; exact bai)) ?_
          rw [eai]
          refine x_if_lt (59) d_M_drifts_53 (by decide) (fun c2 => ?_) (fun c2 => ?_)
          · refine x_iload_n d_M_drifts_59 rfl rfl ?_
            refine x_aload_n d_M_drifts_60 rfl rfl ?_
            refine x_iload_n d_M_drifts_61 rfl rfl ?_
            refine x_iload d_M_drifts_62 rfl ?_
            refine x_iload_n d_M_drifts_64 rfl rfl ?_
            refine x_V1 d_M_drifts_65 e_M_drifts_M_towards ⟨rfl, rfl, Nat.zero_le _, Nat.zero_le _⟩ rfl rfl rfl rfl (Nat.le_of_ble_eq_true rfl) (s_towards hh r1 _ w m hw (by omega) (by rw [eai]; exact bai)) ?_
            rw [eai]
            refine x_inegN d_M_drifts_68 (by omega) (by omega) ?_
            have n1 : 0 ≤ x * -f_tow h (ai w) p w := Int.mul_nonneg ha.1 (by omega)
            have n2 : x * -f_tow h (ai w) p w ≤ 10000000 * 12 := Int.mul_le_mul (by omega) (by omega) (by omega) (by omega)
            refine x_imulN d_M_drifts_69 (by omega) (by omega) ?_
            refine x_bipush (16) d_M_drifts_70 rfl ⟨by decide, by decide⟩ ?_
            refine x_idiv d_M_drifts_72 (by decide) ?_
            rw [x_div_pos (by omega) (by omega) (by omega) (by omega)]
            refine x_iload d_M_drifts_73 rfl ?_
            refine x_S1 d_M_drifts_75 e_M_drifts_JM_min ⟨rfl, rfl, Nat.zero_le _, Nat.zero_le _⟩ rfl rfl (Nat.le_of_ble_eq_true rfl) (s_min _ _ _) ?_
            have ez : min (x * -f_tow h (ai w) p w / 16) (f_Lm h ai p x w) = f_fm h ai p x w := by unfold f_fm; rw [if_pos ⟨hat, c2⟩]
            rw [ez]
            refine x_istore d_M_drifts_78 (by decide) ?_
            dsimp only [x_st1, x_st2, x_kill, List.set, List.getElem?_cons_zero, List.getElem?_cons_succ]
            refine x_aload_n d_M_drifts_80 rfl rfl ?_
            refine x_getF (kf := 54) d_M_drifts_81 rfl rfl rfl in_M f_M_132 ?_
            refine x_iload d_M_drifts_84 rfl ?_
            refine x_aload_n d_M_drifts_86 rfl rfl ?_
            refine x_iload_n d_M_drifts_87 rfl rfl ?_
            refine x_iload d_M_drifts_88 rfl ?_
            refine x_V1 d_M_drifts_90 e_M_drifts_M_otherEnd ⟨rfl, rfl, Nat.zero_le _, Nat.zero_le _⟩ rfl rfl rfl rfl (Nat.le_of_ble_eq_true rfl) (s_otherEnd hh r1 _ w hw) ?_
            refine x_iaddN d_M_drifts_93 (by omega) (by omega) ?_
            refine x_dup2 d_M_drifts_94 rfl rfl ?_
            refine x_ialdN (8 * (m + 1) + (f_oth h p w).toNat) d_M_drifts_95 rfl (by omega) (by omega) ?_
            refine x_iload d_M_drifts_96 rfl ?_
            refine x_iaddN d_M_drifts_98 (by omega) (by omega) ?_
            refine x_iastN (8 * (m + 1) + (f_oth h p w).toNat) d_M_drifts_99 rfl (by omega) (by omega) ?_
            rw [up_radd, moveG]
            refine x_iload d_M_drifts_100 rfl ?_
            refine x_iload d_M_drifts_102 rfl ?_
            refine x_isubN d_M_drifts_104 (by omega) (by omega) ?_
            rw [← eL]
            refine x_istore d_M_drifts_105 (by decide) ?_
            dsimp only [x_st1, x_st2, x_kill, List.set, List.getElem?_cons_zero, List.getElem?_cons_succ]
            refine x_iincN d_M_drifts_107 rfl (by decide) (by omega) (by omega) ?_
            dsimp only [x_st1, x_st2, x_kill, List.set, List.getElem?_cons_zero, List.getElem?_cons_succ]
            refine x_goto (26) d_M_drifts_110 (by decide) ?_
            exact x_sub (fun j v hj => by
              match j, hj with
              | 0, hj => exact hj
              | 1, hj => exact hj
              | 2, hj => exact hj
              | 3, hj => exact hj
              | 4, hj => exact hj
              | 5, hj => exact hj
              | 6, hj => exact hj
              | 7, hj => cases hj
              | j + 8, hj => cases hj) k
          · refine x_goto (107) d_M_drifts_56 (by decide) ?_
            exact skip (by unfold f_fm; rw [if_neg (fun q => c2 q.2)])
  have e00 : radd G m_mixed (f_dM h ai p (8 * (m + 1)) x 0) = G := radd_0 G m_mixed
  rw [e00] at start
  exact start
