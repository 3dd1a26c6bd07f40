/-! the reference: what lies above goes on, what is mixed drifts -/
/-- how rises changes the numbers -/
def g_rise (h : HH) (ai : Nat → Int) (G : Nat → Nat → Int) (p m : Nat) (a : Int) : Nat → Nat → Int :=
  radd (radd (radd (radd G m_above (f_dA h ai p (8 * (m + 1)) a (h.2 1))) m_gone (pt (m + 1) (f_ga h ai p a))) m_above (pt (8 * (m + 1) + p) (f_ra h ai p a - f_fall h ai p a))) m_mixed (pt (8 * (m + 1) + p) (f_fall h ai p a))
theorem mRep.radd {h : HH} {G : Nat → Nat → Int} (r : mRep h G) {i : Nat} (hi : i ≠ o_M) (h2 : i < m_room ∨ m_aIs < i) (d : Nat → Int) : mRep h (radd G i d) :=
  r.same (fun k _ _ => by rw [radd_cell (fun q => hi q.symm)]) (fun c h3 h4 => radd_cell (by intro q; subst q; omega))
theorem b2i_t {b : Bool} : b2i b ≠ 0 ↔ b = true := by cases b <;> simp [b2i]
theorem b2i_f {b : Bool} : b2i b = 0 ↔ b = false := by cases b <;> simp [b2i]
theorem s_rises {h : HH} {G : Nat → Nat → Int} {ai : Nat → Int} (hh : Hwf h) (r : mRep h G) (p m : Nat) (a : Int) (hp : p < h.2 0) (hm : m < 20) (ha : 0 ≤ a ∧ a ≤ 10000000) (hai : ∀ w, w < h.2 1 → G m_air (12 * m + w) = ai w ∧ -12 ≤ ai w ∧ ai w ≤ 12) (hA : ∀ j, j < 168 → 0 ≤ G m_above j ∧ G m_above j ≤ 500000000) (hM : ∀ j, j < 168 → 0 ≤ G m_mixed j ∧ G m_mixed j ≤ 500000000) (hgo : 0 ≤ G m_gone (m + 1) ∧ G m_gone (m + 1) ≤ 500000000) :
    x_M y_M_rises [oM, xI (p : Int), xI (m : Int), xI a] (S0, G) (x_is (.inl none) (S0, g_rise h ai G p m a)) := by
  have b := hh.1
  have e0 := r.1
  have bLa := fun w => f_La_bd h ai p ha.1 w
  have bRa := f_ra_bd h ai p ha.1
  have d8 : x_div a 8 = a / 8 := x_div_pos ha.1 (by omega) (by omega) (by omega)
  refine x_of 5 rfl (Nat.le_of_ble_eq_true rfl) ?_
  show x_A y_M_rises 0 [some oM, some (xI (p : Int)), some (xI (m : Int)), some (xI a), none, none, none, none, none] [] (S0, G) 0 0 _
  refine x_iload_n d_M_rises_0 rfl rfl ?_
  refine x_istore d_M_rises_1 (by decide) ?_
  dsimp only [x_st1, x_st2, x_kill, List.set, List.getElem?_cons_zero, List.getElem?_cons_succ]
  refine x_bipush (8) d_M_rises_3 rfl ⟨by decide, by decide⟩ ?_
  refine x_iload_n d_M_rises_5 rfl rfl ?_
  refine x_iconst (1) d_M_rises_6 rfl ⟨by decide, by decide⟩ ?_
  refine x_iaddN d_M_rises_7 (by omega) (by omega) ?_
  refine x_imulN d_M_rises_8 (by omega) (by omega) ?_
  refine x_istore d_M_rises_9 (by decide) ?_
  dsimp only [x_st1, x_st2, x_kill, List.set, List.getElem?_cons_zero, List.getElem?_cons_succ]
  refine x_iconst (0) d_M_rises_11 rfl ⟨by decide, by decide⟩ ?_
  refine x_istore d_M_rises_12 (by decide) ?_
  dsimp only [x_st1, x_st2, x_kill, List.set, List.getElem?_cons_zero, List.getElem?_cons_succ]
  refine x_iconst (0) d_M_rises_14 rfl ⟨by decide, by decide⟩ ?_
  refine x_istore d_M_rises_15 (by decide) ?_
  dsimp only [x_st1, x_st2, x_kill, List.set, List.getElem?_cons_zero, List.getElem?_cons_succ]
  have tail : x_A y_M_rises 130 [some oM, some (xI (p : Int)), some (xI (m : Int)), some (xI a), some (xI (f_La h ai p a (h.2 1))), some (xI (8 * ((m : Int) + 1))), some (xI (b2i (f_str h ai p (h.2 1)))), none, none] [] (S0, radd G m_above (f_dA h ai p (8 * (m + 1)) a (h.2 1))) 0 0 (x_is (.inl none) (S0, g_rise h ai G p m a)) := by
    have b1 := bLa (h.2 1)
    have bd := fun j => f_dA_bd h ai p (8 * (m + 1)) ha.1 (h.2 1) j
    have r1 := r.radd (i := m_above) (by decide) (Or.inr (by decide)) (f_dA h ai p (8 * (m + 1)) a (h.2 1))
    obtain ⟨-, e2, -⟩ := r1.2.1 p hp
    have g1 : ∀ j, radd G m_above (f_dA h ai p (8 * (m + 1)) a (h.2 1)) m_above j = G m_above j + f_dA h ai p (8 * (m + 1)) a (h.2 1) j := fun j => radd_at _ _ _ _
    have g2 : radd G m_above (f_dA h ai p (8 * (m + 1)) a (h.2 1)) m_gone = G m_gone := radd_cell (by decide)
    have g3 : radd G m_above (f_dA h ai p (8 * (m + 1)) a (h.2 1)) m_mixed = G m_mixed := radd_cell (by decide)
    generalize hG : radd G m_above (f_dA h ai p (8 * (m + 1)) a (h.2 1)) = G1 at r1 e2 g1 g2 g3
    have last : x_A y_M_rises 170 [some oM, some (xI (p : Int)), some (xI (m : Int)), some (xI a), some (xI (f_ra h ai p a)), some (xI (8 * ((m : Int) + 1))), some (xI (b2i (f_str h ai p (h.2 1)))), none, none] [] (S0, radd G1 m_gone (pt (m + 1) (f_ga h ai p a))) 0 0 (x_is (.inl none) (S0, g_rise h ai G p m a)) := by
      have g4 : radd G1 m_gone (pt (m + 1) (f_ga h ai p a)) m_above = G1 m_above := radd_cell (by decide)
      have g5 : radd G1 m_gone (pt (m + 1) (f_ga h ai p a)) m_mixed = G1 m_mixed := radd_cell (by decide)
      have hfin : radd (radd (radd G1 m_gone (pt (m + 1) (f_ga h ai p a))) m_above (pt (8 * (m + 1) + p) (f_ra h ai p a - f_fall h ai p a))) m_mixed (pt (8 * (m + 1) + p) (f_fall h ai p a)) = g_rise h ai G p m a := by rw [← hG]; rfl
      generalize radd G1 m_gone (pt (m + 1) (f_ga h ai p a)) = G2 at g4 g5 hfin
      have q1 := hA (8 * (m + 1) + p) (by omega)
      have q2 := bd (8 * (m + 1) + p)
      have q3 := hM (8 * (m + 1) + p) (by omega)
      have q4 := g1 (8 * (m + 1) + p)
      have fin : ∀ fa : Int, fa = f_fall h ai p a → x_A y_M_rises 184 [some oM, some (xI (p : Int)), some (xI (m : Int)), some (xI a), some (xI (f_ra h ai p a)), some (xI (8 * ((m : Int) + 1))), some (xI (b2i (f_str h ai p (h.2 1)))), none, none] [xI fa] (S0, G2) 0 0 (x_is (.inl none) (S0, g_rise h ai G p m a)) := by
        intro fa hfa
        subst hfa
        refine x_istore d_M_rises_184 (by decide) ?_
        dsimp only [x_st1, x_st2, x_kill, List.set, List.getElem?_cons_zero, List.getElem?_cons_succ]
        refine x_aload_n d_M_rises_186 rfl rfl ?_
        refine x_getF (kf := 53) d_M_rises_187 rfl rfl rfl in_M f_M_129 ?_
        refine x_iload d_M_rises_190 rfl ?_
        refine x_iload_n d_M_rises_192 rfl rfl ?_
        refine x_iaddN d_M_rises_193 (by omega) (by omega) ?_
        refine x_dup2 d_M_rises_194 rfl rfl ?_
        refine x_ialdN (8 * (m + 1) + p) d_M_rises_195 rfl (by omega) (by omega) ?_
        rw [g4]
        refine x_iload d_M_rises_196 rfl ?_
        refine x_iload d_M_rises_198 rfl ?_
        refine x_isubN d_M_rises_200 (by omega) (by omega) ?_
        refine x_iaddN d_M_rises_201 (by omega) (by omega) ?_
        refine x_iastN (8 * (m + 1) + p) d_M_rises_202 rfl (by omega) (by omega) ?_
        rw [← g4, up_radd]
        have g6 : radd G2 m_above (pt (8 * (m + 1) + p) (f_ra h ai p a - f_fall h ai p a)) m_mixed = G2 m_mixed := radd_cell (by decide)
        generalize hG3 : radd G2 m_above (pt (8 * (m + 1) + p) (f_ra h ai p a - f_fall h ai p a)) = G3 at g6
        refine x_aload_n d_M_rises_203 rfl rfl ?_
        refine x_getF (kf := 54) d_M_rises_204 rfl rfl rfl in_M f_M_132 ?_
        refine x_iload d_M_rises_207 rfl ?_
        refine x_iload_n d_M_rises_209 rfl rfl ?_
        refine x_iaddN d_M_rises_210 (by omega) (by omega) ?_
        refine x_dup2 d_M_rises_211 rfl rfl ?_
        refine x_ialdN (8 * (m + 1) + p) d_M_rises_212 rfl (by omega) (by omega) ?_
        rw [g6, g5, g3]
        refine x_iload d_M_rises_213 rfl ?_
        refine x_iaddN d_M_rises_215 (by omega) (by omega) ?_
        refine x_iastN (8 * (m + 1) + p) d_M_rises_216 rfl (by omega) (by omega) ?_
        rw [← g3, ← g5, ← g6, up_radd]
        refine x_return d_M_rises_217 rfl ?_ (Nat.zero_le _) (Nat.zero_le _)
        rw [← hfin, ← hG3]
        exact ⟨rfl, rfl⟩
      refine x_iload d_M_rises_170 rfl ?_
      refine x_if_eq (180) d_M_rises_172 (by decide) (fun c => ?_) (fun c => ?_)
      · refine x_iload d_M_rises_180 rfl ?_
        refine x_iconst (4) d_M_rises_182 rfl ⟨by decide, by decide⟩ ?_
        refine x_idiv d_M_rises_183 (by decide) ?_
        exact fin _ (by unfold f_fall; rw [b2i_f.mp c, x_div_pos (by omega) (by omega) (by omega) (by omega)]; rfl)
      · refine x_iload d_M_rises_175 rfl ?_
        refine x_goto (184) d_M_rises_177 (by decide) ?_
        exact fin _ (by unfold f_fall; rw [if_pos (b2i_t.mp c)])
    refine x_aload_n d_M_rises_130 rfl rfl ?_
    refine x_getF (kf := 16) d_M_rises_131 rfl rfl rfl in_M f_M_26 ?_
    refine x_iload_n d_M_rises_134 rfl rfl ?_
    refine x_ialdN (p) d_M_rises_135 rfl (by omega) (by omega) ?_
    refine x_if_le (170) d_M_rises_136 (by decide) (fun c => ?_) (fun c => ?_)
    · have ez : f_ga h ai p a = 0 := by unfold f_ga; rw [if_neg (by omega)]
      have ez2 : f_ra h ai p a = f_La h ai p a (h.2 1) := by unfold f_ra; rw [ez]; omega
      rw [ez, show pt (m + 1) 0 = fun _ => 0 from by funext b; unfold pt; split <;> rfl, radd_0, ez2] at last
      exact last
    · refine x_iload_n d_M_rises_139 rfl rfl ?_
      refine x_bipush (8) d_M_rises_140 rfl ⟨by decide, by decide⟩ ?_
      refine x_idiv d_M_rises_142 (by decide) ?_
      rw [d8]
      refine x_iload d_M_rises_143 rfl ?_
      refine x_S1 d_M_rises_145 e_M_rises_JM_min ⟨rfl, rfl, Nat.zero_le _, Nat.zero_le _⟩ rfl rfl (Nat.le_of_ble_eq_true rfl) (s_min _ _ _) ?_
      have ez : min (a / 8) (f_La h ai p a (h.2 1)) = f_ga h ai p a := by unfold f_ga; rw [if_pos (by omega)]
      rw [ez]
      have ez2 : f_La h ai p a (h.2 1) - f_ga h ai p a = f_ra h ai p a := rfl
      refine x_istore d_M_rises_148 (by decide) ?_
      dsimp only [x_st1, x_st2, x_kill, List.set, List.getElem?_cons_zero, List.getElem?_cons_succ]
      refine x_aload_n d_M_rises_150 rfl rfl ?_
      refine x_getF (kf := 58) d_M_rises_151 rfl rfl rfl in_M f_M_144 ?_
      refine x_iload_n d_M_rises_154 rfl rfl ?_
      refine x_iconst (1) d_M_rises_155 rfl ⟨by decide, by decide⟩ ?_
      refine x_iaddN d_M_rises_156 (by omega) (by omega) ?_
      refine x_dup2 d_M_rises_157 rfl rfl ?_
      refine x_ialdN (m + 1) d_M_rises_158 rfl (by omega) (by omega) ?_
      rw [g2]
      refine x_iload d_M_rises_159 rfl ?_
      refine x_iaddN d_M_rises_161 (by omega) (by omega) ?_
      refine x_iastN (m + 1) d_M_rises_162 rfl (by omega) (by omega) ?_
      rw [← g2, up_radd]
      refine x_iload d_M_rises_163 rfl ?_
      refine x_iload d_M_rises_165 rfl ?_
      refine x_isubN d_M_rises_167 (by omega) (by omega) ?_
      rw [ez2]
      refine x_istore d_M_rises_168 (by decide) ?_
      dsimp only [x_st1, x_st2, x_kill, List.set, List.getElem?_cons_zero, List.getElem?_cons_succ]
      exact x_sub (fun j v hj => by
        match j, hj with
        | 0, hj => exact hj
        | 1, hj => exact hj
        | 2, hj => exact hj
        | 3, hj => exact hj
        | 4, hj => exact hj
        | 5, hj => exact hj
        | 6, hj => exact hj
        | 7, hj => cases hj
        | 8, hj => cases hj
        | j + 9, hj => cases hj) last
  have start : x_A y_M_rises 17 [some oM, some (xI (p : Int)), some (xI (m : Int)), some (xI a), some (xI (f_La h ai p a 0)), some (xI (8 * ((m : Int) + 1))), some (xI (b2i (f_str h ai p 0))), some (xI ((0 : Nat) : Int)), none] [] (S0, radd G m_above (f_dA h ai p (8 * (m + 1)) a 0)) 0 0 (x_is (.inl none) (S0, g_rise h ai G p m a)) := by
    refine x_up_to (P := fun w => x_A y_M_rises 17 [some oM, some (xI (p : Int)), some (xI (m : Int)), some (xI a), some (xI (f_La h ai p a w)), some (xI (8 * ((m : Int) + 1))), some (xI (b2i (f_str h ai p w))), some (xI (w : Int)), none] [] (S0, radd G m_above (f_dA h ai p (8 * (m + 1)) a w)) 0 0 (x_is (.inl none) (S0, g_rise h ai G p m a))) 0 (h.2 1) (Nat.zero_le _) ?_ (fun w _ hw k => ?_)
    · have r1 := r.radd (i := m_above) (by decide) (Or.inr (by decide)) (f_dA h ai p (8 * (m + 1)) a (h.2 1))
      have e1 := r1.1
      refine x_iload d_M_rises_17 rfl ?_
      refine x_aload_n d_M_rises_19 rfl rfl ?_
      refine x_getIG (kf := 2) d_M_rises_20 rfl rfl rfl in_M f_M_250 ?_
      refine x_icmp_ge (130) d_M_rises_23 (by decide) (fun c => ?_) (fun c => ?_)
      · exact x_sub (fun j v hj => by
          match j, hj with
          | 0, hj => exact hj
          | 1, hj => exact hj
          | 2, hj => exact hj
          | 3, hj => exact hj
          | 4, hj => exact hj
          | 5, hj => exact hj
          | 6, hj => exact hj
          | 7, hj => cases hj
          | 8, hj => cases hj
          | j + 9, hj => cases hj) tail
      · omega
    · have r1 := r.radd (i := m_above) (by decide) (Or.inr (by decide)) (f_dA h ai p (8 * (m + 1)) a w)
      have e1 := r1.1
      have eai : radd G m_above (f_dA h ai p (8 * (m + 1)) a w) m_air (12 * m + w) = ai w := by rw [radd_cell (by decide)]; exact (hai w hw).1
      have g1 : ∀ j, radd G m_above (f_dA h ai p (8 * (m + 1)) a w) m_above j = G m_above j + f_dA h ai p (8 * (m + 1)) a w j := fun j => radd_at _ _ _ _
      have bai := (hai w hw).2
      have bo := f_oth_bd hh p hw
      have b1 := bLa w
      have q1 := hA (8 * (m + 1) + (f_oth h p w).toNat) (by omega)
      have q2 := f_dA_bd h ai p (8 * (m + 1)) ha.1 w (8 * (m + 1) + (f_oth h p w).toNat)
      have q3 := g1 (8 * (m + 1) + (f_oth h p w).toNat)
      have keepG : f_fa h ai p a w = 0 → radd G m_above (f_dA h ai p (8 * (m + 1)) a (w + 1)) = radd G m_above (f_dA h ai p (8 * (m + 1)) a w) := by
        intro hz
        congr 1
        funext b
        show f_dA h ai p (8 * (m + 1)) a w b + pt _ _ b = _
        rw [hz]
        unfold pt
        split <;> omega
      have moveG : radd (radd G m_above (f_dA h ai p (8 * (m + 1)) a w)) m_above (pt (8 * (m + 1) + (f_oth h p w).toNat) (f_fa h ai p a w)) = radd G m_above (f_dA h ai p (8 * (m + 1)) a (w + 1)) := by
        rw [radd_radd]; rfl
      have eL := f_La_s h ai p a w
      generalize hG : radd G m_above (f_dA h ai p (8 * (m + 1)) a w) = G1 at r1 e1 eai g1 q3 keepG moveG
      refine x_iload d_M_rises_17 rfl ?_
      refine x_aload_n d_M_rises_19 rfl rfl ?_
      refine x_getIG (kf := 2) d_M_rises_20 rfl rfl rfl in_M f_M_250 ?_
      refine x_icmp_ge (130) d_M_rises_23 (by decide) (fun c => ?_) (fun c => ?_)
      · omega
      · refine x_aload_n d_M_rises_26 rfl rfl ?_
        refine x_iload_n d_M_rises_27 rfl rfl ?_
        refine x_iload d_M_rises_28 rfl ?_
        refine x_V1 d_M_rises_30 e_M_rises_M_isAt ⟨rfl, rfl, Nat.zero_le _, Nat.zero_le _⟩ rfl rfl rfl rfl (Nat.le_of_ble_eq_true rfl) (s_isAt hh r1 _ w hw) ?_
        refine x_if_ne (39) d_M_rises_33 (by decide) (fun c1 => ?_) (fun c1 => ?_)
        · have hat : f_at h p w = true := b2i_t.mp c1
          have mid : ∀ z : Int, z = b2i (f_str h ai p (w + 1)) → x_A y_M_rises 69 [some oM, some (xI (p : Int)), some (xI (m : Int)), some (xI a), some (xI (f_La h ai p a w)), some (xI (8 * ((m : Int) + 1))), some (xI (b2i (f_str h ai p w))), some (xI (w : Int)), none] [xI z] (S0, G1) 0 0 (x_is (.inl none) (S0, g_rise h ai G p m a)) := by
            intro z hz
            subst hz
            refine x_istore d_M_rises_69 (by decide) ?_
            dsimp only [x_st1, x_st2, x_kill, List.set, List.getElem?_cons_zero, List.getElem?_cons_succ]
            refine x_aload_n d_M_rises_71 rfl rfl ?_
            refine x_iload_n d_M_rises_72 rfl rfl ?_
            refine x_iload d_M_rises_73 rfl ?_
            refine x_iload_n d_M_rises_75 rfl rfl ?_
            refine x_V1 d_M_rises_76 e_M_rises_M_towards ⟨rfl, rfl, Nat.zero_le _, Nat.zero_le _⟩ rfl rfl rfl rfl (Nat.le_of_ble_eq_true rfl) (s_towards hh r1 _ w m hw (by omega) (by rw [eai]; exact bai)) ?_
            rw [eai]
            refine x_iconst (4) d_M_rises_79 rfl ⟨by decide, by decide⟩ ?_
            refine x_icmp_lt (86) d_M_rises_80 (by decide) (fun c3 => ?_) (fun c3 => ?_)
            · refine x_iload_n d_M_rises_86 rfl rfl ?_
              refine x_bipush (8) d_M_rises_87 rfl ⟨by decide, by decide⟩ ?_
              refine x_idiv d_M_rises_89 (by decide) ?_
              rw [d8]
              refine x_iload d_M_rises_90 rfl ?_
              refine x_S1 d_M_rises_92 e_M_rises_JM_min ⟨rfl, rfl, Nat.zero_le _, Nat.zero_le _⟩ rfl rfl (Nat.le_of_ble_eq_true rfl) (s_min _ _ _) ?_
              have ez : min (a / 8) (f_La h ai p a w) = f_fa h ai p a w := by unfold f_fa; rw [if_pos ⟨hat, c3⟩]
              rw [ez]
              refine x_istore d_M_rises_95 (by decide) ?_
              dsimp only [x_st1, x_st2, x_kill, List.set, List.getElem?_cons_zero, List.getElem?_cons_succ]
              refine x_aload_n d_M_rises_97 rfl rfl ?_
              refine x_getF (kf := 53) d_M_rises_98 rfl rfl rfl in_M f_M_129 ?_
              refine x_iload d_M_rises_101 rfl ?_
              refine x_aload_n d_M_rises_103 rfl rfl ?_
              refine x_iload_n d_M_rises_104 rfl rfl ?_
              refine x_iload d_M_rises_105 rfl ?_
              refine x_V1 d_M_rises_107 e_M_rises_M_otherEnd ⟨rfl, rfl, Nat.zero_le _, Nat.zero_le _⟩ rfl rfl rfl rfl (Nat.le_of_ble_eq_true rfl) (s_otherEnd hh r1 _ w hw) ?_
              refine x_iaddN d_M_rises_110 (by omega) (by omega) ?_
              refine x_dup2 d_M_rises_111 rfl rfl ?_
              refine x_ialdN (8 * (m + 1) + (f_oth h p w).toNat) d_M_rises_112 rfl (by omega) (by omega) ?_
              refine x_iload d_M_rises_113 rfl ?_
              refine x_iaddN d_M_rises_115 (by omega) (by omega) ?_
              refine x_iastN (8 * (m + 1) + (f_oth h p w).toNat) d_M_rises_116 rfl (by omega) (by omega) ?_
              rw [up_radd, moveG]
              refine x_iload d_M_rises_117 rfl ?_
              refine x_iload d_M_rises_119 rfl ?_
              refine x_isubN d_M_rises_121 (by omega) (by omega) ?_
              rw [← eL]
              refine x_istore d_M_rises_122 (by decide) ?_
              dsimp only [x_st1, x_st2, x_kill, List.set, List.getElem?_cons_zero, List.getElem?_cons_succ]
              refine x_iincN d_M_rises_124 rfl (by decide) (by omega) (by omega) ?_
              dsimp only [x_st1, x_st2, x_kill, List.set, List.getElem?_cons_zero, List.getElem?_cons_succ]
              refine x_goto (17) d_M_rises_127 (by decide) ?_
              exact x_sub (fun j v hj => by
                match j, hj with
                | 0, hj => exact hj
                | 1, hj => exact hj
                | 2, hj => exact hj
                | 3, hj => exact hj
                | 4, hj => exact hj
                | 5, hj => exact hj
                | 6, hj => exact hj
                | 7, hj => exact hj
                | 8, hj => cases hj
                | j + 9, hj => cases hj) k
            · have ez : f_fa h ai p a w = 0 := by unfold f_fa; rw [if_neg (fun q => c3 q.2)]
              rw [keepG ez, eL, ez, Int.sub_zero] at k
              refine x_goto (124) d_M_rises_83 (by decide) ?_
              refine x_iincN d_M_rises_124 rfl (by decide) (by omega) (by omega) ?_
              dsimp only [x_st1, x_st2, x_kill, List.set, List.getElem?_cons_zero, List.getElem?_cons_succ]
              refine x_goto (17) d_M_rises_127 (by decide) ?_
              exact k
          have es : f_str h ai p (w + 1) = (f_str h ai p w || (f_at h p w && (decide (6 ≤ ai w) || decide (ai w ≤ -6)))) := rfl
          rw [hat, Bool.true_and] at es
          refine x_iload d_M_rises_39 rfl ?_
          refine x_if_ne (64) d_M_rises_41 (by decide) (fun c2 => ?_) (fun c2 => ?_)
          · refine x_iconst (1) d_M_rises_64 rfl ⟨by decide, by decide⟩ ?_
            refine x_goto (69) d_M_rises_65 (by decide) ?_
            exact mid 1 (by rw [es, b2i_t.mp c2]; rfl)
          · refine x_aload_n d_M_rises_44 rfl rfl ?_
            refine x_getF (kf := 55) d_M_rises_45 rfl rfl rfl in_M f_M_135 ?_
            refine x_bipush (12) d_M_rises_48 rfl ⟨by decide, by decide⟩ ?_
            refine x_iload_n d_M_rises_50 rfl rfl ?_
            refine x_imulN d_M_rises_51 (by omega) (by omega) ?_
            refine x_iload d_M_rises_52 rfl ?_
            refine x_iaddN d_M_rises_54 (by omega) (by omega) ?_
            refine x_ialdN (12 * m + w) d_M_rises_55 rfl (by omega) (by omega) ?_
            rw [eai]
            refine x_S1 d_M_rises_56 e_M_rises_JM_abs ⟨rfl, rfl, Nat.zero_le _, Nat.zero_le _⟩ rfl rfl (Nat.le_of_ble_eq_true rfl) (s_abs _ _ (by omega)) ?_
            refine x_bipush (6) d_M_rises_59 rfl ⟨by decide, by decide⟩ ?_
            have es2 := b2i_f.mp c2
            refine x_icmp_lt (68) d_M_rises_61 (by decide) (fun c4 => ?_) (fun c4 => ?_)
            · refine x_iconst (0) d_M_rises_68 rfl ⟨by decide, by decide⟩ ?_
              exact mid 0 (by rw [es, es2, decide_eq_false (by split at c4 <;> omega), decide_eq_false (by split at c4 <;> omega)]; rfl)
            · refine x_iconst (1) d_M_rises_64 rfl ⟨by decide, by decide⟩ ?_
              refine x_goto (69) d_M_rises_65 (by decide) ?_
              exact mid 1 (by
                rw [es, es2]
                by_cases q : 6 ≤ ai w
                · rw [decide_eq_true q]; rfl
                · rw [decide_eq_false q, decide_eq_true (p := ai w ≤ -6) (by split at c4 <;> omega)]; rfl)
        · have hat : f_at h p w = false := b2i_f.mp c1
          have ez : f_fa h ai p a w = 0 := by unfold f_fa; rw [if_neg (fun q => by rw [hat] at q; cases q.1)]
          have es : f_str h ai p (w + 1) = f_str h ai p w := by show (f_str h ai p w || (f_at h p w && _)) = _; rw [hat]; simp
          rw [keepG ez, eL, ez, Int.sub_zero, es] at k
          refine x_goto (124) d_M_rises_36 (by decide) ?_
          refine x_iincN d_M_rises_124 rfl (by decide) (by omega) (by omega) ?_
          dsimp only [x_st1, x_st2, x_kill, List.set, List.getElem?_cons_zero, List.getElem?_cons_succ]
          refine x_goto (17) d_M_rises_127 (by decide) ?_
          exact k
  have e00 : radd G m_above (f_dA h ai p (8 * (m + 1)) a 0) = G := radd_0 G m_above
  rw [e00] at start
  exact start
