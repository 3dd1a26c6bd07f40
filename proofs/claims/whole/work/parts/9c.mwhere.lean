/-! the reference: whereAt -/
def c_wat (h : HH) (a b k f w m y : Int) : Int := if c_air h 0 a b k f w m = 0 ∧ f_wi y 0 20 = 0 then 2 else c_air h 0 a b k f w m
def v_wat (h : HH) (a b k f w m y : Int) : Int := if c_wat h a b k f w m y = 0 then (if (a_al h (a, b, k, f) 21 (8 * m.toNat + w.toNat)).1 < 1000000000000 then a_wh h (a_al h (a, b, k, f) 21) y.toNat 22 m.toNat w.toNat else -1) else 0
theorem s_whereAt {h : HH} {G : Nat → Nat → Int} (hh : Hwf h) (r : mRep h G) (a b k f w m y : Int) : x_M y_M_whereAt [oM, xI a, xI b, xI k, xI f, xI w, xI m, xI y] (S0, G) (fun r τ => ∃ v, r = .inl v ∧ mAns G (c_wat h a b k f w m y) (v_wat h a b k f w m y) v τ) := by
  have bb := hh.1
  refine x_of 4 rfl (Nat.le_of_ble_eq_true rfl) ?_
  show x_A y_M_whereAt 0 [some oM, some (xI a), some (xI b), some (xI k), some (xI f), some (xI w), some (xI m), some (xI y), none, none, none, none] [] (S0, G) 0 0 _
  generalize hV : v_wat h a b k f w m y = V
  have hc0 := fun e => c_air_0 (h := h) (n := 0) (a := a) (b := b) (k := k) (f := f) (w := w) (m := m) e
  have rf := s_refuses hh r a b k f w m
  generalize hC : c_wat h a b k f w m y = C
  unfold c_wat at hC
  generalize hC0 : c_air h 0 a b k f w m = C0 at *
  generalize hQ : (fun (r : XRes) (τ : XM) => ∃ v, r = .inl v ∧ mAns G C V v τ) = Q
  have hV0 : C ≠ 0 → V = 0 := fun z => by rw [← hV]; unfold v_wat; rw [show c_wat h a b k f w m y = C by unfold c_wat; rw [hC0]; exact hC, if_neg z]
  have c12 : C0 = 0 ∨ 0 < C0 := by rw [← hC0]; unfold c_air; split <;> (try split) <;> omega
  have bad : ∀ c : Int, 0 < c → C = c → ∀ G', pFrame (up G o_M 0 c) G' → G' o_M 0 = c → x_A y_M_whereAt 37 [some oM, some (xI a), some (xI b), some (xI k), some (xI f), some (xI w), some (xI m), some (xI y), none, none, none, none] [] (S0, G') 0 0 Q := by
    intro c h1 h2 G' h3 h4
    refine x_aload_n d_M_whereAt_37 rfl rfl ?_
    refine x_getIG (kf := 0) d_M_whereAt_38 rfl rfl rfl in_M f_M_217 ?_
    rw [h4]
    refine x_if_le (46) d_M_whereAt_41 (by decide) (fun g => ?_) (fun g => ?_)
    · omega
    · refine x_iconst (0) d_M_whereAt_44 rfl ⟨by decide, by decide⟩ ?_
      refine x_ireturn d_M_whereAt_45 rfl ?_ (Nat.zero_le _) (Nat.zero_le _)
      rw [← hQ, hV0 (by omega), h2]
      exact ⟨_, rfl, _, rfl, h3, rfl⟩
  refine x_aload_n d_M_whereAt_0 rfl rfl ?_
  refine x_aload_n d_M_whereAt_1 rfl rfl ?_
  refine x_iload_n d_M_whereAt_2 rfl rfl ?_
  refine x_iload_n d_M_whereAt_3 rfl rfl ?_
  refine x_iload_n d_M_whereAt_4 rfl rfl ?_
  refine x_iload d_M_whereAt_5 rfl ?_
  refine x_iload d_M_whereAt_7 rfl ?_
  refine x_iload d_M_whereAt_9 rfl ?_
  refine x_V1 d_M_whereAt_11 e_M_whereAt_M_refuses ⟨rfl, rfl, Nat.zero_le _, Nat.zero_le _⟩ rfl rfl rfl rfl (Nat.le_of_ble_eq_true rfl) (rf) ?_
  refine x_putIG (kf := 0) tyX12 d_M_whereAt_14 rfl rfl rfl in_M f_M_217 tyX12_ok nmX12 (by decide +kernel) rfl ?_
  refine x_aload_n d_M_whereAt_17 rfl rfl ?_
  refine x_getIG (kf := 0) d_M_whereAt_18 rfl rfl rfl in_M f_M_217 ?_
  rw [up_same]
  refine x_if_ne (37) d_M_whereAt_21 (by decide) (fun c1 => ?_) (fun c1 => ?_)
  · have : 0 < C0 := by omega
    rw [if_neg (by omega)] at hC
    exact bad C0 this hC.symm _ (pFrame.rf _) (up_same _ _ _ _)
  · have eC0 : C0 = 0 := by omega
    obtain ⟨_, q1, q2, q3⟩ := hc0 (by omega)
    refine x_iload d_M_whereAt_24 rfl ?_
    refine x_S1 d_M_whereAt_26 e_M_whereAt_M_isMinute ⟨rfl, rfl, Nat.zero_le _, Nat.zero_le _⟩ rfl rfl (Nat.le_of_ble_eq_true rfl) (s_isMinute _ _) ?_
    refine x_if_ne (37) d_M_whereAt_29 (by decide) (fun c2 => ?_) (fun c2 => ?_)
    · rw [if_neg (fun z => c2 z.2), eC0] at hC
      have q5 := f_wi_1 c2
      obtain ⟨x, rfl⟩ : ∃ x : Nat, w = x := ⟨w.toNat, by omega⟩
      obtain ⟨t, rfl⟩ : ∃ t : Nat, m = t := ⟨m.toNat, by omega⟩
      obtain ⟨u, rfl⟩ : ∃ u : Nat, y = u := ⟨y.toNat, by omega⟩
      have hc : -1 ≤ ((a, b, k, f) : CC).2.2.2 ∧ ((a, b, k, f) : CC).2.2.2 < h.2 2 := by show -1 ≤ f ∧ f < _; omega
      have eV : V = if (a_al h (a, b, k, f) 21 (8 * t + x)).1 < 1000000000000 then a_wh h (a_al h (a, b, k, f) 21) u 22 t x else -1 := by
        rw [← hV]; unfold v_wat
        rw [show c_wat h a b k f x t u = 0 by unfold c_wat; rw [hC0, eC0, if_neg (fun z => c2 z.2)], if_pos rfl, Int.toNat_natCast, Int.toNat_natCast, Int.toNat_natCast]
      refine x_aload_n d_M_whereAt_37 rfl rfl ?_
      refine x_getIG (kf := 0) d_M_whereAt_38 rfl rfl rfl in_M f_M_217 ?_
      rw [up_same, eC0]
      refine x_if_le (46) d_M_whereAt_41 (by decide) (fun g => ?_) (fun g => ?_)
      · refine x_aload_n d_M_whereAt_46 rfl rfl ?_
        refine x_iload_n d_M_whereAt_47 rfl rfl ?_
        refine x_iload_n d_M_whereAt_48 rfl rfl ?_
        refine x_iload_n d_M_whereAt_49 rfl rfl ?_
        refine x_iload d_M_whereAt_50 rfl ?_
        refine x_VQ d_M_whereAt_52 e_M_whereAt_M_alone ⟨rfl, rfl, Nat.zero_le _, Nat.zero_le _⟩ rfl rfl rfl rfl (Nat.le_of_ble_eq_true rfl) (s_alone hh (r.th 0) (a, b, k, f) hc) (fun v τ hv => ?_)
        obtain ⟨rfl, G1, rfl, f1, e1⟩ := hv
        show x_A y_M_whereAt 55 [some oM, some (xI a), some (xI b), some (xI k), some (xI f), some (xI (x : Int)), some (xI (t : Int)), some (xI (u : Int)), none, none, none, none] [] (S0, G1) 0 0 Q
        have val := fun m p (hm : m ≤ 20) (hp : p < h.2 0) => a_al_V hh hc (m := m) (p := p) hm hp
        generalize hD : a_al h (a, b, k, f) 21 = D at *
        have fw : ∀ G', (∀ i, i ≠ m_wherever → G' i = G1 i) → pFrame (up G o_M 0 C) G' := fun G' hg => by
          rw [← hC]
          refine f1.tr ⟨fun i h1 h2 => hg i (by intro z; subst z; revert h2; decide), fun k _ => by rw [hg o_M (by decide)]⟩
        -- the end
        have fin : ∀ G' z8 z9 z11, (∀ i, i ≠ m_wherever → G' i = G1 i) → G' m_wherever u = V → x_A y_M_whereAt 114 [some oM, some (xI a), some (xI b), some (xI k), some (xI f), some (xI (x : Int)), some (xI (t : Int)), some (xI (u : Int)), z8, z9, some (xI 0), z11] [] (S0, G') 0 0 Q := by
          intro G' z8 z9 z11 h1 h2
          refine x_iload d_M_whereAt_114 rfl ?_
          refine x_if_eq (207) d_M_whereAt_116 (by decide) (fun g1 => ?_) (fun g1 => ?_)
          · refine x_aload_n d_M_whereAt_207 rfl rfl ?_
            refine x_getF (kf := 78) d_M_whereAt_208 rfl rfl rfl in_M f_M_202 ?_
            refine x_iload d_M_whereAt_211 rfl ?_
            refine x_ialdN (u) d_M_whereAt_213 rfl (by omega) (by omega) ?_
            rw [h2]
            refine x_ireturn d_M_whereAt_214 rfl ?_ (Nat.zero_le _) (Nat.zero_le _)
            rw [← hQ]
            exact ⟨_, rfl, G', rfl, fw G' h1, rfl⟩
          · exact absurd rfl g1
        -- the walk
        have walk : ∀ n (m' p' : Nat) G' z11, 22 ≤ n + m' → m' ≤ 20 → p' < h.2 0 → (D (8 * m' + p')).1 < 1000000000000 → (∀ i, i ≠ m_wherever → G' i = G1 i) → (u < m' → G' m_wherever u = V) → (m' ≤ u → G' m_wherever u = -1 ∧ V = a_wh h D u n m' p') → x_A y_M_whereAt 114 [some oM, some (xI a), some (xI b), some (xI k), some (xI f), some (xI (x : Int)), some (xI (t : Int)), some (xI (u : Int)), some (xI (p' : Int)), some (xI (m' : Int)), some (xI 1), z11] [] (S0, G') 0 0 Q := by
          intro n
          induction n with
          | zero => intro m' p' G' z11 h1 h2; omega
          | succ n ih =>
            intro m' p' G' z11 h1 h2 h3 h4 h5 h6 h7
            have ew : a_wh h D u (n + 1) m' p' = if u ≤ m' then (if m' = u then (p' : Int) else -1) else if (D (8 * m' + p')).2.2 = 0 then -1 else if (D (8 * m' + p')).2.2 = 1 then a_wh h D u n (m' + 1) p' else a_wh h D u n ((m' : Int) + h.1 1 ((D (8 * m' + p')).2.2 - 2).toNat 2 * h.1 9 0 1).toNat (f_oth h p' ((D (8 * m' + p')).2.2 - 2).toNat).toNat := rfl
            rw [ew] at h7
            have vz := val m' p' h2 h3 h4
            have ed : G' m_deed (8 * m' + p') = (D (8 * m' + p')).2.2 := by
              rw [h5 m_deed (by decide)]
              exact congrArg (fun z : T3 => z.2.2) (e1 m' p' h2 h3)
            have r2 : mRep h G' := (fw G' h5).rep (r.th C)
            have eu : u < m' + 1 → up G' m_wherever m' (p' : Int) m_wherever u = V := fun q => by
              by_cases e : u = m'
              · subst e
                rw [up_same]
                have := (h7 (Nat.le_refl _)).2
                rw [if_pos (Nat.le_refl _), if_pos rfl] at this
                exact this.symm
              · rw [up_ne e]; exact h6 (by omega)
            have f2 : ∀ i, i ≠ m_wherever → up G' m_wherever m' (p' : Int) i = G1 i := fun i hi => by rw [up_cell hi]; exact h5 i hi
            have r3 : mRep h (up G' m_wherever m' (p' : Int)) := (fw _ f2).rep (r.th C)
            generalize hz : D (8 * m' + p') = z at *
            refine x_iload d_M_whereAt_114 rfl ?_
            refine x_if_eq (207) d_M_whereAt_116 (by decide) (fun g1 => ?_) (fun g1 => ?_)
            · cases g1
            · refine x_aload_n d_M_whereAt_119 rfl rfl ?_
              refine x_getF (kf := 77) d_M_whereAt_120 rfl rfl rfl in_M f_M_199 ?_
              refine x_bipush (8) d_M_whereAt_123 rfl ⟨by decide, by decide⟩ ?_
              refine x_iload d_M_whereAt_125 rfl ?_
              refine x_imulN d_M_whereAt_127 (by omega) (by omega) ?_
              refine x_iload d_M_whereAt_128 rfl ?_
              refine x_iaddN d_M_whereAt_130 (by omega) (by omega) ?_
              refine x_ialdN ((8 * m' + p')) d_M_whereAt_131 rfl (by omega) (by omega) ?_
              rw [ed]
              refine x_istore d_M_whereAt_132 (by decide) ?_
              dsimp only [x_st1, x_st2, x_kill, List.set, List.getElem?_cons_zero, List.getElem?_cons_succ]
              refine x_aload_n d_M_whereAt_134 rfl rfl ?_
              refine x_getF (kf := 78) d_M_whereAt_135 rfl rfl rfl in_M f_M_202 ?_
              refine x_iload d_M_whereAt_138 rfl ?_
              refine x_iload d_M_whereAt_140 rfl ?_
              refine x_iastN (m') d_M_whereAt_142 rfl (by omega) (by omega) ?_
              refine x_iload d_M_whereAt_143 rfl ?_
              rcases vz with v | ⟨v1, v2, v3⟩ | ⟨w, v1, v2, v3, v4, v5⟩
              · rw [v]
                refine x_if_le (152) d_M_whereAt_145 (by decide) (fun g2 => ?_) (fun g2 => ?_)
                · refine x_iconst (0) d_M_whereAt_152 rfl ⟨by decide, by decide⟩ ?_
                  refine x_istore d_M_whereAt_153 (by decide) ?_
                  dsimp only [x_st1, x_st2, x_kill, List.set, List.getElem?_cons_zero, List.getElem?_cons_succ]
                  refine x_iload d_M_whereAt_155 rfl ?_
                  refine x_iconst (1) d_M_whereAt_157 rfl ⟨by decide, by decide⟩ ?_
                  refine x_icmp_ne (167) d_M_whereAt_158 (by decide) (fun g3 => ?_) (fun g3 => ?_)
                  · refine x_iload d_M_whereAt_167 rfl ?_
                    refine x_iconst (1) d_M_whereAt_169 rfl ⟨by decide, by decide⟩ ?_
                    refine x_icmp_le (204) d_M_whereAt_170 (by decide) (fun g4 => ?_) (fun g4 => ?_)
                    · refine x_goto (114) d_M_whereAt_204 (by decide) ?_
                      refine fin _ _ _ _ f2 ?_
                      by_cases q : u < m' + 1
                      · exact eu q
                      · rw [up_ne (by omega)]
                        have := h7 (by omega)
                        rw [if_neg (by omega), if_pos v] at this
                        rw [this.1, this.2]
                    · exact absurd (show (0 : Int) ≤ 1 by decide) g4
                  · cases g3
                · exact absurd (show (0 : Int) ≤ 0 by decide) g2
              · rw [v1]
                refine x_if_le (152) d_M_whereAt_145 (by decide) (fun g2 => ?_) (fun g2 => ?_)
                · exact absurd g2 (by decide)
                · refine x_iconst (1) d_M_whereAt_148 rfl ⟨by decide, by decide⟩ ?_
                  refine x_goto (153) d_M_whereAt_149 (by decide) ?_
                  refine x_istore d_M_whereAt_153 (by decide) ?_
                  dsimp only [x_st1, x_st2, x_kill, List.set, List.getElem?_cons_zero, List.getElem?_cons_succ]
                  refine x_iload d_M_whereAt_155 rfl ?_
                  refine x_iconst (1) d_M_whereAt_157 rfl ⟨by decide, by decide⟩ ?_
                  refine x_icmp_ne (167) d_M_whereAt_158 (by decide) (fun g3 => ?_) (fun g3 => ?_)
                  · exact absurd rfl g3
                  · refine x_iincN d_M_whereAt_161 rfl (by decide) (by omega) (by omega) ?_
                    dsimp only [x_st1, x_st2, x_kill, List.set, List.getElem?_cons_zero, List.getElem?_cons_succ]
                    refine x_goto (204) d_M_whereAt_164 (by decide) ?_
                    refine x_goto (114) d_M_whereAt_204 (by decide) ?_
                    refine ih (m' + 1) p' _ _ (by omega) (by omega) h3 (by rw [show 8 * (m' + 1) + p' = 8 * m' + p' + 8 by omega]; exact v3) f2 eu (fun q => ?_)
                    rw [up_ne (by omega)]
                    have := h7 (by omega)
                    rw [if_neg (by omega), if_neg (by omega), if_pos v1] at this
                    exact this
              · have bw := w_wk hh v1
                have bo := f_oth_bd hh (p' : Int) v1
                have el := (r3.2.2.1 w v1).2.2.1
                have ek := r3.2.2.2.2.2.2.2.2.2.2.2.1
                have b12 := hh.2.2.1 w v1
                have b9 := hh.2.2.2.2.2.2.2.2.2.2
                have co := s_otherEnd hh r3 (p' : Int) w v1
                unfold a_ix at v5
                refine x_if_le (152) d_M_whereAt_145 (by decide) (fun g2 => ?_) (fun g2 => ?_)
                · omega
                · refine x_iconst (1) d_M_whereAt_148 rfl ⟨by decide, by decide⟩ ?_
                  refine x_goto (153) d_M_whereAt_149 (by decide) ?_
                  refine x_istore d_M_whereAt_153 (by decide) ?_
                  dsimp only [x_st1, x_st2, x_kill, List.set, List.getElem?_cons_zero, List.getElem?_cons_succ]
                  refine x_iload d_M_whereAt_155 rfl ?_
                  refine x_iconst (1) d_M_whereAt_157 rfl ⟨by decide, by decide⟩ ?_
                  refine x_icmp_ne (167) d_M_whereAt_158 (by decide) (fun g3 => ?_) (fun g3 => ?_)
                  · refine x_iload d_M_whereAt_167 rfl ?_
                    refine x_iconst (1) d_M_whereAt_169 rfl ⟨by decide, by decide⟩ ?_
                    refine x_icmp_le (204) d_M_whereAt_170 (by decide) (fun g4 => ?_) (fun g4 => ?_)
                    · omega
                    · refine x_iload d_M_whereAt_173 rfl ?_
                      refine x_aload_n d_M_whereAt_175 rfl rfl ?_
                      refine x_getF (kf := 20) d_M_whereAt_176 rfl rfl rfl in_M f_M_38 ?_
                      refine x_iload d_M_whereAt_179 rfl ?_
                      refine x_iconst (2) d_M_whereAt_181 rfl ⟨by decide, by decide⟩ ?_
                      refine x_isubN d_M_whereAt_182 (by omega) (by omega) ?_
                      refine x_ialdN (w) d_M_whereAt_183 rfl (by omega) (by omega) ?_
                      rw [el]
                      refine x_aload_n d_M_whereAt_184 rfl rfl ?_
                      refine x_getIG (kf := 11) d_M_whereAt_185 rfl rfl rfl in_M f_M_13 ?_
                      rw [ek]
                      have h7' : m' ≤ u → G' m_wherever u = -1 ∧ V = if u ≤ m' then (if m' = u then (p' : Int) else -1) else a_wh h D u n ((m' : Int) + h.1 1 w 2 * h.1 9 0 1).toNat (f_oth h p' w).toNat := fun q => by
                        have := h7 q
                        rw [if_neg (show ¬ z.2.2 = 0 by omega), if_neg (show ¬ z.2.2 = 1 by omega), show (z.2.2 - 2).toNat = w by omega] at this
                        exact this
                      generalize htk : h.1 1 w 2 * h.1 9 0 1 = tk at *
                      refine x_imul d_M_whereAt_188 ?_
                      rw [show w32 (h.1 1 w 2 * h.1 9 0 1) = tk by rw [htk]; exact w32_id (by omega) (by omega)]
                      refine x_iaddN d_M_whereAt_189 (by omega) (by omega) ?_
                      refine x_istore d_M_whereAt_190 (by decide) ?_
                      dsimp only [x_st1, x_st2, x_kill, List.set, List.getElem?_cons_zero, List.getElem?_cons_succ]
                      refine x_aload_n d_M_whereAt_192 rfl rfl ?_
                      refine x_iload d_M_whereAt_193 rfl ?_
                      refine x_iload d_M_whereAt_195 rfl ?_
                      refine x_iconst (2) d_M_whereAt_197 rfl ⟨by decide, by decide⟩ ?_
                      refine x_isubN d_M_whereAt_198 (by omega) (by omega) ?_
                      rw [show z.2.2 - 2 = (w : Int) by omega]
                      refine x_V1 d_M_whereAt_199 e_M_whereAt_M_otherEnd ⟨rfl, rfl, Nat.zero_le _, Nat.zero_le _⟩ rfl rfl rfl rfl (Nat.le_of_ble_eq_true rfl) (co) ?_
                      refine x_istore d_M_whereAt_202 (by decide) ?_
                      dsimp only [x_st1, x_st2, x_kill, List.set, List.getElem?_cons_zero, List.getElem?_cons_succ]
                      refine x_goto (114) d_M_whereAt_204 (by decide) ?_
                      have := ih ((m' : Int) + tk).toNat (f_oth h p' w).toNat (up G' m_wherever m' (p' : Int)) (some (xI z.2.2)) (by omega) (by omega) (by omega) v5 f2 (fun q => by
                        by_cases q2 : u < m' + 1
                        · exact eu q2
                        · rw [up_ne (by omega)]
                          have := h7' (by omega)
                          rw [if_neg (by omega)] at this
                          rw [this.1, this.2]
                          obtain ⟨n', rfl⟩ : ∃ n', n = n' + 1 := ⟨n - 1, by omega⟩
                          show -1 = if u ≤ ((m' : Int) + tk).toNat then _ else _
                          rw [if_pos (by omega), if_neg (by omega)]) (fun q => by
                        rw [up_ne (by omega)]
                        have := h7' (by omega)
                        rw [if_neg (by omega)] at this
                        exact this)
                      rw [show (((m' : Int) + tk).toNat : Int) = (m' : Int) + tk by omega, show ((f_oth h p' w).toNat : Int) = f_oth h p' w by omega] at this
                      exact this
                  · omega
        refine x_iconst (0) d_M_whereAt_55 rfl ⟨by decide, by decide⟩ ?_
        refine x_istore d_M_whereAt_56 (by decide) ?_
        dsimp only [x_st1, x_st2, x_kill, List.set, List.getElem?_cons_zero, List.getElem?_cons_succ]
        refine x_up_to (P := fun n => ∀ G', (∀ i, i ≠ m_wherever → G' i = G1 i) → (∀ j, j < n → G' m_wherever j = -1) → x_A y_M_whereAt 58 [some oM, some (xI a), some (xI b), some (xI k), some (xI f), some (xI (x : Int)), some (xI (t : Int)), some (xI (u : Int)), some (xI (n : Int)), none, none, none] [] (S0, G') 0 0 Q) 0 21 (Nat.zero_le _) (fun G' h1 h2 => ?_) (fun n _ hn kk G' h1 h2 => ?_) G1 (fun _ _ => rfl) (fun j hj => by omega)
        · have d1 : G' m_dose (8 * t + x) = (D (8 * t + x)).1 := by
            rw [h1 m_dose (by decide)]
            exact congrArg (fun z : T3 => z.1) (e1 t x (by omega) (by omega))
          refine x_iload d_M_whereAt_58 rfl ?_
          refine x_bipush (20) d_M_whereAt_60 rfl ⟨by decide, by decide⟩ ?_
          refine x_icmp_gt (79) d_M_whereAt_62 (by decide) (fun g1 => ?_) (fun g1 => ?_)
          · refine x_iload d_M_whereAt_79 rfl ?_
            refine x_istore d_M_whereAt_81 (by decide) ?_
            dsimp only [x_st1, x_st2, x_kill, List.set, List.getElem?_cons_zero, List.getElem?_cons_succ]
            refine x_iload d_M_whereAt_83 rfl ?_
            refine x_istore d_M_whereAt_85 (by decide) ?_
            dsimp only [x_st1, x_st2, x_kill, List.set, List.getElem?_cons_zero, List.getElem?_cons_succ]
            refine x_aload_n d_M_whereAt_87 rfl rfl ?_
            refine x_getF (kf := 75) d_M_whereAt_88 rfl rfl rfl in_M f_M_192 ?_
            refine x_bipush (8) d_M_whereAt_91 rfl ⟨by decide, by decide⟩ ?_
            refine x_iload d_M_whereAt_93 rfl ?_
            refine x_imulN d_M_whereAt_95 (by omega) (by omega) ?_
            refine x_iload d_M_whereAt_96 rfl ?_
            refine x_iaddN d_M_whereAt_98 (by omega) (by omega) ?_
            refine x_laldN ((8 * t + x)) d_M_whereAt_99 rfl (by omega) (by omega) ?_
            rw [d1]
            refine x_ldc2 (1000000000000) d_M_whereAt_100 k_M_466 ⟨by decide, by decide⟩ ?_
            refine x_lcmp_ d_M_whereAt_103 ?_
            refine x_if_ge (111) d_M_whereAt_104 (by decide) (fun g2 => ?_) (fun g2 => ?_)
            · have h5 : ¬ (D (8 * t + x)).1 < 1000000000000 := by unfold x_lcmp at g2; split at g2 <;> (try split at g2) <;> omega
              rw [if_neg h5] at eV
              refine x_iconst (0) d_M_whereAt_111 rfl ⟨by decide, by decide⟩ ?_
              refine x_istore d_M_whereAt_112 (by decide) ?_
              dsimp only [x_st1, x_st2, x_kill, List.set, List.getElem?_cons_zero, List.getElem?_cons_succ]
              exact fin _ _ _ _ h1 (by rw [h2 u (by omega), eV])
            · have h5 : (D (8 * t + x)).1 < 1000000000000 := by unfold x_lcmp at g2; split at g2 <;> (try split at g2) <;> omega
              rw [if_pos h5] at eV
              refine x_iconst (1) d_M_whereAt_107 rfl ⟨by decide, by decide⟩ ?_
              refine x_goto (112) d_M_whereAt_108 (by decide) ?_
              refine x_istore d_M_whereAt_112 (by decide) ?_
              dsimp only [x_st1, x_st2, x_kill, List.set, List.getElem?_cons_zero, List.getElem?_cons_succ]
              exact walk 22 t x G' _ (by omega) (by omega) (by omega) h5 h1 (fun q => by
                rw [h2 u (by omega), eV]
                show -1 = if u ≤ t then _ else _
                rw [if_pos (by omega), if_neg (by omega)]) (fun q => ⟨h2 u (by omega), eV⟩)
          · omega
        · refine x_iload d_M_whereAt_58 rfl ?_
          refine x_bipush (20) d_M_whereAt_60 rfl ⟨by decide, by decide⟩ ?_
          refine x_icmp_gt (79) d_M_whereAt_62 (by decide) (fun g1 => ?_) (fun g1 => ?_)
          · omega
          · refine x_aload_n d_M_whereAt_65 rfl rfl ?_
            refine x_getF (kf := 78) d_M_whereAt_66 rfl rfl rfl in_M f_M_202 ?_
            refine x_iload d_M_whereAt_69 rfl ?_
            refine x_iconst (-1) d_M_whereAt_71 rfl ⟨by decide, by decide⟩ ?_
            refine x_iastN (n) d_M_whereAt_72 rfl (by omega) (by omega) ?_
            refine x_iincN d_M_whereAt_73 rfl (by decide) (by omega) (by omega) ?_
            dsimp only [x_st1, x_st2, x_kill, List.set, List.getElem?_cons_zero, List.getElem?_cons_succ]
            refine x_goto (58) d_M_whereAt_76 (by decide) ?_
            refine kk _ (fun i hi => by rw [up_cell hi]; exact h1 i hi) (fun j hj => ?_)
            by_cases e : j = n
            · subst e; rw [up_same]
            · rw [up_ne e]; exact h2 j (by omega)
      · omega
    · rw [if_pos ⟨eC0, c2⟩] at hC
      refine x_aload_n d_M_whereAt_32 rfl rfl ?_
      refine x_iconst (2) d_M_whereAt_33 rfl ⟨by decide, by decide⟩ ?_
      refine x_putIG (kf := 0) tyX12 d_M_whereAt_34 rfl rfl rfl in_M f_M_217 tyX12_ok nmX12 (by decide +kernel) rfl ?_
      refine bad 2 (by decide) hC.symm _ ?_ (up_same _ _ _ _)
      rw [up_on]
      exact pFrame.rf _
