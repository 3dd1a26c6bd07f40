/-! the reference: fitting, fits, next -/
def qFrame (G G' : Nat → Nat → Int) : Prop := (∀ i, i ≠ o_M → (i < m_above ∨ m_hasMark < i) → G' i = G i) ∧ ∀ k, k ≠ 68 → G' o_M k = G o_M k
theorem pFrame.q {G G' : Nat → Nat → Int} (f : pFrame G G') : qFrame G G' := ⟨fun i h1 h2 => f.1 i h1 (by have : m_wherever < m_hasMark := (by decide); omega), f.2⟩
def mAnsF (G : Nat → Nat → Int) (code V : Int) : Option XV → XM → Prop := fun v τ => ∃ G', τ = (S0, G') ∧ qFrame (up G o_M 0 code) G' ∧ v = some (xI V)
def HM (h : HH) (pl : Int) (n : Nat) (G : Nat → Nat → Int) : Prop := ∀ f, f < n → (f < h.2 2 ∨ f = 4) → ∀ i, i < 168 → G m_hasMark (168 * f + i) = b2i (mkB h pl f (i / 8) (i % 8))
def fFr (G G' : Nat → Nat → Int) : Prop := ∀ i, i ≠ m_hasMark → (i < m_above ∨ m_washed < i) → G' i = G i
theorem fFr.tr {G1 G2 G3 : Nat → Nat → Int} (a : fFr G1 G2) (b : fFr G2 G3) : fFr G1 G3 := fun i h1 h2 => (b i h1 h2).trans (a i h1 h2)
theorem fFr.rep {h : HH} {G G' : Nat → Nat → Int} (f : fFr G G') (r : mRep h G) : mRep h G' := r.same (fun k _ _ => by rw [f o_M (by decide) (Or.inl (by decide))]) (fun i h1 h2 => f i (by intro z; subst z; revert h2; decide) (Or.inl (by have : m_aIs < m_above := (by decide); omega)))
theorem fFr.q {G G' : Nat → Nat → Int} (f : fFr G G') : qFrame G G' := ⟨fun i h1 h2 => f i (by intro z; subst z; revert h2; decide) (by have : m_washed < m_hasMark := (by decide); omega), fun k _ => by rw [f o_M (by decide) (Or.inl (by decide))]⟩
section MFt
variable {h : HH} {G : Nat → Nat → Int}
def mFit (h : HH) (pl : Int) (G : Nat → Nat → Int) : Option XV → XM → Prop := fun v τ => v = some (xI (f_ft h pl 5)) ∧ ∃ G', τ = (S0, G') ∧ fFr G G' ∧ HM h pl 5 G'
theorem s_fitting (hh : Hwf h) (r0 : mRep h G) (pl : Int) : x_M y_M_fitting [oM, xI pl] (S0, G) (fun r τ => ∃ v, r = .inl v ∧ mFit h pl G v τ) := by
  have bb := hh.1
  refine x_of 4 rfl (Nat.le_of_ble_eq_true rfl) ?_
  show x_A y_M_fitting 0 [some oM, some (xI pl), none, none, none, none] [] (S0, G) 0 0 _
  generalize hQ : (fun (r : XRes) (τ : XM) => ∃ v, r = .inl v ∧ mFit h pl G v τ) = Q
  refine x_iconst (0) d_M_fitting_0 rfl ⟨by decide, by decide⟩ ?_
  refine x_istore_n d_M_fitting_1 rfl (by decide) ?_
  dsimp only [x_st1, x_st2, x_kill, List.set, List.getElem?_cons_zero, List.getElem?_cons_succ]
  refine x_iconst (0) d_M_fitting_2 rfl ⟨by decide, by decide⟩ ?_
  refine x_istore_n d_M_fitting_3 rfl (by decide) ?_
  dsimp only [x_st1, x_st2, x_kill, List.set, List.getElem?_cons_zero, List.getElem?_cons_succ]
  refine x_up_to (P := fun f => ∀ z4 z5 G', fFr G G' → HM h pl f G' → x_A y_M_fitting 4 [some oM, some (xI pl), some (xI (f_ft h pl f)), some (xI (f : Int)), z4, z5] [] (S0, G') 0 0 Q) 0 5 (Nat.zero_le _) (fun z4 z5 G' f1 hm => ?_) (fun f _ hf kk z4 z5 G' f1 hm => ?_) none none G (fun _ _ _ => rfl) (fun f hf => by omega)
  · refine x_iload_n d_M_fitting_4 rfl rfl ?_
    refine x_iconst (5) d_M_fitting_5 rfl ⟨by decide, by decide⟩ ?_
    refine x_icmp_ge (201) d_M_fitting_6 (by decide) (fun g => ?_) (fun g => ?_)
    · refine x_iload_n d_M_fitting_201 rfl rfl ?_
      refine x_ireturn d_M_fitting_202 rfl ?_ (Nat.zero_le _) (Nat.zero_le _)
      rw [← hQ]
      exact ⟨_, rfl, rfl, G', rfl, f1, hm⟩
    · omega
  · have r := f1.rep r0
    have e2 := r.1.2.2.1
    have eft : f_ft h pl (f + 1) = if okR h pl f then x_or (f_ft h pl f) (x_shl 1 f) else f_ft h pl f := rfl
    have go : (f < h.2 2 ∨ f = 4) → x_A y_M_fitting 25 [some oM, some (xI pl), some (xI (f_ft h pl f)), some (xI (f : Int)), z4, z5] [] (S0, G') 0 0 Q := by
      intro hv
      have hc : -1 ≤ ((pl, pl, 0, f_fi f) : CC).2.2.2 ∧ ((pl, pl, 0, f_fi f) : CC).2.2.2 < h.2 2 := by
        show -1 ≤ f_fi f ∧ f_fi f < _
        unfold f_fi; split <;> omega
      have cbn := s_burns hh r (pl, pl, 0, f_fi f) hc
      have aft : ∀ G2 z4, fFr G G2 → HM h pl f G2 → mSmoke h (pl, pl, 0, f_fi f) G2 → x_A y_M_fitting 42 [some oM, some (xI pl), some (xI (f_ft h pl f)), some (xI (f : Int)), z4, z5] [] (S0, G2) 0 0 Q := by
        intro G2 z4 f2 hm2 sm
        refine x_iconst (0) d_M_fitting_42 rfl ⟨by decide, by decide⟩ ?_
        refine x_istore d_M_fitting_43 (by decide) ?_
        dsimp only [x_st1, x_st2, x_kill, List.set, List.getElem?_cons_zero, List.getElem?_cons_succ]
        refine x_up_to (P := fun i => ∀ G', (∀ z, z ≠ m_hasMark → G' z = G2 z) → (∀ j, j < 168 * f → G' m_hasMark j = G2 m_hasMark j) → (∀ j, j < i → G' m_hasMark (168 * f + j) = b2i (mkB h pl f (j / 8) (j % 8))) → x_A y_M_fitting 45 [some oM, some (xI pl), some (xI (f_ft h pl f)), some (xI (f : Int)), some (xI (i : Int)), z5] [] (S0, G') 0 0 Q) 0 168 (Nat.zero_le _) (fun G3 h1 h2 h3 => ?_) (fun i _ hi k2 G3 h1 h2 h3 => ?_) G2 (fun _ _ => rfl) (fun _ _ => rfl) (fun j hj => by omega)
        · have f3 : fFr G G3 := f2.tr (fun i q1 _ => h1 i q1)
          have r3 := f3.rep r0
          have hm3 : HM h pl (f + 1) G3 := fun f' hf' hv' i hi => by
            by_cases e : f' = f
            · subst e; exact h3 i hi
            · rw [h2 _ (by omega)]; exact hm2 f' (by omega) hv' i hi
          have e8 := r3.1.2.2.2.2.2.2.2.2
          -- readings
          have rd : x_A y_M_fitting 105 [some oM, some (xI pl), some (xI (f_ft h pl f)), some (xI (f : Int)), some (xI (b2i (f_fA h pl f 0))), some (xI ((0 : Nat) : Int))] [] (S0, G3) 0 0 Q := by
            refine x_up_to (P := fun n => x_A y_M_fitting 105 [some oM, some (xI pl), some (xI (f_ft h pl f)), some (xI (f : Int)), some (xI (b2i (f_fA h pl f n))), some (xI (n : Int))] [] (S0, G3) 0 0 Q) 0 (h.2 8) (Nat.zero_le _) ?_ (fun n _ hn k3 => ?_)
            · refine x_iload d_M_fitting_105 rfl ?_
              refine x_aload_n d_M_fitting_107 rfl rfl ?_
              refine x_getIG (kf := 9) d_M_fitting_108 rfl rfl rfl in_M f_M_278 ?_
              rw [e8]
              refine x_icmp_ge (180) d_M_fitting_111 (by decide) (fun g2 => ?_) (fun g2 => ?_)
              · have k5 := kk (some (xI (b2i (f_fA h pl f (h.2 8))))) (some (xI (h.2 8 : Int))) G3 f3 hm3
                rw [eft] at k5
                refine x_iload_n d_M_fitting_180 rfl rfl ?_
                refine x_iload d_M_fitting_181 rfl ?_
                cases q : f_fA h pl f (h.2 8) with
                | true =>
                  rw [if_pos ⟨hv, q⟩, q] at k5
                  refine x_if_eq (192) d_M_fitting_183 (by decide) (fun g3 => ?_) (fun g3 => ?_)
                  · cases g3
                  · refine x_iconst (1) d_M_fitting_186 rfl ⟨by decide, by decide⟩ ?_
                    refine x_iload_n d_M_fitting_187 rfl rfl ?_
                    refine x_ishl d_M_fitting_188 ?_
                    refine x_goto (193) d_M_fitting_189 (by decide) ?_
                    refine x_ior d_M_fitting_193 ?_
                    refine x_istore_n d_M_fitting_194 rfl (by decide) ?_
                    dsimp only [x_st1, x_st2, x_kill, List.set, List.getElem?_cons_zero, List.getElem?_cons_succ]
                    refine x_iincN d_M_fitting_195 rfl (by decide) (by omega) (by omega) ?_
                    dsimp only [x_st1, x_st2, x_kill, List.set, List.getElem?_cons_zero, List.getElem?_cons_succ]
                    refine x_goto (4) d_M_fitting_198 (by decide) ?_
                    exact k5
                | false =>
                  rw [if_neg (fun z => by have := z.2; rw [q] at this; cases this), q] at k5
                  refine x_if_eq (192) d_M_fitting_183 (by decide) (fun g3 => ?_) (fun g3 => ?_)
                  · refine x_iconst (0) d_M_fitting_192 rfl ⟨by decide, by decide⟩ ?_
                    refine x_ior d_M_fitting_193 ?_
                    rw [show x_or (f_ft h pl f) 0 = f_ft h pl f from by
                      obtain ⟨s, s1, s2⟩ := f_ft_n h pl (f := f) (by omega)
                      have : s < 32 := Nat.lt_of_lt_of_le s1 (Nat.pow_le_pow_right (by decide) (by omega : f ≤ 5))
                      rw [s2]
                      have key : ∀ s : Fin 32, x_or ((s : Nat) : Int) 0 = ((s : Nat) : Int) := by decide +kernel
                      exact key ⟨s, this⟩]
                    refine x_istore_n d_M_fitting_194 rfl (by decide) ?_
                    dsimp only [x_st1, x_st2, x_kill, List.set, List.getElem?_cons_zero, List.getElem?_cons_succ]
                    refine x_iincN d_M_fitting_195 rfl (by decide) (by omega) (by omega) ?_
                    dsimp only [x_st1, x_st2, x_kill, List.set, List.getElem?_cons_zero, List.getElem?_cons_succ]
                    refine x_goto (4) d_M_fitting_198 (by decide) ?_
                    exact k5
                  · exact absurd rfl g3
              · omega
            · have b8 := hh.2.2.2.2.2.2.2.2.2.1 n hn
              have ea : f_fA h pl f (n + 1) = (f_fA h pl f n && (mkB h pl f (h.1 8 n 1).toNat (h.1 8 n 0).toNat == decide (h.1 8 n 2 = 1))) := rfl
              rw [ea] at k3
              have ei := r3.2.2.2.2.2.2.2.2.2.1 n hn
              obtain ⟨pn, hpn⟩ : ∃ z : Nat, h.1 8 n 0 = z := ⟨(h.1 8 n 0).toNat, by omega⟩
              obtain ⟨mn, hmn⟩ : ∃ z : Nat, h.1 8 n 1 = z := ⟨(h.1 8 n 1).toNat, by omega⟩
              rw [hpn] at k3 b8 ei
              rw [hmn] at k3 b8 ei
              rw [Int.toNat_natCast, Int.toNat_natCast] at k3
              have hb := h3 (8 * mn + pn) (by omega)
              rw [show (8 * mn + pn) / 8 = mn by omega, show (8 * mn + pn) % 8 = pn by omega, show 168 * f + (8 * mn + pn) = 168 * f + 8 * mn + pn by omega] at hb
              refine x_iload d_M_fitting_105 rfl ?_
              refine x_aload_n d_M_fitting_107 rfl rfl ?_
              refine x_getIG (kf := 9) d_M_fitting_108 rfl rfl rfl in_M f_M_278 ?_
              rw [e8]
              refine x_icmp_ge (180) d_M_fitting_111 (by decide) (fun g2 => ?_) (fun g2 => ?_)
              · omega
              · refine x_iload d_M_fitting_114 rfl ?_
                cases q : f_fA h pl f n with
                | false =>
                  rw [q, Bool.false_and] at k3
                  refine x_if_eq (171) d_M_fitting_116 (by decide) (fun g3 => ?_) (fun g3 => ?_)
                  · refine x_iconst (0) d_M_fitting_171 rfl ⟨by decide, by decide⟩ ?_
                    refine x_istore d_M_fitting_172 (by decide) ?_
                    dsimp only [x_st1, x_st2, x_kill, List.set, List.getElem?_cons_zero, List.getElem?_cons_succ]
                    refine x_iincN d_M_fitting_174 rfl (by decide) (by omega) (by omega) ?_
                    dsimp only [x_st1, x_st2, x_kill, List.set, List.getElem?_cons_zero, List.getElem?_cons_succ]
                    refine x_goto (105) d_M_fitting_177 (by decide) ?_
                    exact k3
                  · exact absurd rfl g3
                | true =>
                  rw [q, Bool.true_and] at k3
                  refine x_if_eq (171) d_M_fitting_116 (by decide) (fun g3 => ?_) (fun g3 => ?_)
                  · cases g3
                  · refine x_aload_n d_M_fitting_119 rfl rfl ?_
                    refine x_getF (kf := 79) d_M_fitting_120 rfl rfl rfl in_M f_M_205 ?_
                    refine x_sipush (168) d_M_fitting_123 rfl ⟨by decide, by decide⟩ ?_
                    refine x_iload_n d_M_fitting_126 rfl rfl ?_
                    refine x_imulN d_M_fitting_127 (by omega) (by omega) ?_
                    refine x_bipush (8) d_M_fitting_128 rfl ⟨by decide, by decide⟩ ?_
                    refine x_aload_n d_M_fitting_130 rfl rfl ?_
                    refine x_getF (kf := 47) d_M_fitting_131 rfl rfl rfl in_M f_M_120 ?_
                    refine x_iload d_M_fitting_134 rfl ?_
                    refine x_ialdN (n) d_M_fitting_136 rfl (by omega) (by omega) ?_
                    rw [ei.2.1]
                    refine x_imulN d_M_fitting_137 (by omega) (by omega) ?_
                    refine x_iaddN d_M_fitting_138 (by omega) (by omega) ?_
                    refine x_aload_n d_M_fitting_139 rfl rfl ?_
                    refine x_getF (kf := 46) d_M_fitting_140 rfl rfl rfl in_M f_M_117 ?_
                    refine x_iload d_M_fitting_143 rfl ?_
                    refine x_ialdN (n) d_M_fitting_145 rfl (by omega) (by omega) ?_
                    rw [ei.1]
                    refine x_iaddN d_M_fitting_146 (by omega) (by omega) ?_
                    refine x_baldN ((168 * f + 8 * mn + pn)) d_M_fitting_147 rfl (by omega) (by omega) ?_
                    rw [hb]
                    refine x_aload_n d_M_fitting_148 rfl rfl ?_
                    refine x_getF (kf := 48) d_M_fitting_149 rfl rfl rfl in_M f_M_123 ?_
                    refine x_iload d_M_fitting_152 rfl ?_
                    refine x_ialdN (n) d_M_fitting_154 rfl (by omega) (by omega) ?_
                    rw [ei.2.2]
                    refine x_iconst (1) d_M_fitting_155 rfl ⟨by decide, by decide⟩ ?_
                    by_cases d : h.1 8 n 2 = 1
                    · rw [decide_eq_true d] at k3
                      refine x_icmp_ne (163) d_M_fitting_156 (by decide) (fun g4 => ?_) (fun g4 => ?_)
                      · exact absurd d g4
                      · refine x_iconst (1) d_M_fitting_159 rfl ⟨by decide, by decide⟩ ?_
                        refine x_goto (164) d_M_fitting_160 (by decide) ?_
                        cases mb : mkB h pl f mn pn with
                        | true =>
                          rw [mb] at k3
                          refine x_icmp_ne (171) d_M_fitting_164 (by decide) (fun g5 => ?_) (fun g5 => ?_)
                          · exact absurd rfl g5
                          · refine x_iconst (1) d_M_fitting_167 rfl ⟨by decide, by decide⟩ ?_
                            refine x_goto (172) d_M_fitting_168 (by decide) ?_
                            refine x_istore d_M_fitting_172 (by decide) ?_
                            dsimp only [x_st1, x_st2, x_kill, List.set, List.getElem?_cons_zero, List.getElem?_cons_succ]
                            refine x_iincN d_M_fitting_174 rfl (by decide) (by omega) (by omega) ?_
                            dsimp only [x_st1, x_st2, x_kill, List.set, List.getElem?_cons_zero, List.getElem?_cons_succ]
                            refine x_goto (105) d_M_fitting_177 (by decide) ?_
                            exact k3
                        | false =>
                          rw [mb] at k3
                          refine x_icmp_ne (171) d_M_fitting_164 (by decide) (fun g5 => ?_) (fun g5 => ?_)
                          · refine x_iconst (0) d_M_fitting_171 rfl ⟨by decide, by decide⟩ ?_
                            refine x_istore d_M_fitting_172 (by decide) ?_
                            dsimp only [x_st1, x_st2, x_kill, List.set, List.getElem?_cons_zero, List.getElem?_cons_succ]
                            refine x_iincN d_M_fitting_174 rfl (by decide) (by omega) (by omega) ?_
                            dsimp only [x_st1, x_st2, x_kill, List.set, List.getElem?_cons_zero, List.getElem?_cons_succ]
                            refine x_goto (105) d_M_fitting_177 (by decide) ?_
                            exact k3
                          · exact absurd g5 (by decide)
                    · rw [decide_eq_false d] at k3
                      refine x_icmp_ne (163) d_M_fitting_156 (by decide) (fun g4 => ?_) (fun g4 => ?_)
                      · refine x_iconst (0) d_M_fitting_163 rfl ⟨by decide, by decide⟩ ?_
                        cases mb : mkB h pl f mn pn with
                        | true =>
                          rw [mb] at k3
                          refine x_icmp_ne (171) d_M_fitting_164 (by decide) (fun g5 => ?_) (fun g5 => ?_)
                          · refine x_iconst (0) d_M_fitting_171 rfl ⟨by decide, by decide⟩ ?_
                            refine x_istore d_M_fitting_172 (by decide) ?_
                            dsimp only [x_st1, x_st2, x_kill, List.set, List.getElem?_cons_zero, List.getElem?_cons_succ]
                            refine x_iincN d_M_fitting_174 rfl (by decide) (by omega) (by omega) ?_
                            dsimp only [x_st1, x_st2, x_kill, List.set, List.getElem?_cons_zero, List.getElem?_cons_succ]
                            refine x_goto (105) d_M_fitting_177 (by decide) ?_
                            exact k3
                          · exact absurd g5 (by decide)
                        | false =>
                          rw [mb] at k3
                          refine x_icmp_ne (171) d_M_fitting_164 (by decide) (fun g5 => ?_) (fun g5 => ?_)
                          · exact absurd rfl g5
                          · refine x_iconst (1) d_M_fitting_167 rfl ⟨by decide, by decide⟩ ?_
                            refine x_goto (172) d_M_fitting_168 (by decide) ?_
                            refine x_istore d_M_fitting_172 (by decide) ?_
                            dsimp only [x_st1, x_st2, x_kill, List.set, List.getElem?_cons_zero, List.getElem?_cons_succ]
                            refine x_iincN d_M_fitting_174 rfl (by decide) (by omega) (by omega) ?_
                            dsimp only [x_st1, x_st2, x_kill, List.set, List.getElem?_cons_zero, List.getElem?_cons_succ]
                            refine x_goto (105) d_M_fitting_177 (by decide) ?_
                            exact k3
                      · exact absurd g4 d
          refine x_iload d_M_fitting_45 rfl ?_
          refine x_sipush (168) d_M_fitting_47 rfl ⟨by decide, by decide⟩ ?_
          refine x_icmp_ge (99) d_M_fitting_50 (by decide) (fun g => ?_) (fun g => ?_)
          · refine x_iconst (1) d_M_fitting_99 rfl ⟨by decide, by decide⟩ ?_
            refine x_istore d_M_fitting_100 (by decide) ?_
            dsimp only [x_st1, x_st2, x_kill, List.set, List.getElem?_cons_zero, List.getElem?_cons_succ]
            refine x_iconst (0) d_M_fitting_102 rfl ⟨by decide, by decide⟩ ?_
            refine x_istore d_M_fitting_103 (by decide) ?_
            dsimp only [x_st1, x_st2, x_kill, List.set, List.getElem?_cons_zero, List.getElem?_cons_succ]
            exact rd
          · omega
        · have f3 : fFr G G3 := f2.tr (fun i q1 _ => h1 i q1)
          have r3 := f3.rep r0
          have em : G3 o_M 13 = h.1 9 0 3 := r3.2.2.2.2.2.2.2.2.2.2.2.2.2.1
          have ei : i = 8 * (i / 8) + i % 8 := by omega
          have s1 := (sm.1 (i / 8) (by omega)).1 (i % 8) (by omega)
          rw [← ei] at s1
          have sb := (sk_le hh hc (m := i / 8) (by omega)).1 (i % 8)
          have nx : ∀ z, z = b2i (mkB h pl f (i / 8) (i % 8)) → x_A y_M_fitting 93 [some oM, some (xI pl), some (xI (f_ft h pl f)), some (xI (f : Int)), some (xI (i : Int)), z5] [] (S0, up G3 m_hasMark (168 * f + i) z) 0 0 Q := by
            intro z hz
            refine x_iincN d_M_fitting_93 rfl (by decide) (by omega) (by omega) ?_
            dsimp only [x_st1, x_st2, x_kill, List.set, List.getElem?_cons_zero, List.getElem?_cons_succ]
            refine x_goto (45) d_M_fitting_96 (by decide) ?_
            refine k2 _ (fun q hq => by rw [up_cell hq]; exact h1 q hq) (fun j hj => by rw [up_ne (by omega)]; exact h2 j hj) (fun j hj => ?_)
            by_cases e : j = i
            · subst e; rw [up_same]; exact hz
            · rw [up_ne (by omega)]; exact h3 j (by omega)
          refine x_iload d_M_fitting_45 rfl ?_
          refine x_sipush (168) d_M_fitting_47 rfl ⟨by decide, by decide⟩ ?_
          refine x_icmp_ge (99) d_M_fitting_50 (by decide) (fun g => ?_) (fun g => ?_)
          · omega
          · refine x_aload_n d_M_fitting_53 rfl rfl ?_
            refine x_getF (kf := 79) d_M_fitting_54 rfl rfl rfl in_M f_M_205 ?_
            refine x_sipush (168) d_M_fitting_57 rfl ⟨by decide, by decide⟩ ?_
            refine x_iload_n d_M_fitting_60 rfl rfl ?_
            refine x_imulN d_M_fitting_61 (by omega) (by omega) ?_
            refine x_iload d_M_fitting_62 rfl ?_
            refine x_iaddN d_M_fitting_64 (by omega) (by omega) ?_
            refine x_aload_n d_M_fitting_65 rfl rfl ?_
            refine x_getF (kf := 53) d_M_fitting_66 rfl rfl rfl in_M f_M_129 ?_
            refine x_iload d_M_fitting_69 rfl ?_
            refine x_ialdN (i) d_M_fitting_71 rfl (by omega) (by omega) ?_
            rw [h1 m_above (by decide), s1.1]
            refine x_aload_n d_M_fitting_72 rfl rfl ?_
            refine x_getF (kf := 54) d_M_fitting_73 rfl rfl rfl in_M f_M_132 ?_
            refine x_iload d_M_fitting_76 rfl ?_
            refine x_ialdN (i) d_M_fitting_78 rfl (by omega) (by omega) ?_
            rw [h1 m_mixed (by decide), s1.2]
            refine x_iaddN d_M_fitting_79 (by omega) (by omega) ?_
            refine x_aload_n d_M_fitting_80 rfl rfl ?_
            refine x_getIG (kf := 13) d_M_fitting_81 rfl rfl rfl in_M f_M_16 ?_
            rw [em]
            refine x_icmp_lt (91) d_M_fitting_84 (by decide) (fun g2 => ?_) (fun g2 => ?_)
            · refine x_iconst (0) d_M_fitting_91 rfl ⟨by decide, by decide⟩ ?_
              refine x_bastN ((168 * f + i)) d_M_fitting_92 rfl (by omega) (by omega) (by first | exact Or.inl rfl | exact Or.inr rfl | assumption) ?_
              exact nx 0 (by unfold mkB; rw [decide_eq_false (by omega)]; rfl)
            · refine x_iconst (1) d_M_fitting_87 rfl ⟨by decide, by decide⟩ ?_
              refine x_goto (92) d_M_fitting_88 (by decide) ?_
              refine x_bastN ((168 * f + i)) d_M_fitting_92 rfl (by omega) (by omega) (by first | exact Or.inl rfl | exact Or.inr rfl | assumption) ?_
              exact nx 1 (by unfold mkB; rw [decide_eq_true (by omega)]; rfl)
      refine x_aload_n d_M_fitting_25 rfl rfl ?_
      refine x_iload_n d_M_fitting_26 rfl rfl ?_
      refine x_iload_n d_M_fitting_27 rfl rfl ?_
      refine x_iconst (0) d_M_fitting_28 rfl ⟨by decide, by decide⟩ ?_
      refine x_iload_n d_M_fitting_29 rfl rfl ?_
      refine x_iconst (4) d_M_fitting_30 rfl ⟨by decide, by decide⟩ ?_
      by_cases e4 : f = 4
      · subst e4
        refine x_icmp_ne (38) d_M_fitting_31 (by decide) (fun g => ?_) (fun g => ?_)
        · omega
        · refine x_iconst (-1) d_M_fitting_34 rfl ⟨by decide, by decide⟩ ?_
          refine x_goto (39) d_M_fitting_35 (by decide) ?_
          refine x_VQ d_M_fitting_39 e_M_fitting_M_burns ⟨rfl, rfl, Nat.zero_le _, Nat.zero_le _⟩ rfl rfl rfl rfl (Nat.le_of_ble_eq_true rfl) (cbn) (fun v τ H => ?_)
          obtain ⟨rfl, G2, rfl, m1, m2⟩ := H
          exact aft G2 _ (f1.tr (fun i q1 q2 => m1 i q2)) (fun f' q1 q2 i q3 => by rw [m1 m_hasMark (Or.inr (by decide))]; exact hm f' q1 q2 i q3) m2
      · rw [show f_fi f = (f : Int) from by unfold f_fi; rw [if_neg e4]] at cbn aft
        refine x_icmp_ne (38) d_M_fitting_31 (by decide) (fun g => ?_) (fun g => ?_)
        · refine x_iload_n d_M_fitting_38 rfl rfl ?_
          refine x_VQ d_M_fitting_39 e_M_fitting_M_burns ⟨rfl, rfl, Nat.zero_le _, Nat.zero_le _⟩ rfl rfl rfl rfl (Nat.le_of_ble_eq_true rfl) (cbn) (fun v τ H => ?_)
          obtain ⟨rfl, G2, rfl, m1, m2⟩ := H
          exact aft G2 _ (f1.tr (fun i q1 q2 => m1 i q2)) (fun f' q1 q2 i q3 => by rw [m1 m_hasMark (Or.inr (by decide))]; exact hm f' q1 q2 i q3) m2
        · omega
    refine x_iload_n d_M_fitting_4 rfl rfl ?_
    refine x_iconst (5) d_M_fitting_5 rfl ⟨by decide, by decide⟩ ?_
    refine x_icmp_ge (201) d_M_fitting_6 (by decide) (fun g => ?_) (fun g => ?_)
    · omega
    · refine x_iload_n d_M_fitting_9 rfl rfl ?_
      refine x_iconst (4) d_M_fitting_10 rfl ⟨by decide, by decide⟩ ?_
      refine x_icmp_ge (25) d_M_fitting_11 (by decide) (fun g2 => ?_) (fun g2 => ?_)
      · exact go (by omega)
      · refine x_iload_n d_M_fitting_14 rfl rfl ?_
        refine x_aload_n d_M_fitting_15 rfl rfl ?_
        refine x_getIG (kf := 3) d_M_fitting_16 rfl rfl rfl in_M f_M_253 ?_
        rw [e2]
        refine x_icmp_lt (25) d_M_fitting_19 (by decide) (fun g3 => ?_) (fun g3 => ?_)
        · exact go (by omega)
        · rw [eft, if_neg (fun z => by have := z.1; omega)] at kk
          refine x_goto (195) d_M_fitting_22 (by decide) ?_
          refine x_iincN d_M_fitting_195 rfl (by decide) (by omega) (by omega) ?_
          dsimp only [x_st1, x_st2, x_kill, List.set, List.getElem?_cons_zero, List.getElem?_cons_succ]
          refine x_goto (4) d_M_fitting_198 (by decide) ?_
          exact kk _ _ _ f1 (fun f' q1 q2 i q3 => by
            by_cases e : f' = f
            · subst e; omega
            · exact hm f' (by omega) q2 i q3)
end MFt
