/-! the reference: reach -/
def vRea (h : HH) (sh : Nat → Nat → Bool) (p : Nat) (air V : Int) : Prop := ∃ th bk : Nat → Nat → Int, (∀ m' q, m' ≤ 20 → q < h.2 0 → 0 ≤ th m' q ∧ 0 ≤ bk m' q) ∧ isTh h sh th ∧ isBk h sh bk ∧ isFst (fun m => th m p + bk m p ≤ air) V
theorem isFst.cg {f g : Nat → Prop} {V : Int} (x : isFst f V) (e : ∀ m, m ≤ 20 → (f m ↔ g m)) : isFst g V := by
  rcases x with ⟨x1, x2⟩ | ⟨m, x1, x2, x3, x4⟩
  · exact Or.inl ⟨x1, fun m hm z => x2 m hm ((e m hm).mpr z)⟩
  · exact Or.inr ⟨m, x1, x2, (e m x2).mp x3, fun m' hm' z => x4 m' hm' ((e m' (by omega)).mpr z)⟩
theorem isBk.uniq {h : HH} (hh : Hwf h) {sh : Nat → Nat → Bool} {g g' : Nat → Nat → Int} (x : isBk h sh g) (y : isBk h sh g') {n : Nat} : ∀ m, m ≤ 20 → 20 ≤ m + n → ∀ p, p < h.2 0 → g m p = g' m p := by
  induction n with
  | zero =>
    intro m hm h1 p hp
    rw [x m hm p hp, y m hm p hp, lB_cg hh hp (fun m' q h2 h3 h4 => by omega) (Nat.le_refl _)]
  | succ n ih =>
    intro m hm h1 p hp
    rw [x m hm p hp, y m hm p hp, lB_cg hh hp (fun m' q h2 h3 h4 => ih m' h3 (by omega) q h4) (Nat.le_refl _)]
theorem vRea.uniq {h : HH} (hh : Hwf h) {sh : Nat → Nat → Bool} {p : Nat} (hp : p < h.2 0) {air V W : Int} (x : vRea h sh p air V) (y : vRea h sh p air W) : V = W := by
  obtain ⟨t, b, _, t1, b1, f1⟩ := x
  obtain ⟨t', b', _, t2, b2, f2⟩ := y
  refine (f1.cg (fun m hm => ?_)).uniq f2
  rw [t1.uniq hh t2 hm p hp, b1.uniq hh b2 (n := 20) m hm (by omega) p hp]
theorem cm_cg {sh sh' : Nat → Nat → Bool} {p m : Nat} (e : sh m p = sh' m p) : cm sh p m = cm sh' p m := by unfold cm; rw [e]
theorem isTh.cg {h : HH} {sh sh' : Nat → Nat → Bool} {g : Nat → Nat → Int} (x : isTh h sh g) (e : ∀ m p, m ≤ 20 → p < h.2 0 → sh m p = sh' m p) : isTh h sh' g := fun m hm p hp => by rw [x m hm p hp, cm_cg (e m p hm hp)]
theorem lB_sh {h : HH} (hh : Hwf h) {sh sh' : Nat → Nat → Bool} {g : Nat → Nat → Int} (e : ∀ m p, m ≤ 20 → p < h.2 0 → sh m p = sh' m p) {m p : Nat} (hp : p < h.2 0) {n : Nat} (hn : n ≤ h.2 1) : lB h sh g m p n = lB h sh' g m p n := by
  induction n with
  | zero =>
    unfold lB
    split
    · rw [cm_cg (e (m + 1) p (by omega) hp)]
    · rfl
  | succ w ih =>
    have b := hh.2.2.1 w (by omega)
    have bo := f_oth_bd hh (p : Int) (w := w) (by omega)
    unfold lB
    rw [ih (by omega)]
    split
    · next c => rw [cm_cg (e _ _ (by omega) (by omega))]
    · rfl
theorem isBk.cg {h : HH} (hh : Hwf h) {sh sh' : Nat → Nat → Bool} {g : Nat → Nat → Int} (x : isBk h sh g) (e : ∀ m p, m ≤ 20 → p < h.2 0 → sh m p = sh' m p) : isBk h sh' g := fun m hm p hp => by rw [x m hm p hp, lB_sh hh e hp (Nat.le_refl _)]
theorem lB_min {h : HH} (sh : Nat → Nat → Bool) (g : Nat → Nat → Int) (m p n : Nat) : min (lB h sh (fun a b => min (g a b) 1000000) m p n) 1000000 = min (lB h sh g m p n) 1000000 ∨ ∃ w, w < n ∧ ¬ (1 ≤ h.1 1 w 2) := by
  induction n with
  | zero =>
    left
    have := cm_bd sh p (m + 1)
    unfold lB
    split
    · show min (min (g (m + 1) p) 1000000 + 1 + cm sh p (m + 1)) 1000000 = _; omega
    · rfl
  | succ w ih =>
    by_cases hw : 1 ≤ h.1 1 w 2
    · rcases ih with ih | ⟨w', h1, h2⟩
      · left
        have := cm_bd sh (f_oth h p w).toNat ((m : Int) + h.1 1 w 2).toNat
        unfold lB
        split
        · show min (min (lB h sh (fun a b => min (g a b) 1000000) m p w) (min (g _ _) 1000000 + h.1 1 w 2 + _)) 1000000 = _
          omega
        · exact ih
      · exact Or.inr ⟨w', by omega, h2⟩
    · exact Or.inr ⟨w, by omega, hw⟩
theorem isBkR.bk {h : HH} (hh : Hwf h) {sh : Nat → Nat → Bool} {g : Nat → Nat → Int} (x : isBkR h sh g) : isBk h sh (fun a b => min (g a b) 1000000) := fun m hm p hp => by
  have y := x m hm p hp
  show min (g m p) 1000000 = _
  rcases lB_min (h := h) sh g m p (h.2 1) with z | ⟨w, h1, h2⟩
  · rw [z, y]
    split
    · decide
    · rfl
  · have := hh.2.2.1 w h1; omega
def c_rea (h : HH) (a b k f w air : Int) : Int := if f_wi f (-1) (h.2 2 - 1) = 0 ∨ f_wi w 0 (h.2 0 - 1) = 0 then 1 else if f_co a b k = 0 ∨ f_wi air 0 200 = 0 then 2 else 0
noncomputable def v_rea (h : HH) (a b k f w air : Int) : Int := if c_rea h a b k f w air = 0 then Classical.epsilon (fun V => vRea h (f_sh h (a, b, k, f)) w.toNat air V) else 0
theorem v_rea_is {h : HH} (hh : Hwf h) {a b k f w air V : Int} (hc : c_rea h a b k f w air = 0) (hw : 0 ≤ w ∧ w < h.2 0) (x : vRea h (f_sh h (a, b, k, f)) w.toNat air V) : v_rea h a b k f w air = V := by
  unfold v_rea
  rw [if_pos hc]
  exact vRea.uniq hh (by omega) (Classical.epsilon_spec (p := fun V => vRea h (f_sh h (a, b, k, f)) w.toNat air V) ⟨V, x⟩) x
theorem wF.p {G G' : Nat → Nat → Int} (f : wF G G') : pFrame G G' := ⟨fun z _ h2 => f z (by intro q; subst q; revert h2; decide) (by intro q; subst q; revert h2; decide), fun k _ => by rw [f o_M (by decide) (by decide)]⟩
theorem s_reach {h : HH} {G : Nat → Nat → Int} (hh : Hwf h) (r0 : mRep h G) (a b k f w air : Int) : x_M y_M_reach [oM, xI a, xI b, xI k, xI f, xI w, xI air] (S0, G) (fun r τ => ∃ v, r = .inl v ∧ mAns G (c_rea h a b k f w air) (v_rea h a b k f w air) v τ) := by
  have bb := hh.1
  have r := r0.th 0
  have hVi := fun (hc : c_rea h a b k f w air = 0) (hw : 0 ≤ w ∧ w < h.2 0) V (x : vRea h (f_sh h (a, b, k, f)) w.toNat air V) => v_rea_is hh hc hw x
  refine x_of 1 rfl (Nat.le_of_ble_eq_true rfl) ?_
  show x_A y_M_reach 0 [some oM, some (xI a), some (xI b), some (xI k), some (xI f), some (xI w), some (xI air), none] [] (S0, G) 0 0 _
  generalize hV : v_rea h a b k f w air = V at *
  generalize hC : c_rea h a b k f w air = C at *
  generalize hQ : (fun (r : XRes) (τ : XM) => ∃ v, r = .inl v ∧ mAns G C V v τ) = Q
  have hV0 : C ≠ 0 → V = 0 := fun z => by rw [← hV]; unfold v_rea; rw [hC, if_neg z]
  have one : (f_wi f (-1) (h.2 2 - 1) = 0 ∨ f_wi w 0 (h.2 0 - 1) = 0) → x_A y_M_reach 23 [some oM, some (xI a), some (xI b), some (xI k), some (xI f), some (xI w), some (xI air), none] [] (S0, up G o_M 0 0) 0 0 Q := by
    intro z
    have eC : C = 1 := by rw [← hC]; unfold c_rea; rw [if_pos z]
    refine x_aload_n d_M_reach_23 rfl rfl ?_
    refine x_iconst (1) d_M_reach_24 rfl ⟨by decide, by decide⟩ ?_
    refine x_V1 d_M_reach_25 e_M_reach_M_fails ⟨rfl, rfl, Nat.zero_le _, Nat.zero_le _⟩ rfl rfl rfl rfl (Nat.le_of_ble_eq_true rfl) (s_fails (up G o_M 0 0) 1) ?_
    refine x_ireturn d_M_reach_28 rfl ?_ (Nat.zero_le _) (Nat.zero_le _)
    rw [← hQ, hV0 (by omega)]
    exact ⟨_, rfl, mAns.no 0 eC⟩
  refine x_aload_n d_M_reach_0 rfl rfl ?_
  refine x_iconst (0) d_M_reach_1 rfl ⟨by decide, by decide⟩ ?_
  refine x_putIG (kf := 0) tyX12 d_M_reach_2 rfl rfl rfl in_M f_M_217 tyX12_ok nmX12 (by decide +kernel) rfl ?_
  refine x_aload_n d_M_reach_5 rfl rfl ?_
  refine x_iload d_M_reach_6 rfl ?_
  refine x_V1 d_M_reach_8 e_M_reach_M_isFire ⟨rfl, rfl, Nat.zero_le _, Nat.zero_le _⟩ rfl rfl rfl rfl (Nat.le_of_ble_eq_true rfl) (s_isFire hh r _) ?_
  refine x_if_eq (23) d_M_reach_11 (by decide) (fun c1 => ?_) (fun c1 => ?_)
  · exact one (Or.inl c1)
  · refine x_aload_n d_M_reach_14 rfl rfl ?_
    refine x_iload d_M_reach_15 rfl ?_
    refine x_V1 d_M_reach_17 e_M_reach_M_isPiece ⟨rfl, rfl, Nat.zero_le _, Nat.zero_le _⟩ rfl rfl rfl rfl (Nat.le_of_ble_eq_true rfl) (s_isPiece hh r _) ?_
    refine x_if_ne (29) d_M_reach_20 (by decide) (fun c2 => ?_) (fun c2 => ?_)
    · have n1 : ¬ (f_wi f (-1) (h.2 2 - 1) = 0 ∨ f_wi w 0 (h.2 0 - 1) = 0) := fun z => by rcases z with z | z <;> omega
      have two : (f_co a b k = 0 ∨ f_wi air 0 200 = 0) → x_A y_M_reach 51 [some oM, some (xI a), some (xI b), some (xI k), some (xI f), some (xI w), some (xI air), none] [] (S0, up G o_M 0 0) 0 0 Q := by
        intro z
        have eC : C = 2 := by rw [← hC]; unfold c_rea; rw [if_neg n1, if_pos z]
        refine x_aload_n d_M_reach_51 rfl rfl ?_
        refine x_iconst (2) d_M_reach_52 rfl ⟨by decide, by decide⟩ ?_
        refine x_V1 d_M_reach_53 e_M_reach_M_fails ⟨rfl, rfl, Nat.zero_le _, Nat.zero_le _⟩ rfl rfl rfl rfl (Nat.le_of_ble_eq_true rfl) (s_fails (up G o_M 0 0) 2) ?_
        refine x_ireturn d_M_reach_56 rfl ?_ (Nat.zero_le _) (Nat.zero_le _)
        rw [← hQ, hV0 (by omega)]
        exact ⟨_, rfl, mAns.no 0 eC⟩
      refine x_iload_n d_M_reach_29 rfl rfl ?_
      refine x_iload_n d_M_reach_30 rfl rfl ?_
      refine x_iload_n d_M_reach_31 rfl rfl ?_
      refine x_S1 d_M_reach_32 e_M_reach_M_isCourse ⟨rfl, rfl, Nat.zero_le _, Nat.zero_le _⟩ rfl rfl (Nat.le_of_ble_eq_true rfl) (s_isCourse _ _ _ _) ?_
      refine x_if_eq (51) d_M_reach_35 (by decide) (fun c3 => ?_) (fun c3 => ?_)
      · exact two (Or.inl c3)
      · refine x_iload d_M_reach_38 rfl ?_
        refine x_i2l d_M_reach_40 ?_
        refine x_lconst (0) d_M_reach_41 rfl ⟨by decide, by decide⟩ ?_
        refine x_ldc2 (200) d_M_reach_42 k_M_281 ⟨by decide, by decide⟩ ?_
        refine x_S1 d_M_reach_45 e_M_reach_M_within ⟨rfl, rfl, Nat.zero_le _, Nat.zero_le _⟩ rfl rfl (Nat.le_of_ble_eq_true rfl) (s_within _ _ _ _) ?_
        refine x_if_ne (57) d_M_reach_48 (by decide) (fun c4 => ?_) (fun c4 => ?_)
        · have c4 : f_wi air 0 200 ≠ 0 := c4
          have q1 := f_wi_1 c1
          have q2 := f_wi_1 c2
          have q4 := f_wi_1 c4
          obtain ⟨x, rfl⟩ : ∃ x : Nat, w = x := ⟨w.toNat, by omega⟩
          have eC : C = 0 := by rw [← hC]; unfold c_rea; rw [if_neg n1, if_neg (fun z => by rcases z with z | z <;> omega)]
          have hc : -1 ≤ ((a, b, k, f) : CC).2.2.2 ∧ ((a, b, k, f) : CC).2.2.2 < h.2 2 := by show -1 ≤ f ∧ f < _; omega
          refine x_aload_n d_M_reach_57 rfl rfl ?_
          refine x_iload_n d_M_reach_58 rfl rfl ?_
          refine x_iload_n d_M_reach_59 rfl rfl ?_
          refine x_iload_n d_M_reach_60 rfl rfl ?_
          refine x_iload d_M_reach_61 rfl ?_
          refine x_VQ d_M_reach_63 e_M_reach_M_burns ⟨rfl, rfl, Nat.zero_le _, Nat.zero_le _⟩ rfl rfl rfl rfl (Nat.le_of_ble_eq_true rfl) (s_burns hh r (a, b, k, f) hc) (fun v τ hv => ?_)
          obtain ⟨rfl, G1, rfl, f1, sm⟩ := hv
          show x_A y_M_reach 66 [some oM, some (xI a), some (xI b), some (xI k), some (xI f), some (xI (x : Int)), some (xI air), none] [] (S0, G1) 0 0 Q
          have r1 := f1.rep r
          refine x_aload_n d_M_reach_66 rfl rfl ?_
          refine x_VQ d_M_reach_67 e_M_reach_M_walksOn ⟨rfl, rfl, Nat.zero_le _, Nat.zero_le _⟩ rfl rfl rfl rfl (Nat.le_of_ble_eq_true rfl) (s_walksOn hh r1) (fun v τ hv => ?_)
          obtain ⟨rfl, G2, rfl, f2, t1, t2, b1, b2⟩ := hv
          show x_A y_M_reach 70 [some oM, some (xI a), some (xI b), some (xI k), some (xI f), some (xI (x : Int)), some (xI air), none] [] (S0, G2) 0 0 Q
          have esh : ∀ m p, m ≤ 20 → p < h.2 0 → shM h G1 m p = f_sh h (a, b, k, f) m p := fun m p hm hp => by
            unfold shM f_sh
            rw [((sm.1 m hm).1 p (by omega)).2]
          have fin : ∀ W, isFst (fun m => g8 G2 m_there m x + g8 G2 m_back m x ≤ air) W → Q (.inl (some (xI W))) (S0, G2) := fun W hW => by
            have e := hVi eC (by omega) W ⟨g8 G2 m_there, fun a b => min (g8 G2 m_back a b) 1000000, fun m' q h1 h2 => ⟨(t1 m' q h1 (by omega)).1, by have := (b1 m' q h1 (by omega)).1; show 0 ≤ min (g8 G2 m_back m' q) 1000000; omega⟩, t2.cg esh, (b2.bk hh).cg hh esh, hW.cg (fun m hm => by
              have y1 := t1 m x hm (by omega)
              have y2 := b1 m x hm (by omega)
              show _ ↔ g8 G2 m_there m x + min (g8 G2 m_back m x) 1000000 ≤ air
              omega)⟩
            rw [← hQ, eC, e]
            exact ⟨_, rfl, G2, rfl, f1.p.tr f2.p, rfl⟩
          refine x_iconst (0) d_M_reach_70 rfl ⟨by decide, by decide⟩ ?_
          refine x_istore d_M_reach_71 (by decide) ?_
          dsimp only [x_st1, x_st2, x_kill, List.set, List.getElem?_cons_zero, List.getElem?_cons_succ]
          refine x_up_to (P := fun m => (∀ m', m' < m → ¬ (g8 G2 m_there m' x + g8 G2 m_back m' x ≤ air)) → x_A y_M_reach 73 [some oM, some (xI a), some (xI b), some (xI k), some (xI f), some (xI (x : Int)), some (xI air), some (xI (m : Int))] [] (S0, G2) 0 0 Q) 0 21 (Nat.zero_le _) (fun hn => ?_) (fun m _ hm kk hn => ?_) (fun m' hm' => by omega)
          · refine x_iload d_M_reach_73 rfl ?_
            refine x_bipush (20) d_M_reach_75 rfl ⟨by decide, by decide⟩ ?_
            refine x_icmp_gt (121) d_M_reach_77 (by decide) (fun g => ?_) (fun g => ?_)
            · refine x_iconst (-1) d_M_reach_121 rfl ⟨by decide, by decide⟩ ?_
              refine x_ireturn d_M_reach_122 rfl ?_ (Nat.zero_le _) (Nat.zero_le _)
              exact fin _ (Or.inl ⟨rfl, fun m' h1 => hn m' (by omega)⟩)
            · omega
          · have x1 := t1 m x (by omega) (by omega)
            have x2 := b1 m x (by omega) (by omega)
            have fin' := fin (m : Int)
            have k' : ¬ (g8 G2 m_there m x + g8 G2 m_back m x ≤ air) → _ := fun z => kk (fun m' hm' => by
              by_cases e : m' = m
              · subst e; exact z
              · exact hn m' (by omega))
            have fin2 : g8 G2 m_there m x + g8 G2 m_back m x ≤ air → _ := fun z => fin' (Or.inr ⟨m, rfl, by omega, z, fun m' hm' => hn m' hm'⟩)
            unfold g8 at x1 x2 k' fin2
            refine x_iload d_M_reach_73 rfl ?_
            refine x_bipush (20) d_M_reach_75 rfl ⟨by decide, by decide⟩ ?_
            refine x_icmp_gt (121) d_M_reach_77 (by decide) (fun g => ?_) (fun g => ?_)
            · omega
            · refine x_aload_n d_M_reach_80 rfl rfl ?_
              refine x_getF (kf := 73) d_M_reach_81 rfl rfl rfl in_M f_M_186 ?_
              refine x_bipush (8) d_M_reach_84 rfl ⟨by decide, by decide⟩ ?_
              refine x_iload d_M_reach_86 rfl ?_
              refine x_imulN d_M_reach_88 (by omega) (by omega) ?_
              refine x_iload d_M_reach_89 rfl ?_
              refine x_iaddN d_M_reach_91 (by omega) (by omega) ?_
              refine x_ialdN ((8 * m + x)) d_M_reach_92 rfl (by omega) (by omega) ?_
              refine x_aload_n d_M_reach_93 rfl rfl ?_
              refine x_getF (kf := 74) d_M_reach_94 rfl rfl rfl in_M f_M_189 ?_
              refine x_bipush (8) d_M_reach_97 rfl ⟨by decide, by decide⟩ ?_
              refine x_iload d_M_reach_99 rfl ?_
              refine x_imulN d_M_reach_101 (by omega) (by omega) ?_
              refine x_iload d_M_reach_102 rfl ?_
              refine x_iaddN d_M_reach_104 (by omega) (by omega) ?_
              refine x_ialdN ((8 * m + x)) d_M_reach_105 rfl (by omega) (by omega) ?_
              refine x_iaddN d_M_reach_106 (by omega) (by omega) ?_
              refine x_iload d_M_reach_107 rfl ?_
              refine x_icmp_gt (115) d_M_reach_109 (by decide) (fun g2 => ?_) (fun g2 => ?_)
              · refine x_iincN d_M_reach_115 rfl (by decide) (by omega) (by omega) ?_
                dsimp only [x_st1, x_st2, x_kill, List.set, List.getElem?_cons_zero, List.getElem?_cons_succ]
                refine x_goto (73) d_M_reach_118 (by decide) ?_
                exact k' (by omega)
              · refine x_iload d_M_reach_112 rfl ?_
                refine x_ireturn d_M_reach_114 rfl ?_ (Nat.zero_le _) (Nat.zero_le _)
                exact fin2 (by omega)
        · exact two (Or.inr c4)
    · exact one (Or.inr (by omega))
