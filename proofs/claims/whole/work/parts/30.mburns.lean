/-! the reference: burns -/
def mSmoke (h : HH) (c : CC) (G : Nat → Nat → Int) : Prop :=
  (∀ m, m ≤ 20 → (∀ q, q < 8 → G m_above (8 * m + q) = (sk h c m).1 q ∧ G m_mixed (8 * m + q) = (sk h c m).2.1 q) ∧ (∀ w, w < h.2 1 → G m_air (12 * m + w) = f_air h (sk h c m).2.2.1 (f_plan c m) m w) ∧ G m_gave m = (sk h c m).2.2.2.1 ∧ G m_gone m = (sk h c m).2.2.2.2.1 ∧ G m_washed m = (sk h c m).2.2.2.2.2) ∧ ∀ f, f < 8 → G m_lostAt f = (sk h c 20).2.2.1 f
/-- nothing but smoke is otherwise -/
def mFrame (G G' : Nat → Nat → Int) : Prop := ∀ i, (i < m_above ∨ m_washed < i) → G' i = G i
theorem mFrame.rep {h : HH} {G G' : Nat → Nat → Int} (f : mFrame G G') (r : mRep h G) : mRep h G' :=
  r.same (fun k _ _ => by rw [f o_M (Or.inl (by decide))]) (fun i _ h2 => f i (Or.inl (by have : m_aIs < m_above := (by decide); omega)))
theorem mFrame.trans {G1 G2 G3 : Nat → Nat → Int} (a : mFrame G1 G2) (b : mFrame G2 G3) : mFrame G1 G3 := fun i hi => (b i hi).trans (a i hi)
theorem mFrame.up {G G' : Nat → Nat → Int} (a : mFrame G G') {i j : Nat} {z : Int} (h1 : m_above ≤ i) (h2 : i ≤ m_washed) : mFrame G (up G' i j z) := fun k hk => (up_cell (by intro q; subst q; omega)).trans (a k hk)
theorem mFrame.radd {G G' : Nat → Nat → Int} (a : mFrame G G') {i : Nat} {d : Nat → Int} (h1 : m_above ≤ i) (h2 : i ≤ m_washed) : mFrame G (radd G' i d) := fun k hk => (radd_cell (by intro q; subst q; omega)).trans (a k hk)
/-- at the head of minute m -/
def bInv (h : HH) (c : CC) (G : Nat → Nat → Int) (m : Nat) (G' : Nat → Nat → Int) : Prop :=
  mFrame G G' ∧ (∀ m', m' ≤ m → (∀ q, q < 8 → G' m_above (8 * m' + q) = (sk h c m').1 q ∧ G' m_mixed (8 * m' + q) = (sk h c m').2.1 q) ∧ G' m_gave m' = (sk h c m').2.2.2.1 ∧ G' m_gone m' = (sk h c m').2.2.2.2.1 ∧ G' m_washed m' = (sk h c m').2.2.2.2.2) ∧
  (∀ j, 8 * (m + 1) ≤ j → j < 168 → G' m_above j = 0 ∧ G' m_mixed j = 0) ∧ (∀ m', m' < m → ∀ w, w < h.2 1 → G' m_air (12 * m' + w) = f_air h (sk h c m').2.2.1 (f_plan c m') m' w)
def bLost0 (h : HH) (c : CC) (m : Nat) (f : Nat) : Int := match m with
  | 0 => -1
  | m + 1 => (sk h c m).2.2.1 f
theorem f_any_congr {P R : Nat → Bool} {n : Nat} (h : ∀ i, i < n → P i = R i) : f_any P n = f_any R n := by
  induction n with
  | zero => rfl
  | succ n ih => show (f_any P n || P n) = (f_any R n || R n); rw [ih (fun i hi => h i (by omega)), h n (by omega)]
theorem sk_lo_s (h : HH) (c : CC) (m f : Nat) : (sk h c (m + 1)).2.2.1 f = if f < h.2 3 ∧ (sk h c m).2.2.1 f = -1 ∧ f_much h (sk h c m).1 f = true then ((m + 1 : Nat) : Int) else (sk h c m).2.2.1 f := rfl
/-- the fans, and the air of a minute -/
theorem b_first {h : HH} {G : Nat → Nat → Int} {c : CC} (hh : Hwf h) (r : mRep h G) {Q : XRes → XM → Prop} (m : Nat) (hm : m ≤ 20)
    (kk : ∀ G', bInv h c G m G' → (∀ w, w < h.2 1 → G' m_air (12 * m + w) = f_air h (sk h c m).2.2.1 (f_plan c m) m w) → (∀ f, f < 8 → G' m_lostAt f = (sk h c m).2.2.1 f) → x_A y_M_burns 147 [some oM, some (xI c.1), some (xI c.2.1), some (xI c.2.2.1), some (xI c.2.2.2), some (xI (m : Int)), none, none] [] (S0, G') 0 0 Q) :
    ∀ G', bInv h c G m G' → (∀ f, f < 8 → G' m_lostAt f = bLost0 h c m f) → x_A y_M_burns 81 [some oM, some (xI c.1), some (xI c.2.1), some (xI c.2.2.1), some (xI c.2.2.2), some (xI (m : Int)), none, none] [] (S0, G') 0 0 Q := by
  intro G' hI hlo
  have b := hh.1
  have second : ∀ G1, bInv h c G m G1 → (∀ f, f < 8 → G1 m_lostAt f = (sk h c m).2.2.1 f) → x_A y_M_burns 130 [some oM, some (xI c.1), some (xI c.2.1), some (xI c.2.2.1), some (xI c.2.2.2), some (xI (m : Int)), none, none] [] (S0, G1) 0 0 Q := by
    intro G1 hI1 hl1
    obtain ⟨i1, i2, i3, i4⟩ := hI1
    have r1 := i1.rep r
    have blow : x_A y_M_burns 142 [some oM, some (xI c.1), some (xI c.2.1), some (xI c.2.2.1), some (xI c.2.2.2), some (xI (m : Int)), none, none] [xI (f_plan c m), oM] (S0, G1) 0 0 Q := by
      refine x_iload d_M_burns_142 rfl ?_
      refine x_V0 d_M_burns_144 e_M_burns_M_blows ⟨rfl, rfl, Nat.zero_le _, Nat.zero_le _⟩ rfl rfl rfl rfl (Nat.le_of_ble_eq_true rfl) (s_blows hh r1 _ m hm) ?_
      have ea : ∀ w, w < h.2 1 → f_air h (G1 m_lostAt) (f_plan c m) m w = f_air h (sk h c m).2.2.1 (f_plan c m) m w := by
        intro w hw
        unfold f_air
        congr 2
        have : ∀ n, n ≤ h.2 3 → f_airS h (G1 m_lostAt) (f_plan c m) m w n = f_airS h (sk h c m).2.2.1 (f_plan c m) m w n := by
          intro n
          induction n with
          | zero => intro _; rfl
          | succ n ih =>
            intro hn
            show f_airS h (G1 m_lostAt) (f_plan c m) m w n + (if h.1 3 n 0 = w ∧ G1 m_lostAt n = -1 then h.1 3 n 1 * f_isBy h (f_plan c m) n m else 0) = f_airS h (sk h c m).2.2.1 (f_plan c m) m w n + (if h.1 3 n 0 = w ∧ (sk h c m).2.2.1 n = -1 then h.1 3 n 1 * f_isBy h (f_plan c m) n m else 0)
            rw [ih (by omega), hl1 n (by omega)]
        exact this _ (Nat.le_refl _)
      have oth : ∀ i, i ≠ m_air → (fun a b => if a = m_air ∧ 12 * m ≤ b ∧ b < 12 * m + h.2 1 then f_air h (G1 m_lostAt) (f_plan c m) m (b - 12 * m) else G1 a b) i = G1 i := by
        intro i hi; funext b; dsimp only; rw [if_neg (fun q => hi q.1)]
      refine kk _ ⟨fun i hi => (oth i (by intro q; subst q; exact absurd hi (by decide))).trans (i1 i hi), ?_, ?_, ?_⟩ ?_ ?_
      · intro m' hm'
        obtain ⟨z1, z2, z3, z4⟩ := i2 m' hm'
        refine ⟨fun q hq => ?_, ?_, ?_, ?_⟩
        · rw [oth m_above (by decide), oth m_mixed (by decide)]; exact z1 q hq
        · rw [oth m_gave (by decide)]; exact z2
        · rw [oth m_gone (by decide)]; exact z3
        · rw [oth m_washed (by decide)]; exact z4
      · intro j h1 h2
        rw [oth m_above (by decide), oth m_mixed (by decide)]; exact i3 j h1 h2
      · intro m' hm' w hw
        dsimp only
        rw [if_neg (by omega)]
        exact i4 m' hm' w hw
      · intro w hw
        try dsimp only
        rw [if_pos ⟨rfl, by omega, by omega⟩, Nat.add_sub_cancel_left]
        exact ea w hw
      · intro f hf
        exact (congrFun (oth m_lostAt (by decide)) f).trans (hl1 f hf)
    refine x_aload_n d_M_burns_130 rfl rfl ?_
    refine x_iload d_M_burns_131 rfl ?_
    refine x_iload_n d_M_burns_133 rfl rfl ?_
    refine x_icmp_ge (141) d_M_burns_134 (by decide) (fun k1 => ?_) (fun k1 => ?_)
    · refine x_iload_n d_M_burns_141 rfl rfl ?_
      rw [show f_plan c m = c.2.1 from by unfold f_plan; rw [if_neg (by omega)]] at blow
      exact blow
    · refine x_iload_n d_M_burns_137 rfl rfl ?_
      refine x_goto (142) d_M_burns_138 (by decide) ?_
      rw [show f_plan c m = c.1 from by unfold f_plan; rw [if_pos (by omega)]] at blow
      exact blow
  have r' := hI.1.rep r
  have e0 := r'.1
  refine x_iload d_M_burns_81 rfl ?_
  refine x_bipush (20) d_M_burns_83 rfl ⟨by decide, by decide⟩ ?_
  refine x_icmp_gt (384) d_M_burns_85 (by decide) (fun c0 => ?_) (fun c0 => ?_)
  · omega
  · refine x_iconst (0) d_M_burns_88 rfl ⟨by decide, by decide⟩ ?_
    refine x_istore d_M_burns_89 (by decide) ?_
    dsimp only [x_st1, x_st2, x_kill, List.set, List.getElem?_cons_zero, List.getElem?_cons_succ]
    cases m with
    | zero =>
      refine x_iload d_M_burns_91 rfl ?_
      refine x_aload_n d_M_burns_93 rfl rfl ?_
      refine x_getIG (kf := 4) d_M_burns_94 rfl rfl rfl in_M f_M_256 ?_
      refine x_icmp_ge (130) d_M_burns_97 (by decide) (fun c1 => ?_) (fun c1 => ?_)
      · exact x_sub (fun j v hj => by
          match j, hj with
          | 0, hj => exact hj
          | 1, hj => exact hj
          | 2, hj => exact hj
          | 3, hj => exact hj
          | 4, hj => exact hj
          | 5, hj => exact hj
          | 6, hj => cases hj
          | 7, hj => cases hj
          | j + 8, hj => cases hj) (second G' hI hlo)
      · refine x_iload d_M_burns_100 rfl ?_
        refine x_if_le (130) d_M_burns_102 (by decide) (fun c2 => ?_) (fun c2 => ?_)
        · exact x_sub (fun j v hj => by
            match j, hj with
            | 0, hj => exact hj
            | 1, hj => exact hj
            | 2, hj => exact hj
            | 3, hj => exact hj
            | 4, hj => exact hj
            | 5, hj => exact hj
            | 6, hj => cases hj
            | 7, hj => cases hj
            | j + 8, hj => cases hj) (second G' hI hlo)
        · exact absurd (Int.le_refl 0) c2
    | succ m' =>
      have loop : ∀ G1, (∀ i, i ≠ m_lostAt → G1 i = G' i) → (∀ f, f < 8 → G1 m_lostAt f = if f < 0 then (sk h c (m' + 1)).2.2.1 f else (sk h c m').2.2.1 f) → x_A y_M_burns 91 [some oM, some (xI c.1), some (xI c.2.1), some (xI c.2.2.1), some (xI c.2.2.2), some (xI ((m' + 1 : Nat) : Int)), some (xI ((0 : Nat) : Int)), none] [] (S0, G1) 0 0 Q := by
        refine x_up_to (P := fun i => ∀ G1, (∀ j, j ≠ m_lostAt → G1 j = G' j) → (∀ f, f < 8 → G1 m_lostAt f = if f < i then (sk h c (m' + 1)).2.2.1 f else (sk h c m').2.2.1 f) → x_A y_M_burns 91 [some oM, some (xI c.1), some (xI c.2.1), some (xI c.2.2.1), some (xI c.2.2.2), some (xI ((m' + 1 : Nat) : Int)), some (xI (i : Int)), none] [] (S0, G1) 0 0 Q) 0 (h.2 3) (Nat.zero_le _) ?_ (fun i _ hi k => ?_)
        · intro G1 g1 g2
          have e1 : G1 o_M 4 = h.2 3 := by rw [g1 o_M (by decide)]; exact e0.2.2.2.1
          refine x_iload d_M_burns_91 rfl ?_
          refine x_aload_n d_M_burns_93 rfl rfl ?_
          refine x_getIG (kf := 4) d_M_burns_94 rfl rfl rfl in_M f_M_256 ?_
          refine x_icmp_ge (130) d_M_burns_97 (by decide) (fun c1 => ?_) (fun c1 => ?_)
          · refine x_sub (lv' := [some oM, some (xI c.1), some (xI c.2.1), some (xI c.2.2.1), some (xI c.2.2.2), some (xI ((m' + 1 : Nat) : Int)), none, none]) (fun j v hj => by
              match j, hj with
              | 0, hj => exact hj
              | 1, hj => exact hj
              | 2, hj => exact hj
              | 3, hj => exact hj
              | 4, hj => exact hj
              | 5, hj => exact hj
              | 6, hj => cases hj
              | 7, hj => cases hj
              | j + 8, hj => cases hj) (second G1 ?_ ?_)
            · obtain ⟨i1, i2, i3, i4⟩ := hI
              refine ⟨fun i hi => (g1 i (by intro q; subst q; exact absurd hi (by decide))).trans (i1 i hi), ?_, ?_, ?_⟩
              · rw [g1 m_above (by decide), g1 m_mixed (by decide), g1 m_gave (by decide), g1 m_gone (by decide), g1 m_washed (by decide)]; exact i2
              · rw [g1 m_above (by decide), g1 m_mixed (by decide)]; exact i3
              · rw [g1 m_air (by decide)]; exact i4
            · intro f hf
              rw [g2 f hf]
              by_cases q : f < h.2 3
              · rw [if_pos q]
              · rw [if_neg q, sk_lo_s, if_neg (fun z => q z.1)]
          · omega
        · intro G1 g1 g2
          have e1 : G1 o_M 4 = h.2 3 := by rw [g1 o_M (by decide)]; exact e0.2.2.2.1
          have r1 : mRep h G1 := r'.same (fun k _ _ => by rw [g1 o_M (by decide)]) (fun j _ h2 => g1 j (by intro q; subst q; exact absurd h2 (by decide)))
          have em : f_much h (fun p => G1 m_above (8 * (m' + 1 - 1) + p)) i = f_much h (sk h c m').1 i := by
            unfold f_much
            refine f_any_congr (fun p hp => ?_)
            unfold f_hit
            rw [g1 m_above (by decide), show m' + 1 - 1 = m' by omega]
            dsimp only
            simp only [((hI.2.1 m' (by omega)).1 p (by omega)).1]
          have g3 := g2 i (by omega)
          rw [if_neg (by omega)] at g3
          have go : ∀ G2, (∀ j, j ≠ m_lostAt → G2 j = G' j) → (∀ f, f < 8 → f ≠ i → G2 m_lostAt f = G1 m_lostAt f) → G2 m_lostAt i = (sk h c (m' + 1)).2.2.1 i → x_A y_M_burns 124 [some oM, some (xI c.1), some (xI c.2.1), some (xI c.2.2.1), some (xI c.2.2.2), some (xI ((m' + 1 : Nat) : Int)), some (xI (i : Int)), none] [] (S0, G2) 0 0 Q := by
            intro G2 q1 q2 q3
            refine x_iincN d_M_burns_124 rfl (by decide) (by omega) (by omega) ?_
            dsimp only [x_st1, x_st2, x_kill, List.set, List.getElem?_cons_zero, List.getElem?_cons_succ]
            refine x_goto (91) d_M_burns_127 (by decide) ?_
            refine k G2 q1 (fun f hf => ?_)
            by_cases e : f = i
            · subst e; rw [if_pos (by omega)]; exact q3
            · rw [q2 f hf e, g2 f hf]
              by_cases e2 : f < i
              · rw [if_pos e2, if_pos (by omega)]
              · rw [if_neg e2, if_neg (by omega)]
          refine x_iload d_M_burns_91 rfl ?_
          refine x_aload_n d_M_burns_93 rfl rfl ?_
          refine x_getIG (kf := 4) d_M_burns_94 rfl rfl rfl in_M f_M_256 ?_
          refine x_icmp_ge (130) d_M_burns_97 (by decide) (fun c1 => ?_) (fun c1 => ?_)
          · omega
          · refine x_iload d_M_burns_100 rfl ?_
            refine x_if_le (130) d_M_burns_102 (by decide) (fun c2 => ?_) (fun c2 => ?_)
            · omega
            · refine x_aload_n d_M_burns_105 rfl rfl ?_
              refine x_getF (kf := 56) d_M_burns_106 rfl rfl rfl in_M f_M_138 ?_
              refine x_iload d_M_burns_109 rfl ?_
              refine x_ialdN (i) d_M_burns_111 rfl (by omega) (by omega) ?_
              rw [g3]
              refine x_iconst (-1) d_M_burns_112 rfl ⟨by decide, by decide⟩ ?_
              refine x_icmp_ne (124) d_M_burns_113 (by decide) (fun c3 => ?_) (fun c3 => ?_)
              · exact go G1 g1 (fun _ _ _ => rfl) (by rw [g3, sk_lo_s, if_neg (fun z => c3 z.2.1)])
              · refine x_aload_n d_M_burns_116 rfl rfl ?_
                refine x_iload d_M_burns_117 rfl ?_
                refine x_iload d_M_burns_119 rfl ?_
                refine x_V0 d_M_burns_121 e_M_burns_M_loses ⟨rfl, rfl, Nat.zero_le _, Nat.zero_le _⟩ rfl rfl rfl rfl (Nat.le_of_ble_eq_true rfl) (s_loses hh r1 i (m' + 1) hi (by omega)) ?_
                rw [em]
                by_cases q : f_much h (sk h c m').1 i = true
                · rw [if_pos q]
                  refine go _ (fun j hj => (up_cell hj).trans (g1 j hj)) (fun f _ hf => up_ne hf) ?_
                  rw [up_same, sk_lo_s, if_pos ⟨hi, c3, q⟩]
                · rw [if_neg q]
                  exact go G1 g1 (fun _ _ _ => rfl) (by rw [g3, sk_lo_s, if_neg (fun z => q z.2.2)])
      exact loop G' (fun _ _ => rfl) (fun f hf => by rw [if_neg (by omega)]; exact hlo f hf)
