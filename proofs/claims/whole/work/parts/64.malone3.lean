/-! the reference: alone, refuses, dose, outAt -/
def a_al (h : HH) (c : CC) : Nat → Nat → T3
  | 0 => fun _ => (0, 0, 0)
  | n + 1 => fun i => if i / 8 = 20 - n then a_go h (a_al h c n) (f_sh h c (20 - n) (i % 8)) ((sk h c (20 - n)).2.1 (i % 8)) (i % 8) (20 - n) else a_al h c n i
theorem a_go_bd (h : HH) {D : Nat → T3} (hD : ∀ i, 0 ≤ (D i).1) (sh : Bool) {mix : Int} (hx : 0 ≤ mix) (p m : Nat) : 0 ≤ (a_go h D sh mix p m).1 ∧ (a_go h D sh mix p m).1 ≤ 1000000000000 := by
  have z0 : 0 ≤ ((1000000000000, 21, -1) : T3).1 ∧ ((1000000000000, 21, -1) : T3).1 ≤ 1000000000000 := ⟨by decide, by decide⟩
  unfold a_go
  split
  · exact z0
  · generalize h.2 1 = n
    induction n with
    | zero =>
      show 0 ≤ (a_st h D mix p m).1 ∧ (a_st h D mix p m).1 ≤ _
      unfold a_st
      have := hD (8 * m + p + 8)
      refine a_try_bd ?_ (by omega)
      split
      · exact a_try_bd z0 hx
      · exact z0
    | succ n ih =>
      show 0 ≤ (if _ then _ else _ : T3).1 ∧ (if _ then _ else _ : T3).1 ≤ _
      have := hD (a_ix h p m n)
      split
      · exact a_try_bd ih (by omega)
      · exact ih
theorem a_al_bd {h : HH} (hh : Hwf h) {c : CC} (hc : -1 ≤ c.2.2.2 ∧ c.2.2.2 < h.2 2) (n i : Nat) : 0 ≤ (a_al h c n i).1 ∧ (a_al h c n i).1 ≤ 1000000000000 := by
  induction n generalizing i with
  | zero => exact ⟨by show 0 ≤ (0 : Int); omega, by show (0 : Int) ≤ _; omega⟩
  | succ n ih =>
    show 0 ≤ (if _ then _ else _ : T3).1 ∧ (if _ then _ else _ : T3).1 ≤ _
    split
    · exact a_go_bd h (fun j => (ih j).1) _ ((sk_le hh hc (m := 20 - n) (by omega)).1 (i % 8)).2.2.1 _ _
    · exact ih i
def mAlone (h : HH) (c : CC) (G : Nat → Nat → Int) : Option XV → XM → Prop := fun v τ => v = none ∧ ∃ G', τ = (S0, G') ∧ pFrame G G' ∧ ∀ t q, t ≤ 20 → q < h.2 0 → g3 G' (8 * t + q) = a_al h c 21 (8 * t + q)
theorem s_alone {h : HH} {G : Nat → Nat → Int} (hh : Hwf h) (r : mRep h G) (c : CC) (hc : -1 ≤ c.2.2.2 ∧ c.2.2.2 < h.2 2) : x_M y_M_alone [oM, xI c.1, xI c.2.1, xI c.2.2.1, xI c.2.2.2] (S0, G) (fun r τ => ∃ v, r = .inl v ∧ mAlone h c G v τ) := by
  have bb := hh.1
  refine x_of 2 rfl (Nat.le_of_ble_eq_true rfl) ?_
  show x_A y_M_alone 0 [some oM, some (xI c.1), some (xI c.2.1), some (xI c.2.2.1), some (xI c.2.2.2), none, none] [] (S0, G) 0 0 _
  generalize hQ : (fun (r : XRes) (τ : XM) => ∃ v, r = .inl v ∧ mAlone h c G v τ) = Q
  refine x_aload_n d_M_alone_0 rfl rfl ?_
  refine x_iload_n d_M_alone_1 rfl rfl ?_
  refine x_iload_n d_M_alone_2 rfl rfl ?_
  refine x_iload_n d_M_alone_3 rfl rfl ?_
  refine x_iload d_M_alone_4 rfl ?_
  refine x_VQ d_M_alone_6 e_M_alone_M_burns ⟨rfl, rfl, Nat.zero_le _, Nat.zero_le _⟩ rfl rfl rfl rfl (Nat.le_of_ble_eq_true rfl) (s_burns hh r c hc) (fun v τ hv => ?_)
  obtain ⟨rfl, G1, rfl, f1, sm⟩ := hv
  show x_A y_M_alone 9 [some oM, some (xI c.1), some (xI c.2.1), some (xI c.2.2.1), some (xI c.2.2.2), none, none] [] (S0, G1) 0 0 Q
  have r1 := f1.rep r
  refine x_bipush (20) d_M_alone_9 rfl ⟨by decide, by decide⟩ ?_
  refine x_istore d_M_alone_11 (by decide) ?_
  dsimp only [x_st1, x_st2, x_kill, List.set, List.getElem?_cons_zero, List.getElem?_cons_succ]
  have all : ∀ G', (∀ z, z ≠ m_dose → z ≠ m_outMinute → z ≠ m_deed → G' z = G1 z) → (∀ t q, 20 < t + 0 → t ≤ 20 → q < h.2 0 → g3 G' (8 * t + q) = a_al h c 0 (8 * t + q)) → x_A y_M_alone 13 [some oM, some (xI c.1), some (xI c.2.1), some (xI c.2.2.1), some (xI c.2.2.2), some (xI (20 - ((0 : Nat) : Int))), none] [] (S0, G') 0 0 Q := by
    refine x_up_to (P := fun n => ∀ G', (∀ z, z ≠ m_dose → z ≠ m_outMinute → z ≠ m_deed → G' z = G1 z) → (∀ t q, 20 < t + n → t ≤ 20 → q < h.2 0 → g3 G' (8 * t + q) = a_al h c n (8 * t + q)) → x_A y_M_alone 13 [some oM, some (xI c.1), some (xI c.2.1), some (xI c.2.2.1), some (xI c.2.2.2), some (xI (20 - (n : Int))), none] [] (S0, G') 0 0 Q) 0 21 (Nat.zero_le _) ?_ (fun n _ hn k => ?_)
    · intro G2 g1 g2
      refine x_iload d_M_alone_13 rfl ?_
      refine x_if_lt (50) d_M_alone_15 (by decide) (fun c1 => ?_) (fun c1 => ?_)
      · refine x_return d_M_alone_50 rfl ?_ (Nat.zero_le _) (Nat.zero_le _)
        rw [← hQ]
        exact ⟨_, rfl, rfl, G2, rfl, f1.p.tr ⟨fun z _ h2 => g1 z (by intro q; subst q; revert h2; decide) (by intro q; subst q; revert h2; decide) (by intro q; subst q; revert h2; decide), fun k _ => by rw [g1 o_M (by decide) (by decide) (by decide)]⟩, fun t q h1 h2 => g2 t q (by omega) h1 h2⟩
      · omega
    · intro G2 g1 g2
      obtain ⟨m, em⟩ : ∃ m : Nat, n + m = 20 := ⟨20 - n, by omega⟩
      have e20 : (20 - (n : Int)) = (m : Int) := by omega
      rw [e20]
      refine x_iload d_M_alone_13 rfl ?_
      refine x_if_lt (50) d_M_alone_15 (by decide) (fun c1 => ?_) (fun c1 => ?_)
      · omega
      · refine x_iconst (0) d_M_alone_18 rfl ⟨by decide, by decide⟩ ?_
        refine x_istore d_M_alone_19 (by decide) ?_
        dsimp only [x_st1, x_st2, x_kill, List.set, List.getElem?_cons_zero, List.getElem?_cons_succ]
        have st : ∀ t q, q < 8 → a_al h c (n + 1) (8 * t + q) = if t = m then a_go h (a_al h c n) (f_sh h c m q) ((sk h c m).2.1 q) q m else a_al h c n (8 * t + q) := by
          intro t q hq
          show (if (8 * t + q) / 8 = 20 - n then _ else _) = _
          rw [show (8 * t + q) / 8 = t by omega, show (8 * t + q) % 8 = q by omega, show 20 - n = m by omega]
        have inner : ∀ G', (∀ z, z ≠ m_dose → z ≠ m_outMinute → z ≠ m_deed → G' z = G1 z) → (∀ t q, m < t → t ≤ 20 → q < h.2 0 → g3 G' (8 * t + q) = a_al h c n (8 * t + q)) → (∀ q, q < 0 → g3 G' (8 * m + q) = a_go h (a_al h c n) (f_sh h c m q) ((sk h c m).2.1 q) q m) → x_A y_M_alone 21 [some oM, some (xI c.1), some (xI c.2.1), some (xI c.2.2.1), some (xI c.2.2.2), some (xI (m : Int)), some (xI ((0 : Nat) : Int))] [] (S0, G') 0 0 Q := by
          refine x_up_to (P := fun p => ∀ G', (∀ z, z ≠ m_dose → z ≠ m_outMinute → z ≠ m_deed → G' z = G1 z) → (∀ t q, m < t → t ≤ 20 → q < h.2 0 → g3 G' (8 * t + q) = a_al h c n (8 * t + q)) → (∀ q, q < p → g3 G' (8 * m + q) = a_go h (a_al h c n) (f_sh h c m q) ((sk h c m).2.1 q) q m) → x_A y_M_alone 21 [some oM, some (xI c.1), some (xI c.2.1), some (xI c.2.2.1), some (xI c.2.2.2), some (xI (m : Int)), some (xI (p : Int))] [] (S0, G') 0 0 Q) 0 (h.2 0) (Nat.zero_le _) ?_ (fun p _ hp k2 => ?_)
          · intro G3 j1 j2 j3
            have e3 : G3 o_M 1 = h.2 0 := by rw [j1 o_M (by decide) (by decide) (by decide)]; exact r1.1.1
            have k := k G3 j1 (fun t q h1 h2 h3 => by
              rw [st t q (by omega)]
              split
              · rename_i z; subst z; exact j3 q h3
              · exact j2 t q (by omega) h2 h3)
            rw [show (20 : Int) - ((n + 1 : Nat) : Int) = (m : Int) + -1 by omega] at k
            refine x_iload d_M_alone_21 rfl ?_
            refine x_aload_n d_M_alone_23 rfl rfl ?_
            refine x_getIG (kf := 1) d_M_alone_24 rfl rfl rfl in_M f_M_228 ?_
            refine x_icmp_ge (44) d_M_alone_27 (by decide) (fun c2 => ?_) (fun c2 => ?_)
            · refine x_iincN d_M_alone_44 rfl (by decide) (by omega) (by omega) ?_
              dsimp only [x_st1, x_st2, x_kill, List.set, List.getElem?_cons_zero, List.getElem?_cons_succ]
              refine x_goto (13) d_M_alone_47 (by decide) ?_
              exact x_sub (fun j v hj => by
                match j, hj with
                | 0, hj => exact hj
                | 1, hj => exact hj
                | 2, hj => exact hj
                | 3, hj => exact hj
                | 4, hj => exact hj
                | 5, hj => exact hj
                | 6, hj => cases hj
                | j + 7, hj => cases hj) k
            · omega
          · intro G3 j1 j2 j3
            have r3 : mRep h G3 := r1.same (fun k _ _ => by rw [j1 o_M (by decide) (by decide) (by decide)]) (fun i h1 h2 => j1 i (by have : m_aIs < m_dose := (by decide); omega) (by have : m_aIs < m_outMinute := (by decide); omega) (by have : m_aIs < m_deed := (by decide); omega))
            have e3 := r3.1.1
            have xm : G3 m_mixed (8 * m + p) = (sk h c m).2.1 p := by rw [j1 m_mixed (by decide) (by decide) (by decide)]; exact ((sm.1 m (by omega)).1 p (by omega)).2
            have sb := (sk_le hh hc (m := m) (by omega)).1 p
            have ga := s_goesAlone hh r3 (a_al h c n) p m hp (by omega) (fun t q h1 h2 h3 => ⟨j2 t q h1 h2 h3, a_al_bd hh hc n _⟩) (by rw [xm]; omega)
            rw [xm] at ga
            refine x_iload d_M_alone_21 rfl ?_
            refine x_aload_n d_M_alone_23 rfl rfl ?_
            refine x_getIG (kf := 1) d_M_alone_24 rfl rfl rfl in_M f_M_228 ?_
            refine x_icmp_ge (44) d_M_alone_27 (by decide) (fun c2 => ?_) (fun c2 => ?_)
            · omega
            · refine x_aload_n d_M_alone_30 rfl rfl ?_
              refine x_iload d_M_alone_31 rfl ?_
              refine x_iload d_M_alone_33 rfl ?_
              refine x_VQ d_M_alone_35 e_M_alone_M_goesAlone ⟨rfl, rfl, Nat.zero_le _, Nat.zero_le _⟩ rfl rfl rfl rfl (Nat.le_of_ble_eq_true rfl) (ga) (fun v τ hv => ?_)
              obtain ⟨rfl, G4, rfl, f4, e4⟩ := hv
              show x_A y_M_alone 38 [some oM, some (xI c.1), some (xI c.2.1), some (xI c.2.2.1), some (xI c.2.2.2), some (xI (m : Int)), some (xI (p : Int))] [] (S0, G4) 0 0 Q
              refine x_iincN d_M_alone_38 rfl (by decide) (by omega) (by omega) ?_
              dsimp only [x_st1, x_st2, x_kill, List.set, List.getElem?_cons_zero, List.getElem?_cons_succ]
              refine x_goto (21) d_M_alone_41 (by decide) ?_
              refine k2 G4 (fun z h1 h2 h3 => (f4.1 z h1 h2 h3).trans (j1 z h1 h2 h3)) (fun t q h1 h2 h3 => (f4.2 _ (by omega)).trans (j2 t q h1 h2 h3)) (fun q hq => ?_)
              rcases Nat.lt_succ_iff_lt_or_eq.1 hq with z | z
              · exact (f4.2 _ (by omega)).trans (j3 q z)
              · subst z; exact e4
        exact inner G2 g1 (fun t q h1 h2 h3 => g2 t q (by omega) h2 h3) (fun q hq => absurd hq (Nat.not_lt_zero q))
  exact all G1 (fun z _ _ _ => rfl) (fun t q h1 h2 => by omega)
theorem s_refuses {h : HH} {G : Nat → Nat → Int} (hh : Hwf h) (r : mRep h G) (a b k f w m : Int) : x_M y_M_refuses [oM, xI a, xI b, xI k, xI f, xI w, xI m] (S0, G) (x_is (.inl (some (xI (c_air h 0 a b k f w m)))) (S0, G)) := by
  refine x_of 0 rfl (Nat.le_of_ble_eq_true rfl) ?_
  show x_A y_M_refuses 0 [some oM, some (xI a), some (xI b), some (xI k), some (xI f), some (xI w), some (xI m)] [] (S0, G) 0 0 _
  generalize hC : c_air h 0 a b k f w m = C
  have one : (f_wi f (-1) (h.2 2 - 1) = 0 ∨ f_wi w 0 (h.2 0 - 1) = 0) → x_A y_M_refuses 18 [some oM, some (xI a), some (xI b), some (xI k), some (xI f), some (xI w), some (xI m)] [] (S0, G) 0 0 (x_is (.inl (some (xI C))) (S0, G)) := by
    intro z
    have eC : C = 1 := by rw [← hC]; unfold c_air; rw [if_pos z]
    refine x_iconst (1) d_M_refuses_18 rfl ⟨by decide, by decide⟩ ?_
    refine x_goto (44) d_M_refuses_19 (by decide) ?_
    refine x_ireturn d_M_refuses_44 rfl ?_ (Nat.zero_le _) (Nat.zero_le _)
    rw [eC]; exact ⟨rfl, rfl⟩
  refine x_aload_n d_M_refuses_0 rfl rfl ?_
  refine x_iload d_M_refuses_1 rfl ?_
  refine x_V1 d_M_refuses_3 e_M_refuses_M_isFire ⟨rfl, rfl, Nat.zero_le _, Nat.zero_le _⟩ rfl rfl rfl rfl (Nat.le_of_ble_eq_true rfl) (s_isFire hh r _) ?_
  refine x_if_eq (18) d_M_refuses_6 (by decide) (fun c1 => ?_) (fun c1 => ?_)
  · exact one (Or.inl c1)
  · refine x_aload_n d_M_refuses_9 rfl rfl ?_
    refine x_iload d_M_refuses_10 rfl ?_
    refine x_V1 d_M_refuses_12 e_M_refuses_M_isPiece ⟨rfl, rfl, Nat.zero_le _, Nat.zero_le _⟩ rfl rfl rfl rfl (Nat.le_of_ble_eq_true rfl) (s_isPiece hh r _) ?_
    refine x_if_ne (22) d_M_refuses_15 (by decide) (fun c2 => ?_) (fun c2 => ?_)
    · have n1 : ¬ (f_wi f (-1) (h.2 2 - 1) = 0 ∨ f_wi w 0 (h.2 0 - 1) = 0) := fun z => by rcases z with z | z <;> omega
      have two : (f_co a b k = 0 ∨ f_wi m 0 20 = 0) → x_A y_M_refuses 39 [some oM, some (xI a), some (xI b), some (xI k), some (xI f), some (xI w), some (xI m)] [] (S0, G) 0 0 (x_is (.inl (some (xI C))) (S0, G)) := by
        intro z
        have eC : C = 2 := by rw [← hC]; unfold c_air; rw [if_neg n1, if_pos z]
        refine x_iconst (2) d_M_refuses_39 rfl ⟨by decide, by decide⟩ ?_
        refine x_goto (44) d_M_refuses_40 (by decide) ?_
        refine x_ireturn d_M_refuses_44 rfl ?_ (Nat.zero_le _) (Nat.zero_le _)
        rw [eC]; exact ⟨rfl, rfl⟩
      refine x_iload_n d_M_refuses_22 rfl rfl ?_
      refine x_iload_n d_M_refuses_23 rfl rfl ?_
      refine x_iload_n d_M_refuses_24 rfl rfl ?_
      refine x_S1 d_M_refuses_25 e_M_refuses_M_isCourse ⟨rfl, rfl, Nat.zero_le _, Nat.zero_le _⟩ rfl rfl (Nat.le_of_ble_eq_true rfl) (s_isCourse _ _ _ _) ?_
      refine x_if_eq (39) d_M_refuses_28 (by decide) (fun c3 => ?_) (fun c3 => ?_)
      · exact two (Or.inl c3)
      · refine x_iload d_M_refuses_31 rfl ?_
        refine x_S1 d_M_refuses_33 e_M_refuses_M_isMinute ⟨rfl, rfl, Nat.zero_le _, Nat.zero_le _⟩ rfl rfl (Nat.le_of_ble_eq_true rfl) (s_isMinute _ _) ?_
        refine x_if_ne (43) d_M_refuses_36 (by decide) (fun c4 => ?_) (fun c4 => ?_)
        · have eC : C = 0 := by rw [← hC]; unfold c_air; rw [if_neg n1, if_neg (fun z => by rcases z with z | z <;> omega)]
          refine x_iconst (0) d_M_refuses_43 rfl ⟨by decide, by decide⟩ ?_
          refine x_ireturn d_M_refuses_44 rfl ?_ (Nat.zero_le _) (Nat.zero_le _)
          rw [eC]; exact ⟨rfl, rfl⟩
        · exact two (Or.inr c4)
    · exact one (Or.inr c2)
theorem c_air_0 {h : HH} {n : Nat} {a b k f w m : Int} (e : ¬ 0 < c_air h n a b k f w m) : c_air h n a b k f w m = 0 ∧ (-1 ≤ f ∧ f < h.2 2) ∧ (0 ≤ w ∧ w < h.2 n) ∧ (0 ≤ m ∧ m ≤ 20) := by
  unfold c_air at e ⊢
  split at e
  · omega
  · split at e
    · omega
    · rename_i z1 z2
      have q1 := f_wi_1 (fun q => z1 (Or.inl q))
      have q2 := f_wi_1 (fun q => z1 (Or.inr q))
      have q3 := f_wi_1 (fun q => z2 (Or.inr q))
      rw [if_neg z1, if_neg z2]
      omega
def v_dose (h : HH) (a b k f w m : Int) : Int := if c_air h 0 a b k f w m = 0 then (if (a_al h (a, b, k, f) 21 (8 * m.toNat + w.toNat)).1 < 1000000000000 then (a_al h (a, b, k, f) 21 (8 * m.toNat + w.toNat)).1 else -1) else 0
theorem s_dose {h : HH} {G : Nat → Nat → Int} (hh : Hwf h) (r : mRep h G) (a b k f w m : Int) : x_M y_M_dose [oM, xI a, xI b, xI k, xI f, xI w, xI m] (S0, G) (fun r τ => ∃ v, r = .inl v ∧ mAnsL G (c_air h 0 a b k f w m) (v_dose h a b k f w m) v τ) := by
  have bb := hh.1
  refine x_of 0 rfl (Nat.le_of_ble_eq_true rfl) ?_
  show x_A y_M_dose 0 [some oM, some (xI a), some (xI b), some (xI k), some (xI f), some (xI w), some (xI m)] [] (S0, G) 0 0 _
  generalize hV : v_dose h a b k f w m = V
  have hc0 := fun e => c_air_0 (h := h) (n := 0) (a := a) (b := b) (k := k) (f := f) (w := w) (m := m) e
  have rf := s_refuses hh r a b k f w m
  generalize hC : c_air h 0 a b k f w m = C at *
  generalize hQ : (fun (r : XRes) (τ : XM) => ∃ v, r = .inl v ∧ mAnsL G C V v τ) = Q
  refine x_aload_n d_M_dose_0 rfl rfl ?_
  refine x_aload_n d_M_dose_1 rfl rfl ?_
  refine x_iload_n d_M_dose_2 rfl rfl ?_
  refine x_iload_n d_M_dose_3 rfl rfl ?_
  refine x_iload_n d_M_dose_4 rfl rfl ?_
  refine x_iload d_M_dose_5 rfl ?_
  refine x_iload d_M_dose_7 rfl ?_
  refine x_iload d_M_dose_9 rfl ?_
  refine x_V1 d_M_dose_11 e_M_dose_M_refuses ⟨rfl, rfl, Nat.zero_le _, Nat.zero_le _⟩ rfl rfl rfl rfl (Nat.le_of_ble_eq_true rfl) (rf) ?_
  refine x_putIG (kf := 0) tyX12 d_M_dose_14 rfl rfl rfl in_M f_M_217 tyX12_ok nmX12 (by decide +kernel) rfl ?_
  refine x_aload_n d_M_dose_17 rfl rfl ?_
  refine x_getIG (kf := 0) d_M_dose_18 rfl rfl rfl in_M f_M_217 ?_
  rw [up_same]
  refine x_if_le (26) d_M_dose_21 (by decide) (fun c1 => ?_) (fun c1 => ?_)
  · obtain ⟨eC, q1, q2, q3⟩ := hc0 (by omega)
    obtain ⟨x, rfl⟩ : ∃ x : Nat, w = x := ⟨w.toNat, by omega⟩
    obtain ⟨y, rfl⟩ : ∃ y : Nat, m = y := ⟨m.toNat, by omega⟩
    have eV : (if (a_al h (a, b, k, f) 21 (8 * y + x)).1 < 1000000000000 then (a_al h (a, b, k, f) 21 (8 * y + x)).1 else -1) = V := by
      rw [← hV]; unfold v_dose
      rw [hC, if_pos eC, Int.toNat_natCast, Int.toNat_natCast]
    refine x_aload_n d_M_dose_26 rfl rfl ?_
    refine x_iload_n d_M_dose_27 rfl rfl ?_
    refine x_iload_n d_M_dose_28 rfl rfl ?_
    refine x_iload_n d_M_dose_29 rfl rfl ?_
    refine x_iload d_M_dose_30 rfl ?_
    refine x_VQ d_M_dose_32 e_M_dose_M_alone ⟨rfl, rfl, Nat.zero_le _, Nat.zero_le _⟩ rfl rfl rfl rfl (Nat.le_of_ble_eq_true rfl) (s_alone hh (r.th C) (a, b, k, f) (by show -1 ≤ f ∧ f < _; omega)) (fun v τ hv => ?_)
    obtain ⟨rfl, G1, rfl, f1, e1⟩ := hv
    have e1 := e1 y x (by omega) (by omega)
    have d1 : G1 m_dose (8 * y + x) = (a_al h (a, b, k, f) 21 (8 * y + x)).1 := congrArg (fun z : T3 => z.1) e1
    rw [← d1] at eV
    show x_A y_M_dose 35 [some oM, some (xI a), some (xI b), some (xI k), some (xI f), some (xI (x : Int)), some (xI (y : Int))] [] (S0, G1) 0 0 Q
    refine x_aload_n d_M_dose_35 rfl rfl ?_
    refine x_getF (kf := 75) d_M_dose_36 rfl rfl rfl in_M f_M_192 ?_
    refine x_bipush (8) d_M_dose_39 rfl ⟨by decide, by decide⟩ ?_
    refine x_iload d_M_dose_41 rfl ?_
    refine x_imulN d_M_dose_43 (by omega) (by omega) ?_
    refine x_iload d_M_dose_44 rfl ?_
    refine x_iaddN d_M_dose_46 (by omega) (by omega) ?_
    refine x_laldN (8 * y + x) d_M_dose_47 rfl (by omega) (by omega) ?_
    refine x_ldc2 (1000000000000) d_M_dose_48 k_M_466 ⟨by decide, by decide⟩ ?_
    refine x_lcmp_ d_M_dose_51 ?_
    refine x_if_ge (71) d_M_dose_52 (by decide) (fun c2 => ?_) (fun c2 => ?_)
    · have h2 : ¬ G1 m_dose (8 * y + x) < 1000000000000 := by unfold x_lcmp at c2; split at c2 <;> (try split at c2) <;> omega
      rw [if_neg h2] at eV
      refine x_ldc2 (-1) d_M_dose_71 k_M_317 ⟨by decide, by decide⟩ ?_
      refine x_lreturn d_M_dose_74 rfl ?_ (Nat.zero_le _) (Nat.zero_le _)
      rw [← hQ, ← eV]
      exact ⟨_, rfl, G1, rfl, f1, rfl⟩
    · have h2 : G1 m_dose (8 * y + x) < 1000000000000 := by unfold x_lcmp at c2; split at c2 <;> (try split at c2) <;> omega
      rw [if_pos h2] at eV
      refine x_aload_n d_M_dose_55 rfl rfl ?_
      refine x_getF (kf := 75) d_M_dose_56 rfl rfl rfl in_M f_M_192 ?_
      refine x_bipush (8) d_M_dose_59 rfl ⟨by decide, by decide⟩ ?_
      refine x_iload d_M_dose_61 rfl ?_
      refine x_imulN d_M_dose_63 (by omega) (by omega) ?_
      refine x_iload d_M_dose_64 rfl ?_
      refine x_iaddN d_M_dose_66 (by omega) (by omega) ?_
      refine x_laldN (8 * y + x) d_M_dose_67 rfl (by omega) (by omega) ?_
      rw [eV]
      refine x_goto (74) d_M_dose_68 (by decide) ?_
      refine x_lreturn d_M_dose_74 rfl ?_ (Nat.zero_le _) (Nat.zero_le _)
      rw [← hQ]
      exact ⟨_, rfl, G1, rfl, f1, rfl⟩
  · have eV : V = 0 := by rw [← hV]; unfold v_dose; rw [hC, if_neg (by omega)]
    refine x_lconst (0) d_M_dose_24 rfl ⟨by decide, by decide⟩ ?_
    refine x_lreturn d_M_dose_25 rfl ?_ (Nat.zero_le _) (Nat.zero_le _)
    rw [← hQ, eV]
    exact ⟨_, rfl, _, rfl, pFrame.rf _, rfl⟩
def v_outAt (h : HH) (a b k f w m : Int) : Int := if c_air h 0 a b k f w m = 0 then (if (a_al h (a, b, k, f) 21 (8 * m.toNat + w.toNat)).1 < 1000000000000 then (a_al h (a, b, k, f) 21 (8 * m.toNat + w.toNat)).2.1 else -1) else 0
theorem s_outAt {h : HH} {G : Nat → Nat → Int} (hh : Hwf h) (r : mRep h G) (a b k f w m : Int) : x_M y_M_outAt [oM, xI a, xI b, xI k, xI f, xI w, xI m] (S0, G) (fun r τ => ∃ v, r = .inl v ∧ mAns G (c_air h 0 a b k f w m) (v_outAt h a b k f w m) v τ) := by
  have bb := hh.1
  refine x_of 0 rfl (Nat.le_of_ble_eq_true rfl) ?_
  show x_A y_M_outAt 0 [some oM, some (xI a), some (xI b), some (xI k), some (xI f), some (xI w), some (xI m)] [] (S0, G) 0 0 _
  generalize hV : v_outAt h a b k f w m = V
  have hc0 := fun e => c_air_0 (h := h) (n := 0) (a := a) (b := b) (k := k) (f := f) (w := w) (m := m) e
  have rf := s_refuses hh r a b k f w m
  generalize hC : c_air h 0 a b k f w m = C at *
  generalize hQ : (fun (r : XRes) (τ : XM) => ∃ v, r = .inl v ∧ mAns G C V v τ) = Q
  refine x_aload_n d_M_outAt_0 rfl rfl ?_
  refine x_aload_n d_M_outAt_1 rfl rfl ?_
  refine x_iload_n d_M_outAt_2 rfl rfl ?_
  refine x_iload_n d_M_outAt_3 rfl rfl ?_
  refine x_iload_n d_M_outAt_4 rfl rfl ?_
  refine x_iload d_M_outAt_5 rfl ?_
  refine x_iload d_M_outAt_7 rfl ?_
  refine x_iload d_M_outAt_9 rfl ?_
  refine x_V1 d_M_outAt_11 e_M_outAt_M_refuses ⟨rfl, rfl, Nat.zero_le _, Nat.zero_le _⟩ rfl rfl rfl rfl (Nat.le_of_ble_eq_true rfl) (rf) ?_
  refine x_putIG (kf := 0) tyX12 d_M_outAt_14 rfl rfl rfl in_M f_M_217 tyX12_ok nmX12 (by decide +kernel) rfl ?_
  refine x_aload_n d_M_outAt_17 rfl rfl ?_
  refine x_getIG (kf := 0) d_M_outAt_18 rfl rfl rfl in_M f_M_217 ?_
  rw [up_same]
  refine x_if_le (26) d_M_outAt_21 (by decide) (fun c1 => ?_) (fun c1 => ?_)
  · obtain ⟨eC, q1, q2, q3⟩ := hc0 (by omega)
    obtain ⟨x, rfl⟩ : ∃ x : Nat, w = x := ⟨w.toNat, by omega⟩
    obtain ⟨y, rfl⟩ : ∃ y : Nat, m = y := ⟨m.toNat, by omega⟩
    have eV : (if (a_al h (a, b, k, f) 21 (8 * y + x)).1 < 1000000000000 then (a_al h (a, b, k, f) 21 (8 * y + x)).2.1 else -1) = V := by
      rw [← hV]; unfold v_outAt
      rw [hC, if_pos eC, Int.toNat_natCast, Int.toNat_natCast]
    refine x_aload_n d_M_outAt_26 rfl rfl ?_
    refine x_iload_n d_M_outAt_27 rfl rfl ?_
    refine x_iload_n d_M_outAt_28 rfl rfl ?_
    refine x_iload_n d_M_outAt_29 rfl rfl ?_
    refine x_iload d_M_outAt_30 rfl ?_
    refine x_VQ d_M_outAt_32 e_M_outAt_M_alone ⟨rfl, rfl, Nat.zero_le _, Nat.zero_le _⟩ rfl rfl rfl rfl (Nat.le_of_ble_eq_true rfl) (s_alone hh (r.th C) (a, b, k, f) (by show -1 ≤ f ∧ f < _; omega)) (fun v τ hv => ?_)
    obtain ⟨rfl, G1, rfl, f1, e1⟩ := hv
    have e1 := e1 y x (by omega) (by omega)
    have d1 : G1 m_dose (8 * y + x) = (a_al h (a, b, k, f) 21 (8 * y + x)).1 := congrArg (fun z : T3 => z.1) e1
    have d2 : G1 m_outMinute (8 * y + x) = (a_al h (a, b, k, f) 21 (8 * y + x)).2.1 := congrArg (fun z : T3 => z.2.1) e1
    rw [← d1, ← d2] at eV
    show x_A y_M_outAt 35 [some oM, some (xI a), some (xI b), some (xI k), some (xI f), some (xI (x : Int)), some (xI (y : Int))] [] (S0, G1) 0 0 Q
    refine x_aload_n d_M_outAt_35 rfl rfl ?_
    refine x_getF (kf := 75) d_M_outAt_36 rfl rfl rfl in_M f_M_192 ?_
    refine x_bipush (8) d_M_outAt_39 rfl ⟨by decide, by decide⟩ ?_
    refine x_iload d_M_outAt_41 rfl ?_
    refine x_imulN d_M_outAt_43 (by omega) (by omega) ?_
    refine x_iload d_M_outAt_44 rfl ?_
    refine x_iaddN d_M_outAt_46 (by omega) (by omega) ?_
    refine x_laldN (8 * y + x) d_M_outAt_47 rfl (by omega) (by omega) ?_
    refine x_ldc2 (1000000000000) d_M_outAt_48 k_M_466 ⟨by decide, by decide⟩ ?_
    refine x_lcmp_ d_M_outAt_51 ?_
    refine x_if_ge (71) d_M_outAt_52 (by decide) (fun c2 => ?_) (fun c2 => ?_)
    · have h2 : ¬ G1 m_dose (8 * y + x) < 1000000000000 := by unfold x_lcmp at c2; split at c2 <;> (try split at c2) <;> omega
      rw [if_neg h2] at eV
      refine x_iconst (-1) d_M_outAt_71 rfl ⟨by decide, by decide⟩ ?_
      refine x_ireturn d_M_outAt_72 rfl ?_ (Nat.zero_le _) (Nat.zero_le _)
      rw [← hQ, ← eV]
      exact ⟨_, rfl, G1, rfl, f1, rfl⟩
    · have h2 : G1 m_dose (8 * y + x) < 1000000000000 := by unfold x_lcmp at c2; split at c2 <;> (try split at c2) <;> omega
      rw [if_pos h2] at eV
      refine x_aload_n d_M_outAt_55 rfl rfl ?_
      refine x_getF (kf := 76) d_M_outAt_56 rfl rfl rfl in_M f_M_196 ?_
      refine x_bipush (8) d_M_outAt_59 rfl ⟨by decide, by decide⟩ ?_
      refine x_iload d_M_outAt_61 rfl ?_
      refine x_imulN d_M_outAt_63 (by omega) (by omega) ?_
      refine x_iload d_M_outAt_64 rfl ?_
      refine x_iaddN d_M_outAt_66 (by omega) (by omega) ?_
      refine x_ialdN (8 * y + x) d_M_outAt_67 rfl (by omega) (by omega) ?_
      rw [eV]
      refine x_goto (72) d_M_outAt_68 (by decide) ?_
      refine x_ireturn d_M_outAt_72 rfl ?_ (Nat.zero_le _) (Nat.zero_le _)
      rw [← hQ]
      exact ⟨_, rfl, G1, rfl, f1, rfl⟩
  · have eV : V = 0 := by rw [← hV]; unfold v_outAt; rw [hC, if_neg (by omega)]
    refine x_iconst (0) d_M_outAt_24 rfl ⟨by decide, by decide⟩ ?_
    refine x_ireturn d_M_outAt_25 rfl ?_ (Nat.zero_le _) (Nat.zero_le _)
    rw [← hQ, eV]
    exact ⟨_, rfl, _, rfl, pFrame.rf _, rfl⟩
