/-! the class: what a person does -/
theorem a_al_st (h : HH) (c : CC) {n : Nat} : ∀ k i, n ≤ k → k ≤ 21 → 20 < i / 8 + n → a_al h c k i = a_al h c n i
  | 0, i, h1, _, _ => by rw [show n = 0 by omega]
  | k + 1, i, h1, h2, h3 => by
    by_cases e : n = k + 1
    · rw [e]
    · show (if i / 8 = 20 - k then _ else a_al h c k i) = _
      rw [if_neg (by omega)]
      exact a_al_st h c k i (by omega) (by omega) h3
theorem a_al_at (h : HH) (c : CC) {m p : Nat} (hm : m ≤ 20) (hp : p < 8) : a_al h c 21 (8 * m + p) = a_go h (a_al h c (20 - m)) (f_sh h c m p) ((sk h c m).2.1 p) p m := by
  rw [a_al_st h c (n := 20 - m + 1) 21 _ (by omega) (by omega) (by omega)]
  show (if (8 * m + p) / 8 = 20 - (20 - m) then _ else _) = _
  rw [if_pos (by omega), show (8 * m + p) % 8 = p by omega, show 20 - (20 - m) = m by omega]
/-- a deed can be done -/
def aV (h : HH) (D : Nat → T3) (m p : Nat) (z : T3) : Prop := z.1 < 1000000000000 → z.2.2 = 0 ∨ (z.2.2 = 1 ∧ m < 20 ∧ (D (8 * m + p + 8)).1 < 1000000000000) ∨ ∃ w, w < h.2 1 ∧ z.2.2 = 2 + (w : Int) ∧ f_at h p w = true ∧ (m : Int) + h.1 1 w 2 * h.1 9 0 1 ≤ 20 ∧ (D (a_ix h p m w)).1 < 1000000000000
theorem a_go_V (h : HH) {D : Nat → T3} {sh : Bool} {mix : Int} (hx : 0 ≤ mix) {p m : Nat} (hm : m ≤ 20) : aV h D m p (a_go h D sh mix p m) := by
  unfold a_go
  split
  · intro z; exact absurd z (by decide)
  · next c =>
    have hm' : m < 20 := by
      have : m ≠ 20 := fun e => c (Or.inr e)
      omega
    have tr : ∀ z what v minute, aV h D m p z → (v < 1000000000000 → what = 0 ∨ (what = 1 ∧ m < 20 ∧ (D (8 * m + p + 8)).1 < 1000000000000) ∨ ∃ w, w < h.2 1 ∧ what = 2 + (w : Int) ∧ f_at h p w = true ∧ (m : Int) + h.1 1 w 2 * h.1 9 0 1 ≤ 20 ∧ (D (a_ix h p m w)).1 < 1000000000000) → aV h D m p (a_try z what v minute) := by
      intro z what v minute a b
      unfold a_try
      split
      · exact a
      · exact b
    have imp0 : aV h D m p (1000000000000, 21, -1) := fun z => absurd z (by decide)
    have all : ∀ n, n ≤ h.2 1 → aV h D m p (a_wy h D mix p m n) := by
      intro n hn
      induction n with
      | zero =>
        show aV h D m p (a_st h D mix p m)
        unfold a_st
        refine tr _ _ _ _ ?_ (fun q => Or.inr (Or.inl ⟨rfl, hm', by omega⟩))
        split
        · exact tr _ _ _ _ imp0 (fun _ => Or.inl rfl)
        · exact imp0
      | succ w ih =>
        show aV h D m p (if _ then _ else _)
        split
        · next cc => exact tr _ _ _ _ (ih (by omega)) (fun q => Or.inr (Or.inr ⟨w, by omega, rfl, cc.1, cc.2, by omega⟩))
        · exact ih (by omega)
    exact all _ (Nat.le_refl _)
theorem a_al_V {h : HH} (hh : Hwf h) {c : CC} (hc : -1 ≤ c.2.2.2 ∧ c.2.2.2 < h.2 2) {m p : Nat} (hm : m ≤ 20) (hp : p < h.2 0) : aV h (a_al h c 21) m p (a_al h c 21 (8 * m + p)) := by
  have b0 := hh.1
  have sb := ((sk_le hh hc (m := m) hm).1 p).2.2.1
  have v := a_go_V h (D := a_al h c (20 - m)) (sh := f_sh h c m p) sb (p := p) hm
  rw [← a_al_at h c hm (by omega)] at v
  intro z
  rcases v z with v | ⟨v1, v2, v3⟩ | ⟨w, v1, v2, v3, v4, v5⟩
  · exact Or.inl v
  · refine Or.inr (Or.inl ⟨v1, v2, ?_⟩)
    rw [a_al_st h c (n := 20 - m) 21 _ (by omega) (by omega) (by omega)]; exact v3
  · refine Or.inr (Or.inr ⟨w, v1, v2, v3, v4, ?_⟩)
    have bw := w_wk hh v1
    have bo := f_oth_bd hh (p : Int) v1
    rw [a_al_st h c (n := 20 - m) 21 _ (by omega) (by omega) (by unfold a_ix; omega)]; exact v5
/-- where one is in a minute -/
def a_wh (h : HH) (D : Nat → T3) (y : Nat) : Nat → Nat → Nat → Int
  | 0, _, _ => -1
  | n + 1, m, p => if y ≤ m then (if m = y then (p : Int) else -1) else if (D (8 * m + p)).2.2 = 0 then -1 else if (D (8 * m + p)).2.2 = 1 then a_wh h D y n (m + 1) p else a_wh h D y n ((m : Int) + h.1 1 ((D (8 * m + p)).2.2 - 2).toNat 2 * h.1 9 0 1).toNat (f_oth h p ((D (8 * m + p)).2.2 - 2).toNat).toNat
section CPe3
variable {h : HH} {G : Nat → Nat → Int}
def mPw (h : HH) (c : CC) (G : Nat → Nat → Int) : Option XV → XM → Prop := fun v τ => v = none ∧ ∃ G', τ = (S0, G') ∧ (∀ z, z ≠ pe_doses → z ≠ pe_outs → z ≠ pe_deeds → G' z = G z) ∧ ∀ t q, t ≤ 20 → q < h.2 0 → pR 0 42000000 (p3 G' (8 * t + q)) (a_al h c 21 (8 * t + q))
theorem c_pweigh (hh : Hwf h) (r : fRep h G) {c : CC} (hc : -1 ≤ c.2.2.2 ∧ c.2.2.2 < h.2 2) (sm : fSmoke h c G) : x_M y_Pe_weigh [oPe] (S0, G) (fun r τ => ∃ v, r = .inl v ∧ mPw h c G v τ) := by
  have bb := hh.1
  refine x_of 3 rfl (Nat.le_of_ble_eq_true rfl) ?_
  show x_A y_Pe_weigh 0 [some oPe, none, none, none] [] (S0, G) 0 0 _
  generalize hQ : (fun (r : XRes) (τ : XM) => ∃ v, r = .inl v ∧ mPw h c G v τ) = Q
  refine x_aload_n d_Pe_weigh_0 rfl rfl ?_
  refine x_getF (kf := 0) d_Pe_weigh_1 rfl rfl rfl in_Pe f_Pe_21 ?_
  refine x_V1 d_Pe_weigh_4 e_Pe_weigh_Ho_madeDoors ⟨rfl, rfl, Nat.zero_le _, Nat.zero_le _⟩ rfl rfl rfl rfl (Nat.le_of_ble_eq_true rfl) (c_madeDoors hh r) ?_
  refine x_istore_n d_Pe_weigh_7 rfl (by decide) ?_
  dsimp only [x_st1, x_st2, x_kill, List.set, List.getElem?_cons_zero, List.getElem?_cons_succ]
  refine x_bipush (20) d_Pe_weigh_8 rfl ⟨by decide, by decide⟩ ?_
  refine x_istore_n d_Pe_weigh_10 rfl (by decide) ?_
  dsimp only [x_st1, x_st2, x_kill, List.set, List.getElem?_cons_zero, List.getElem?_cons_succ]
  have all : ∀ G' z3, (∀ z, z ≠ pe_doses → z ≠ pe_outs → z ≠ pe_deeds → G' z = G z) → (∀ t q, 20 < t + 0 → t ≤ 20 → q < h.2 0 → pR 0 (2000000 * ((0 : Nat) : Int)) (p3 G' (8 * t + q)) (a_al h c 0 (8 * t + q))) → x_A y_Pe_weigh 11 [some oPe, some (xI (f_made h (h.2 6))), some (xI (20 - ((0 : Nat) : Int))), z3] [] (S0, G') 0 0 Q := by
    refine x_up_to (P := fun n => ∀ G' z3, (∀ z, z ≠ pe_doses → z ≠ pe_outs → z ≠ pe_deeds → G' z = G z) → (∀ t q, 20 < t + n → t ≤ 20 → q < h.2 0 → pR 0 (2000000 * (n : Int)) (p3 G' (8 * t + q)) (a_al h c n (8 * t + q))) → x_A y_Pe_weigh 11 [some oPe, some (xI (f_made h (h.2 6))), some (xI (20 - (n : Int))), z3] [] (S0, G') 0 0 Q) 0 21 (Nat.zero_le _) ?_ (fun n _ hn k => ?_)
    · intro G2 z3 g1 g2
      refine x_iload_n d_Pe_weigh_11 rfl rfl ?_
      refine x_if_lt (50) d_Pe_weigh_12 (by decide) (fun c1 => ?_) (fun c1 => ?_)
      · refine x_return d_Pe_weigh_50 rfl ?_ (Nat.zero_le _) (Nat.zero_le _)
        rw [← hQ]
        exact ⟨_, rfl, rfl, G2, rfl, g1, fun t q h1 h2 => (g2 t q (by omega) h1 h2).mono (by omega)⟩
      · omega
    · intro G2 z3 g1 g2
      obtain ⟨m, em⟩ : ∃ m : Nat, n + m = 20 := ⟨20 - n, by omega⟩
      have e20 : (20 - (n : Int)) = (m : Int) := by omega
      rw [e20]
      refine x_iload_n d_Pe_weigh_11 rfl rfl ?_
      refine x_if_lt (50) d_Pe_weigh_12 (by decide) (fun c1 => ?_) (fun c1 => ?_)
      · omega
      · refine x_iconst (0) d_Pe_weigh_15 rfl ⟨by decide, by decide⟩ ?_
        refine x_istore_n d_Pe_weigh_16 rfl (by decide) ?_
        dsimp only [x_st1, x_st2, x_kill, List.set, List.getElem?_cons_zero, List.getElem?_cons_succ]
        have st : ∀ t q, q < 8 → a_al h c (n + 1) (8 * t + q) = if t = m then a_go h (a_al h c n) (f_sh h c m q) ((sk h c m).2.1 q) q m else a_al h c n (8 * t + q) := by
          intro t q hq
          show (if (8 * t + q) / 8 = 20 - n then _ else _) = _
          rw [show (8 * t + q) / 8 = t by omega, show (8 * t + q) % 8 = q by omega, show 20 - n = m by omega]
        have inner : ∀ G', (∀ z, z ≠ pe_doses → z ≠ pe_outs → z ≠ pe_deeds → G' z = G z) → (∀ t q, m < t → t ≤ 20 → q < h.2 0 → pR 0 (2000000 * (n : Int)) (p3 G' (8 * t + q)) (a_al h c n (8 * t + q))) → (∀ q, q < 0 → pR 0 (2000000 * (n : Int) + 2000000) (p3 G' (8 * m + q)) (a_go h (a_al h c n) (f_sh h c m q) ((sk h c m).2.1 q) q m)) → x_A y_Pe_weigh 17 [some oPe, some (xI (f_made h (h.2 6))), some (xI (m : Int)), some (xI ((0 : Nat) : Int))] [] (S0, G') 0 0 Q := by
          refine x_up_to (P := fun p => ∀ G', (∀ z, z ≠ pe_doses → z ≠ pe_outs → z ≠ pe_deeds → G' z = G z) → (∀ t q, m < t → t ≤ 20 → q < h.2 0 → pR 0 (2000000 * (n : Int)) (p3 G' (8 * t + q)) (a_al h c n (8 * t + q))) → (∀ q, q < p → pR 0 (2000000 * (n : Int) + 2000000) (p3 G' (8 * m + q)) (a_go h (a_al h c n) (f_sh h c m q) ((sk h c m).2.1 q) q m)) → x_A y_Pe_weigh 17 [some oPe, some (xI (f_made h (h.2 6))), some (xI (m : Int)), some (xI (p : Int))] [] (S0, G') 0 0 Q) 0 (h.2 0) (Nat.zero_le _) ?_ (fun p _ hp k2 => ?_)
          · intro G3 j1 j2 j3
            have r3 : fRep h G3 := r.same (fun j _ h2 => j1 j (by simp only [pe_doses]; omega) (by simp only [pe_outs]; omega) (by simp only [pe_deeds]; omega))
            have k := k G3 (some (xI (h.2 0 : Int))) j1 (fun t q h1 h2 h3 => by
              rw [st t q (by omega)]
              split
              · rename_i z; subst z; exact (j3 q h3).mono (by omega)
              · exact (j2 t q (by omega) h2 h3).mono (by omega))
            rw [show (20 : Int) - ((n + 1 : Nat) : Int) = (m : Int) + -1 by omega] at k
            refine x_iload_n d_Pe_weigh_17 rfl rfl ?_
            refine x_aload_n d_Pe_weigh_18 rfl rfl ?_
            refine x_getF (kf := 0) d_Pe_weigh_19 rfl rfl rfl in_Pe f_Pe_21 ?_
            refine x_getF (kf := 0) d_Pe_weigh_22 rfl rfl rfl in_Ho f_Pe_35 ?_
            refine x_V1 d_Pe_weigh_25 e_Pe_weigh_Ta_size ⟨rfl, rfl, Nat.zero_le _, Nat.zero_le _⟩ rfl rfl rfl rfl (Nat.le_of_ble_eq_true rfl) (k_size r3 0 (by decide)) ?_
            refine x_icmp_ge (44) d_Pe_weigh_28 (by decide) (fun c2 => ?_) (fun c2 => ?_)
            · refine x_iincN d_Pe_weigh_44 rfl (by decide) (by omega) (by omega) ?_
              dsimp only [x_st1, x_st2, x_kill, List.set, List.getElem?_cons_zero, List.getElem?_cons_succ]
              refine x_goto (11) d_Pe_weigh_47 (by decide) ?_
              exact k
            · omega
          · intro G3 j1 j2 j3
            have r3 : fRep h G3 := r.same (fun j _ h2 => j1 j (by simp only [pe_doses]; omega) (by simp only [pe_outs]; omega) (by simp only [pe_deeds]; omega))
            have xm : G3 sm_mixed (8 * m + p) = (sk h c m).2.1 p := by rw [j1 sm_mixed (by decide) (by decide) (by decide)]; exact ((sm.1 m (by omega)).1 p (by omega)).2
            have sb := (sk_le hh hc (m := m) (by omega)).1 p
            have ga := c_choose hh r3 (a_al h c n) (2000000 * (n : Int)) p m hp (by omega) (by omega) j2 (by rw [xm]; omega)
            refine x_iload_n d_Pe_weigh_17 rfl rfl ?_
            refine x_aload_n d_Pe_weigh_18 rfl rfl ?_
            refine x_getF (kf := 0) d_Pe_weigh_19 rfl rfl rfl in_Pe f_Pe_21 ?_
            refine x_getF (kf := 0) d_Pe_weigh_22 rfl rfl rfl in_Ho f_Pe_35 ?_
            refine x_V1 d_Pe_weigh_25 e_Pe_weigh_Ta_size ⟨rfl, rfl, Nat.zero_le _, Nat.zero_le _⟩ rfl rfl rfl rfl (Nat.le_of_ble_eq_true rfl) (k_size r3 0 (by decide)) ?_
            refine x_icmp_ge (44) d_Pe_weigh_28 (by decide) (fun c2 => ?_) (fun c2 => ?_)
            · omega
            · refine x_aload_n d_Pe_weigh_31 rfl rfl ?_
              refine x_iload_n d_Pe_weigh_32 rfl rfl ?_
              refine x_iload_n d_Pe_weigh_33 rfl rfl ?_
              refine x_iload_n d_Pe_weigh_34 rfl rfl ?_
              refine x_VQ d_Pe_weigh_35 e_Pe_weigh_Pe_choose ⟨rfl, rfl, Nat.zero_le _, Nat.zero_le _⟩ rfl rfl rfl rfl (Nat.le_of_ble_eq_true rfl) (ga) (fun v τ hv => ?_)
              obtain ⟨z, ⟨rfl, G4, rfl, f4, e4⟩, e5⟩ := hv
              rw [xm] at e5
              show x_A y_Pe_weigh 38 [some oPe, some (xI (f_made h (h.2 6))), some (xI (m : Int)), some (xI (p : Int))] [] (S0, G4) 0 0 Q
              refine x_iincN d_Pe_weigh_38 rfl (by decide) (by omega) (by omega) ?_
              dsimp only [x_st1, x_st2, x_kill, List.set, List.getElem?_cons_zero, List.getElem?_cons_succ]
              refine x_goto (17) d_Pe_weigh_41 (by decide) ?_
              refine k2 G4 (fun z h1 h2 h3 => (f4.1 z h1 h2 h3).trans (j1 z h1 h2 h3)) (fun t q h1 h2 h3 => ?_) (fun q hq => ?_)
              · rw [f4.2 _ (by omega)]; exact j2 t q h1 h2 h3
              · rcases Nat.lt_succ_iff_lt_or_eq.1 hq with z | z
                · rw [f4.2 _ (by omega)]; exact j3 q z
                · subst z; rw [e4]; exact e5
        exact inner G2 g1 (fun t q h1 h2 h3 => g2 t q (by omega) h2 h3) (fun q hq => absurd hq (Nat.not_lt_zero q))
  exact all G _ (fun z _ _ _ => rfl) (fun t q h1 h2 => by omega)
theorem c_doseFrom {p m : Nat} (hp : p < 8) (hm : m ≤ 20) : x_M y_Pe_doseFrom [oPe, xI (p : Int), xI (m : Int)] (S0, G) (x_is (.inl (some (xI (G pe_doses (8 * m + p))))) (S0, G)) := by
  refine x_of 0 rfl (Nat.le_of_ble_eq_true rfl) ?_
  show x_A y_Pe_doseFrom 0 [some oPe, some (xI (p : Int)), some (xI (m : Int))] [] (S0, G) 0 0 _
  refine x_iload_n d_Pe_doseFrom_0 rfl rfl ?_
  refine x_iload_n d_Pe_doseFrom_1 rfl rfl ?_
  refine x_S1 d_Pe_doseFrom_2 e_Pe_doseFrom_Pe_isPlace ⟨rfl, rfl, Nat.zero_le _, Nat.zero_le _⟩ rfl rfl (Nat.le_of_ble_eq_true rfl) (c_isPlace _ _ _) ?_
  rw [decide_eq_true (show 0 ≤ (p : Int) ∧ (p : Int) < 8 ∧ 0 ≤ (m : Int) ∧ (m : Int) < 21 from by omega)]
  refine x_if_eq (21) d_Pe_doseFrom_5 (by decide) (fun g => ?_) (fun g => ?_)
  · cases g
  · refine x_aload_n d_Pe_doseFrom_8 rfl rfl ?_
    refine x_getF (kf := 2) d_Pe_doseFrom_9 rfl rfl rfl in_Pe f_Pe_9 ?_
    refine x_iload_n d_Pe_doseFrom_12 rfl rfl ?_
    refine x_iload_n d_Pe_doseFrom_13 rfl rfl ?_
    refine x_SN1 d_Pe_doseFrom_14 e_Pe_doseFrom_F_spot ⟨rfl, rfl, Nat.zero_le _, Nat.zero_le _⟩ rfl rfl (Nat.le_of_ble_eq_true rfl) (c_spot _ _ _ (by omega) (by omega)) ?_
    refine x_ialdN ((8 * m + p)) d_Pe_doseFrom_17 rfl (by omega) (by omega) ?_
    refine x_goto (22) d_Pe_doseFrom_18 (by decide) ?_
    refine x_ireturn d_Pe_doseFrom_22 rfl ?_ (Nat.zero_le _) (Nat.zero_le _)
    exact ⟨rfl, rfl⟩
theorem c_outFrom {p m : Nat} (hp : p < 8) (hm : m ≤ 20) : x_M y_Pe_outFrom [oPe, xI (p : Int), xI (m : Int)] (S0, G) (x_is (.inl (some (xI (if G pe_doses (8 * m + p) = -1 then -1 else G pe_outs (8 * m + p))))) (S0, G)) := by
  refine x_of 0 rfl (Nat.le_of_ble_eq_true rfl) ?_
  show x_A y_Pe_outFrom 0 [some oPe, some (xI (p : Int)), some (xI (m : Int))] [] (S0, G) 0 0 _
  refine x_aload_n d_Pe_outFrom_0 rfl rfl ?_
  refine x_iload_n d_Pe_outFrom_1 rfl rfl ?_
  refine x_iload_n d_Pe_outFrom_2 rfl rfl ?_
  refine x_V1 d_Pe_outFrom_3 e_Pe_outFrom_Pe_doseFrom ⟨rfl, rfl, Nat.zero_le _, Nat.zero_le _⟩ rfl rfl rfl rfl (Nat.le_of_ble_eq_true rfl) (c_doseFrom hp hm) ?_
  refine x_iconst (-1) d_Pe_outFrom_6 rfl ⟨by decide, by decide⟩ ?_
  refine x_icmp_ne (14) d_Pe_outFrom_7 (by decide) (fun g => ?_) (fun g => ?_)
  · rw [if_neg g]
    refine x_aload_n d_Pe_outFrom_14 rfl rfl ?_
    refine x_getF (kf := 3) d_Pe_outFrom_15 rfl rfl rfl in_Pe f_Pe_15 ?_
    refine x_iload_n d_Pe_outFrom_18 rfl rfl ?_
    refine x_iload_n d_Pe_outFrom_19 rfl rfl ?_
    refine x_SN1 d_Pe_outFrom_20 e_Pe_outFrom_F_spot ⟨rfl, rfl, Nat.zero_le _, Nat.zero_le _⟩ rfl rfl (Nat.le_of_ble_eq_true rfl) (c_spot _ _ _ (by omega) (by omega)) ?_
    refine x_ialdN ((8 * m + p)) d_Pe_outFrom_23 rfl (by omega) (by omega) ?_
    refine x_ireturn d_Pe_outFrom_24 rfl ?_ (Nat.zero_le _) (Nat.zero_le _)
    exact ⟨rfl, rfl⟩
  · rw [if_pos (by omega)]
    refine x_iconst (-1) d_Pe_outFrom_10 rfl ⟨by decide, by decide⟩ ?_
    refine x_goto (24) d_Pe_outFrom_11 (by decide) ?_
    refine x_ireturn d_Pe_outFrom_24 rfl ?_ (Nat.zero_le _) (Nat.zero_le _)
    exact ⟨rfl, rfl⟩
theorem c_whereFrom (hh : Hwf h) (r : fRep h G) {c : CC} (hc : -1 ≤ c.2.2.2 ∧ c.2.2.2 < h.2 2) (hr : ∀ t q, t ≤ 20 → q < h.2 0 → pR 0 42000000 (p3 G (8 * t + q)) (a_al h c 21 (8 * t + q))) {p m y : Nat} (hp : p < h.2 0) (hm : m ≤ 20) (hy : y ≤ 20) : x_M y_Pe_whereFrom [oPe, xI (p : Int), xI (m : Int), xI (y : Int)] (S0, G) (x_is (.inl (some (xI (if G pe_doses (8 * m + p) = -1 then -1 else a_wh h (a_al h c 21) y 22 m p)))) (S0, G)) := by
  have b0 := hh.1
  refine x_of 4 rfl (Nat.le_of_ble_eq_true rfl) ?_
  show x_A y_Pe_whereFrom 0 [some oPe, some (xI (p : Int)), some (xI (m : Int)), some (xI (y : Int)), none, none, none, none] [] (S0, G) 0 0 _
  refine x_aload_n d_Pe_whereFrom_0 rfl rfl ?_
  refine x_iload_n d_Pe_whereFrom_1 rfl rfl ?_
  refine x_iload_n d_Pe_whereFrom_2 rfl rfl ?_
  refine x_V1 d_Pe_whereFrom_3 e_Pe_whereFrom_Pe_doseFrom ⟨rfl, rfl, Nat.zero_le _, Nat.zero_le _⟩ rfl rfl rfl rfl (Nat.le_of_ble_eq_true rfl) (c_doseFrom (by omega) hm) ?_
  refine x_iconst (-1) d_Pe_whereFrom_6 rfl ⟨by decide, by decide⟩ ?_
  refine x_icmp_ne (12) d_Pe_whereFrom_7 (by decide) (fun g => ?_) (fun g => ?_)
  · rw [if_neg g]
    generalize hQ : x_is (.inl (some (xI (a_wh h (a_al h c 21) y 22 m p)))) (S0, G) = Q
    refine x_iload_n d_Pe_whereFrom_12 rfl rfl ?_
    refine x_istore d_Pe_whereFrom_13 (by decide) ?_
    dsimp only [x_st1, x_st2, x_kill, List.set, List.getElem?_cons_zero, List.getElem?_cons_succ]
    refine x_iload_n d_Pe_whereFrom_15 rfl rfl ?_
    refine x_istore d_Pe_whereFrom_16 (by decide) ?_
    dsimp only [x_st1, x_st2, x_kill, List.set, List.getElem?_cons_zero, List.getElem?_cons_succ]
    refine x_iconst (0) d_Pe_whereFrom_18 rfl ⟨by decide, by decide⟩ ?_
    refine x_istore d_Pe_whereFrom_19 (by decide) ?_
    dsimp only [x_st1, x_st2, x_kill, List.set, List.getElem?_cons_zero, List.getElem?_cons_succ]
    have loop : ∀ n k (m' p' : Nat) z7, k + n = 22 → k ≤ 21 → k ≤ m' → m' ≤ 20 → p' < h.2 0 → G pe_doses (8 * m' + p') ≠ -1 → a_wh h (a_al h c 21) y 22 m p = a_wh h (a_al h c 21) y n m' p' → x_A y_Pe_whereFrom 21 [some oPe, some (xI (p : Int)), some (xI (m : Int)), some (xI (y : Int)), some (xI (p' : Int)), some (xI (m' : Int)), some (xI (k : Int)), z7] [] (S0, G) 0 0 Q := by
      intro n
      induction n with
      | zero => intro k m' p' z7 h1 h2 h3 h4 h5 h6 h7; omega
      | succ n ih =>
        intro k m' p' z7 h1 h2 h3 h4 h5 h6 h7
        have ew : a_wh h (a_al h c 21) y (n + 1) m' p' = if y ≤ m' then (if m' = y then (p' : Int) else -1) else if (a_al h c 21 (8 * m' + p')).2.2 = 0 then -1 else if (a_al h c 21 (8 * m' + p')).2.2 = 1 then a_wh h (a_al h c 21) y n (m' + 1) p' else a_wh h (a_al h c 21) y n ((m' : Int) + h.1 1 ((a_al h c 21 (8 * m' + p')).2.2 - 2).toNat 2 * h.1 9 0 1).toNat (f_oth h p' ((a_al h c 21 (8 * m' + p')).2.2 - 2).toNat).toNat := rfl
        rw [ew] at h7
        have fin : y ≤ m' → x_A y_Pe_whereFrom 110 [some oPe, some (xI (p : Int)), some (xI (m : Int)), some (xI (y : Int)), some (xI (p' : Int)), some (xI (m' : Int)), some (xI (k : Int)), z7] [] (S0, G) 0 0 Q := by
          intro hy'
          rw [if_pos hy'] at h7
          refine x_iload d_Pe_whereFrom_110 rfl ?_
          refine x_iload_n d_Pe_whereFrom_112 rfl rfl ?_
          refine x_icmp_ne (121) d_Pe_whereFrom_113 (by decide) (fun g5 => ?_) (fun g5 => ?_)
          · rw [if_neg (by omega)] at h7
            refine x_iconst (-1) d_Pe_whereFrom_121 rfl ⟨by decide, by decide⟩ ?_
            refine x_ireturn d_Pe_whereFrom_122 rfl ?_ (Nat.zero_le _) (Nat.zero_le _)
            rw [← hQ, h7]
            exact ⟨rfl, rfl⟩
          · rw [if_pos (by omega)] at h7
            refine x_iload d_Pe_whereFrom_116 rfl ?_
            refine x_goto (122) d_Pe_whereFrom_118 (by decide) ?_
            refine x_ireturn d_Pe_whereFrom_122 rfl ?_ (Nat.zero_le _) (Nat.zero_le _)
            rw [← hQ, h7]
            exact ⟨rfl, rfl⟩
        refine x_iload d_Pe_whereFrom_21 rfl ?_
        refine x_bipush (21) d_Pe_whereFrom_23 rfl ⟨by decide, by decide⟩ ?_
        refine x_icmp_ge (110) d_Pe_whereFrom_25 (by decide) (fun g1 => ?_) (fun g1 => ?_)
        · exact fin (by omega)
        · refine x_iload d_Pe_whereFrom_28 rfl ?_
          refine x_iload_n d_Pe_whereFrom_30 rfl rfl ?_
          refine x_icmp_ge (110) d_Pe_whereFrom_31 (by decide) (fun g2 => ?_) (fun g2 => ?_)
          · exact fin (by omega)
          · rw [if_neg (by omega)] at h7
            have cor := hr m' p' h4 h5
            have val := a_al_V hh hc h4 h5
            generalize hz : a_al h c 21 (8 * m' + p') = z at *
            rcases cor with ⟨k1, k2⟩ | ⟨k1, k2, k3⟩
            · exact absurd k2 h6
            · have k1' : 0 ≤ G pe_doses (8 * m' + p') := k1
              have k2' : G pe_doses (8 * m' + p') ≤ 42000000 := k2
              have z1 : z.1 = 0 + G pe_doses (8 * m' + p') := by rw [k3]; rfl
              have z3 : G pe_deeds (8 * m' + p') = z.2.2 := by rw [k3]; rfl
              have val := val (by omega)
              refine x_aload_n d_Pe_whereFrom_34 rfl rfl ?_
              refine x_getF (kf := 4) d_Pe_whereFrom_35 rfl rfl rfl in_Pe f_Pe_18 ?_
              refine x_iload d_Pe_whereFrom_38 rfl ?_
              refine x_iload d_Pe_whereFrom_40 rfl ?_
              refine x_SN1 d_Pe_whereFrom_42 e_Pe_whereFrom_F_spot ⟨rfl, rfl, Nat.zero_le _, Nat.zero_le _⟩ rfl rfl (Nat.le_of_ble_eq_true rfl) (c_spot _ _ _ (by omega) (by omega)) ?_
              refine x_ialdN ((8 * m' + p')) d_Pe_whereFrom_45 rfl (by omega) (by omega) ?_
              rw [z3]
              refine x_istore d_Pe_whereFrom_46 (by decide) ?_
              dsimp only [x_st1, x_st2, x_kill, List.set, List.getElem?_cons_zero, List.getElem?_cons_succ]
              refine x_iload d_Pe_whereFrom_48 rfl ?_
              rcases val with v | ⟨v1, v2, v3⟩ | ⟨w, v1, v2, v3, v4, v5⟩
              · rw [if_pos v] at h7
                refine x_if_ne (55) d_Pe_whereFrom_50 (by decide) (fun g3 => ?_) (fun g3 => ?_)
                · exact absurd v g3
                · refine x_iconst (-1) d_Pe_whereFrom_53 rfl ⟨by decide, by decide⟩ ?_
                  refine x_ireturn d_Pe_whereFrom_54 rfl ?_ (Nat.zero_le _) (Nat.zero_le _)
                  rw [← hQ, h7]
                  exact ⟨rfl, rfl⟩
              · rw [if_neg (by omega), if_pos v1] at h7
                rw [v1]
                have nx := hr (m' + 1) p' (by omega) h5
                rw [show 8 * (m' + 1) + p' = 8 * m' + p' + 8 by omega] at nx
                refine x_if_ne (55) d_Pe_whereFrom_50 (by decide) (fun g3 => ?_) (fun g3 => ?_)
                · refine x_iload d_Pe_whereFrom_55 rfl ?_
                  refine x_aload_n d_Pe_whereFrom_57 rfl rfl ?_
                  refine x_iload d_Pe_whereFrom_58 rfl ?_
                  refine x_V1 d_Pe_whereFrom_60 e_Pe_whereFrom_Pe_takes ⟨rfl, rfl, Nat.zero_le _, Nat.zero_le _⟩ rfl rfl rfl rfl (Nat.le_of_ble_eq_true rfl) (c_takes1) ?_
                  refine x_iaddN d_Pe_whereFrom_63 (by omega) (by omega) ?_
                  refine x_istore d_Pe_whereFrom_64 (by decide) ?_
                  dsimp only [x_st1, x_st2, x_kill, List.set, List.getElem?_cons_zero, List.getElem?_cons_succ]
                  refine x_iload d_Pe_whereFrom_66 rfl ?_
                  refine x_iconst (1) d_Pe_whereFrom_68 rfl ⟨by decide, by decide⟩ ?_
                  refine x_icmp_ne (77) d_Pe_whereFrom_69 (by decide) (fun g4 => ?_) (fun g4 => ?_)
                  · exact absurd rfl g4
                  · refine x_iload d_Pe_whereFrom_72 rfl ?_
                    refine x_goto (90) d_Pe_whereFrom_74 (by decide) ?_
                    refine x_istore d_Pe_whereFrom_90 (by decide) ?_
                    dsimp only [x_st1, x_st2, x_kill, List.set, List.getElem?_cons_zero, List.getElem?_cons_succ]
                    refine x_iload d_Pe_whereFrom_92 rfl ?_
                    refine x_iload d_Pe_whereFrom_94 rfl ?_
                    refine x_S1 d_Pe_whereFrom_96 e_Pe_whereFrom_Pe_isPlace ⟨rfl, rfl, Nat.zero_le _, Nat.zero_le _⟩ rfl rfl (Nat.le_of_ble_eq_true rfl) (c_isPlace _ _ _) ?_
                    rw [decide_eq_true (show 0 ≤ (p' : Int) ∧ (p' : Int) < 8 ∧ 0 ≤ (m' : Int) + 1 ∧ (m' : Int) + 1 < 21 from by omega)]
                    refine x_if_ne (104) d_Pe_whereFrom_99 (by decide) (fun g5 => ?_) (fun g5 => ?_)
                    · refine x_iincN d_Pe_whereFrom_104 rfl (by decide) (by omega) (by omega) ?_
                      dsimp only [x_st1, x_st2, x_kill, List.set, List.getElem?_cons_zero, List.getElem?_cons_succ]
                      refine x_goto (21) d_Pe_whereFrom_107 (by decide) ?_
                      refine ih (k + 1) (m' + 1) p' _ (by omega) (by omega) (by omega) (by omega) h5 ?_ h7
                      rcases nx with ⟨q1, q2⟩ | ⟨q1, q2, q3⟩
                      · rw [q1] at v3; exact absurd v3 (by decide)
                      · rw [show 8 * (m' + 1) + p' = 8 * m' + p' + 8 by omega]
                        have q1' : 0 ≤ G pe_doses (8 * m' + p' + 8) := q1
                        omega
                    · exact absurd (show b2i true = 0 from by omega) (by decide)
                · exact absurd g3 (by decide)
              · rw [if_neg (by omega), if_neg (by omega)] at h7
                have ew : (z.2.2 - 2).toNat = w := by omega
                rw [ew] at h7
                have bw := w_wk hh v1
                have bo := f_oth_bd hh (p' : Int) v1
                have nx := hr ((m' : Int) + h.1 1 w 2 * h.1 9 0 1).toNat (f_oth h p' w).toNat (by omega) (by omega)
                unfold a_ix at v5
                have ct := c_takes hh r w v1 (a := z.2.2) v2
                have co := c_otherEnd hh r w v1 (p' : Int)
                rw [show f_end h (p' : Int) w = f_oth h p' w from if_pos v3] at co
                generalize h.1 1 w 2 * h.1 9 0 1 = tk at *
                refine x_if_ne (55) d_Pe_whereFrom_50 (by decide) (fun g3 => ?_) (fun g3 => ?_)
                · refine x_iload d_Pe_whereFrom_55 rfl ?_
                  refine x_aload_n d_Pe_whereFrom_57 rfl rfl ?_
                  refine x_iload d_Pe_whereFrom_58 rfl ?_
                  refine x_V1 d_Pe_whereFrom_60 e_Pe_whereFrom_Pe_takes ⟨rfl, rfl, Nat.zero_le _, Nat.zero_le _⟩ rfl rfl rfl rfl (Nat.le_of_ble_eq_true rfl) (ct) ?_
                  refine x_iaddN d_Pe_whereFrom_63 (by omega) (by omega) ?_
                  refine x_istore d_Pe_whereFrom_64 (by decide) ?_
                  dsimp only [x_st1, x_st2, x_kill, List.set, List.getElem?_cons_zero, List.getElem?_cons_succ]
                  refine x_iload d_Pe_whereFrom_66 rfl ?_
                  refine x_iconst (1) d_Pe_whereFrom_68 rfl ⟨by decide, by decide⟩ ?_
                  refine x_icmp_ne (77) d_Pe_whereFrom_69 (by decide) (fun g4 => ?_) (fun g4 => ?_)
                  · refine x_aload_n d_Pe_whereFrom_77 rfl rfl ?_
                    refine x_getF (kf := 0) d_Pe_whereFrom_78 rfl rfl rfl in_Pe f_Pe_21 ?_
                    refine x_iload d_Pe_whereFrom_81 rfl ?_
                    refine x_iconst (2) d_Pe_whereFrom_83 rfl ⟨by decide, by decide⟩ ?_
                    refine x_isubN d_Pe_whereFrom_84 (by omega) (by omega) ?_
                    refine x_iload d_Pe_whereFrom_85 rfl ?_
                    rw [show z.2.2 - 2 = (w : Int) by omega]
                    refine x_V1 d_Pe_whereFrom_87 e_Pe_whereFrom_Ho_otherEnd ⟨rfl, rfl, Nat.zero_le _, Nat.zero_le _⟩ rfl rfl rfl rfl (Nat.le_of_ble_eq_true rfl) (co) ?_
                    refine x_istore d_Pe_whereFrom_90 (by decide) ?_
                    dsimp only [x_st1, x_st2, x_kill, List.set, List.getElem?_cons_zero, List.getElem?_cons_succ]
                    refine x_iload d_Pe_whereFrom_92 rfl ?_
                    refine x_iload d_Pe_whereFrom_94 rfl ?_
                    refine x_S1 d_Pe_whereFrom_96 e_Pe_whereFrom_Pe_isPlace ⟨rfl, rfl, Nat.zero_le _, Nat.zero_le _⟩ rfl rfl (Nat.le_of_ble_eq_true rfl) (c_isPlace _ _ _) ?_
                    rw [decide_eq_true (show 0 ≤ f_oth h p' w ∧ f_oth h p' w < 8 ∧ 0 ≤ (m' : Int) + tk ∧ (m' : Int) + tk < 21 from by omega)]
                    refine x_if_ne (104) d_Pe_whereFrom_99 (by decide) (fun g5 => ?_) (fun g5 => ?_)
                    · refine x_iincN d_Pe_whereFrom_104 rfl (by decide) (by omega) (by omega) ?_
                      dsimp only [x_st1, x_st2, x_kill, List.set, List.getElem?_cons_zero, List.getElem?_cons_succ]
                      refine x_goto (21) d_Pe_whereFrom_107 (by decide) ?_
                      have := ih (k + 1) ((m' : Int) + tk).toNat (f_oth h p' w).toNat (some (xI z.2.2)) (by omega) (by omega) (by omega) (by omega) (by omega) (by
                        rcases nx with ⟨q1, q2⟩ | ⟨q1, q2, q3⟩
                        · rw [q1] at v5; exact absurd v5 (by decide)
                        · have q1' : 0 ≤ G pe_doses (8 * ((m' : Int) + tk).toNat + (f_oth h p' w).toNat) := q1
                          omega) h7
                      rw [show (((m' : Int) + tk).toNat : Int) = (m' : Int) + tk by omega, show ((f_oth h p' w).toNat : Int) = f_oth h p' w by omega] at this
                      exact this
                    · exact absurd (show b2i true = 0 from by omega) (by decide)
                  · omega
                · omega
    exact loop 22 0 m p none (by omega) (by omega) (by omega) hm hp g rfl
  · rw [if_pos (by omega)]
    refine x_iconst (-1) d_Pe_whereFrom_10 rfl ⟨by decide, by decide⟩ ?_
    refine x_ireturn d_Pe_whereFrom_11 rfl ?_ (Nat.zero_le _) (Nat.zero_le _)
    exact ⟨rfl, rfl⟩
end CPe3
