/-! the reference: most, outBy -/
/-- V is the least of all that a side can be worth -/
def isMin (F : (Nat → Bool) → Int) (V : Int) : Prop := (∃ S, nOut S ∧ F S = V) ∧ ∀ S, nOut S → V ≤ F S
theorem isMin.uniq {F : (Nat → Bool) → Int} {V W : Int} (a : isMin F V) (b : isMin F W) : V = W := by
  obtain ⟨⟨S, s1, s2⟩, s3⟩ := a
  obtain ⟨⟨T, t1, t2⟩, t3⟩ := b
  have := s3 T t1
  have := t3 S s1
  omega
def mMost (F : (Nat → Bool) → Int) (G : Nat → Nat → Int) : Option XV → XM → Prop := fun v τ => ∃ G' N L V, τ = (S0, G') ∧ nFrame G G' ∧ nWf N ∧ mNet N L G' ∧ fOK N L V ∧ (∀ S, cut N S = F S) ∧ isMin F V ∧ (∃ S, nOut S ∧ nShut N L S) ∧ v = some (xI V)
theorem s_most {h : HH} {G : Nat → Nat → Int} (hh : Hwf h) (r : mRep h G) (by' times : Nat) (set : Int) (hb : by' ≤ 20) (ht : 1 ≤ times ∧ times ≤ 3) : x_M y_M_most [oM, xI (by' : Int), xI (times : Int), xI set] (S0, G) (fun r τ => ∃ v, r = .inl v ∧ mMost (cutF h (fun m p => decide (h.1 9 0 0 < G m_mixed (8 * m + p))) by' times set) G v τ) := by
  refine x_of 1 rfl (Nat.le_of_ble_eq_true rfl) ?_
  show x_A y_M_most 0 [some oM, some (xI (by' : Int)), some (xI (times : Int)), some (xI set), none] [] (S0, G) 0 0 _
  generalize hF : cutF h (fun m p => decide (h.1 9 0 0 < G m_mixed (8 * m + p))) by' times set = F
  generalize hQ : (fun (r : XRes) (τ : XM) => ∃ v, r = .inl v ∧ mMost F G v τ) = Q
  refine x_aload_n d_M_most_0 rfl rfl ?_
  refine x_iload_n d_M_most_1 rfl rfl ?_
  refine x_iload_n d_M_most_2 rfl rfl ?_
  refine x_iload_n d_M_most_3 rfl rfl ?_
  refine x_VQ d_M_most_4 e_M_most_M_lays ⟨rfl, rfl, Nat.zero_le _, Nat.zero_le _⟩ rfl rfl rfl rfl (Nat.le_of_ble_eq_true rfl) (s_lays hh r by' times set hb ht) (fun v τ hv => ?_)
  obtain ⟨rfl, G1, rfl, N, w1, w2, w3, w4, w5⟩ := hv
  rw [hF] at w4
  show x_A y_M_most 7 [some oM, some (xI (by' : Int)), some (xI (times : Int)), some (xI set), none] [] (S0, G1) 0 0 Q
  refine x_iconst (0) d_M_most_7 rfl ⟨by decide, by decide⟩ ?_
  refine x_istore d_M_most_8 (by decide) ?_
  dsimp only [x_st1, x_st2, x_kill, List.set, List.getElem?_cons_zero, List.getElem?_cons_succ]
  have hK := w1.1
  obtain ⟨B, hB⟩ : ∃ B, B = cut N (fun n => decide (n = 336)) := ⟨_, rfl⟩
  have bB : ∀ {L s}, fOK N L s → s ≤ B := fun h => by rw [hB]; exact f_le h ⟨rfl, rfl⟩
  have bB2 : B ≤ 1200000000 := by
    rw [hB]
    have := su_bd (f := fun k => ind (fun n => decide (n = 336)) (N.2.1 k) (N.2.2.1 k) (N.2.2.2 k)) (c := 0) (d := 1000000) (n := N.1) (fun k hk => by have := w1.2 k hk; unfold ind; split <;> omega)
    have h2 : (N.1 : Int) * 1000000 ≤ 1200 * 1000000 := Int.mul_le_mul_of_nonneg_right (by omega) (by omega)
    unfold cut
    omega
  have all : ∀ (fuel : Nat) (sum : Int) (L : Nat → Int) (G' : Nat → Nat → Int), B - sum < fuel → 0 ≤ sum → nFrame G G' → mNet N L G' → fOK N L sum → x_A y_M_most 10 [some oM, some (xI (by' : Int)), some (xI (times : Int)), some (xI set), some (xI sum)] [] (S0, G') 0 0 Q := by
    intro fuel
    induction fuel with
    | zero =>
      intro sum L G' h1 h2 h3 h4 h5
      have := bB h5
      omega
    | succ fuel ih =>
      intro sum L G' h1 h2 h3 h4 h5
      have bs := bB h5
      have hL : ∀ e, e < 2 * N.1 → 0 ≤ L e := fun e he' => by have := lCut_bd w1 h5 e; rw [lCut_eq he'] at this; exact this.1
      refine x_aload_n d_M_most_10 rfl rfl ?_
      refine x_VQ d_M_most_11 e_M_most_M_layers ⟨rfl, rfl, Nat.zero_le _, Nat.zero_le _⟩ rfl rfl rfl rfl (Nat.le_of_ble_eq_true rfl) (s_layers w1 h4 hL) (fun v τ hv => ?_)
      obtain ⟨G2, rfl, g1, g2, rfl⟩ := hv
      show x_A y_M_most 14 [some oM, some (xI (by' : Int)), some (xI (times : Int)), some (xI set), some (xI sum)] [xI (if G2 m_far 336 = -1 then 0 else 1)] (S0, G2) 0 0 Q
      have f2 : nFrame G G2 := h3.trans ⟨fun i q1 q2 => g1 i (by intro z; subst z; exact absurd q2 (by decide)) (by intro z; subst z; exact absurd q2 (by decide)), fun k _ => by rw [g1 o_M (by decide) (by decide)]⟩
      have n2 : mNet N L G2 := ⟨by rw [g1 o_M (by decide) (by decide)]; exact h4.1, by rw [g1 m_to (by decide) (by decide), g1 m_behind (by decide) (by decide), g1 m_left (by decide) (by decide)]; exact h4.2.1, by rw [g1 m_head (by decide) (by decide)]; exact h4.2.2⟩
      refine x_if_eq (29) d_M_most_14 (by decide) (fun c0 => ?_) (fun c0 => ?_)
      · have c1 : G2 m_far 336 = -1 := by
          apply Classical.byContradiction
          intro z
          rw [if_neg z] at c0
          exact absurd c0 (by decide)
        refine x_iload d_M_most_29 rfl ?_
        refine x_ireturn d_M_most_31 rfl ?_ (Nat.zero_le _) (Nat.zero_le _)
        rw [← hQ]
        have so : nOut (fun n => decide (G2 m_far n = -1)) := ⟨decide_eq_true c1, decide_eq_false (by rw [g2.1]; decide)⟩
        have ss : nShut N L (fun n => decide (G2 m_far n = -1)) := fun e he' a1 a2 => decide_eq_true (g2.2.2.2 e he' (of_decide_eq_true a1) a2)
        exact ⟨_, rfl, G2, N, L, sum, rfl, f2, w1, n2, h5, w4, ⟨⟨_, so, by rw [← w4]; exact (f_eq h5 so ss).symm⟩, fun S hS => by rw [← w4]; exact f_le h5 hS⟩, ⟨_, so, ss⟩, rfl⟩
      · have c1 : G2 m_far 336 ≠ -1 := fun z => by rw [if_pos z] at c0; exact c0 rfl
        refine x_iload d_M_most_17 rfl ?_
        refine x_aload_n d_M_most_19 rfl rfl ?_
        refine x_VQ d_M_most_20 e_M_most_M_pushes ⟨rfl, rfl, Nat.zero_le _, Nat.zero_le _⟩ rfl rfl rfl rfl (Nat.le_of_ble_eq_true rfl) (s_pushes w1 n2 h5 h2 g2 c1) (fun v τ hv => ?_)
        obtain ⟨G3, L3, s3, rfl, k1, k2, k3, k4, k5, rfl⟩ := hv
        show x_A y_M_most 23 [some oM, some (xI (by' : Int)), some (xI (times : Int)), some (xI set), some (xI sum)] [xI s3, xI sum] (S0, G3) 0 0 Q
        have b3 := bB k3
        refine x_iaddN d_M_most_23 (by omega) (by omega) ?_
        refine x_istore d_M_most_24 (by decide) ?_
        dsimp only [x_st1, x_st2, x_kill, List.set, List.getElem?_cons_zero, List.getElem?_cons_succ]
        refine x_goto (10) d_M_most_26 (by decide) ?_
        refine ih (sum + s3) L3 G3 (by omega) (by omega) (f2.trans ⟨fun i q1 q2 => k1 i (by intro z; subst z; exact absurd q2 (by decide)) (by intro z; subst z; exact absurd q2 (by decide)) (by intro z; subst z; exact absurd q2 (by decide)), fun k _ => by rw [k1 o_M (by decide) (by decide) (by decide)]⟩) ⟨by rw [k1 o_M (by decide) (by decide) (by decide)]; exact n2.1, fun e he' => ⟨by rw [k1 m_to (by decide) (by decide) (by decide)]; exact (n2.2.1 e he').1, by rw [k1 m_behind (by decide) (by decide) (by decide)]; exact (n2.2.1 e he').2.1, k2 e he'⟩, by rw [k1 m_head (by decide) (by decide) (by decide)]; exact n2.2.2⟩ k3
  exact all (B.toNat + 1) 0 (L0 N) G1 (by omega) (Int.le_refl 0) w5 w3 (fOK_0 w1)
/-- shut, by the smoke of a course and a fire -/
def f_sh (h : HH) (c : CC) : Nat → Nat → Bool := fun m p => decide (h.1 9 0 0 < (sk h c m).2.1 p)
theorem cutF_sh {h : HH} {s1 s2 : Nat → Nat → Bool} {by' times : Nat} {set : Int} (e : ∀ m p, m ≤ by' → p < h.2 0 → s1 m p = s2 m p) (S : Nat → Bool) : cutF h s1 by' times set S = cutF h s2 by' times set S := by
  unfold cutF
  congr 1
  refine su_congr (fun m hm => ?_)
  unfold kM
  congr 1
  refine su_congr (fun p hp => ?_)
  unfold kP
  rw [e m p (by omega) hp]
theorem mSmoke.shut {h : HH} {c : CC} {G : Nat → Nat → Int} (hs : mSmoke h c G) {m p : Nat} (hm : m ≤ 20) (hp : p < 8) : decide (h.1 9 0 0 < G m_mixed (8 * m + p)) = f_sh h c m p := by
  unfold f_sh
  rw [((hs.1 m hm).1 p hp).2]
/-- smoke and net may be otherwise behind it -/
def bFrame (G G' : Nat → Nat → Int) : Prop := (∀ i, i ≠ o_M → (i < m_above ∨ m_left < i) → G' i = G i) ∧ ∀ k, k ≠ 68 → G' o_M k = G o_M k
theorem bFrame.of {G1 G2 G3 : Nat → Nat → Int} (a : mFrame G1 G2) (b : nFrame G2 G3) : bFrame G1 G3 :=
  ⟨fun i h1 h2 => (b.1 i h1 (by have : m_above < m_head := (by decide); omega)).trans (a i (by have : m_washed < m_left := (by decide); omega)), fun k hk => (b.2 k hk).trans (by rw [a o_M (Or.inl (by decide))])⟩
def mOut (h : HH) (c : CC) (by' times : Nat) (set : Int) (G : Nat → Nat → Int) : Option XV → XM → Prop := fun v τ => ∃ G' N L V, τ = (S0, G') ∧ bFrame G G' ∧ mSmoke h c G' ∧ nWf N ∧ mNet N L G' ∧ fOK N L V ∧ (∀ S, cut N S = cutF h (f_sh h c) by' times set S) ∧ isMin (cutF h (f_sh h c) by' times set) V ∧ (∃ S, nOut S ∧ nShut N L S) ∧ v = some (xI V)
theorem mSmoke.net {h : HH} {c : CC} {G G' : Nat → Nat → Int} (hs : mSmoke h c G) (f : nFrame G G') : mSmoke h c G' := by
  unfold mSmoke
  rw [f.1 m_above (by decide) (Or.inl (by decide)), f.1 m_mixed (by decide) (Or.inl (by decide)), f.1 m_air (by decide) (Or.inl (by decide)), f.1 m_gave (by decide) (Or.inl (by decide)), f.1 m_gone (by decide) (Or.inl (by decide)), f.1 m_washed (by decide) (Or.inl (by decide)), f.1 m_lostAt (by decide) (Or.inl (by decide))]
  exact hs
theorem s_outBy {h : HH} {G : Nat → Nat → Int} (hh : Hwf h) (r : mRep h G) (c : CC) (hc : -1 ≤ c.2.2.2 ∧ c.2.2.2 < h.2 2) (by' : Nat) (hb : by' ≤ 20) : x_M y_M_outBy [oM, xI c.1, xI c.2.1, xI c.2.2.1, xI c.2.2.2, xI (by' : Int)] (S0, G) (fun r τ => ∃ v, r = .inl v ∧ mOut h c by' (h.1 9 0 1).toNat (f_made h (h.2 6)) G v τ) := by
  refine x_of 0 rfl (Nat.le_of_ble_eq_true rfl) ?_
  show x_A y_M_outBy 0 [some oM, some (xI c.1), some (xI c.2.1), some (xI c.2.2.1), some (xI c.2.2.2), some (xI (by' : Int))] [] (S0, G) 0 0 _
  generalize hQ : (fun (r : XRes) (τ : XM) => ∃ v, r = .inl v ∧ mOut h c by' (h.1 9 0 1).toNat (f_made h (h.2 6)) G v τ) = Q
  have dl := hh.2.2.2.2.2.2.2.2.2.2
  obtain ⟨t, et⟩ : ∃ t : Nat, h.1 9 0 1 = t := ⟨(h.1 9 0 1).toNat, by omega⟩
  rw [et, Int.toNat_natCast] at hQ
  refine x_aload_n d_M_outBy_0 rfl rfl ?_
  refine x_iload_n d_M_outBy_1 rfl rfl ?_
  refine x_iload_n d_M_outBy_2 rfl rfl ?_
  refine x_iload_n d_M_outBy_3 rfl rfl ?_
  refine x_iload d_M_outBy_4 rfl ?_
  refine x_VQ d_M_outBy_6 e_M_outBy_M_burns ⟨rfl, rfl, Nat.zero_le _, Nat.zero_le _⟩ rfl rfl rfl rfl (Nat.le_of_ble_eq_true rfl) (s_burns hh r c hc) (fun v τ hv => ?_)
  obtain ⟨rfl, G1, rfl, f1, sm⟩ := hv
  show x_A y_M_outBy 9 [some oM, some (xI c.1), some (xI c.2.1), some (xI c.2.2.1), some (xI c.2.2.2), some (xI (by' : Int))] [] (S0, G1) 0 0 Q
  have r1 := f1.rep r
  have e1 := r1.2.2.2.2.2.2.2.2.2.2
  refine x_aload_n d_M_outBy_9 rfl rfl ?_
  refine x_iload d_M_outBy_10 rfl ?_
  refine x_aload_n d_M_outBy_12 rfl rfl ?_
  refine x_getIG (kf := 11) d_M_outBy_13 rfl rfl rfl in_M f_M_13 ?_
  rw [e1.2.1, et]
  refine x_aload_n d_M_outBy_16 rfl rfl ?_
  refine x_V1 d_M_outBy_17 e_M_outBy_M_made ⟨rfl, rfl, Nat.zero_le _, Nat.zero_le _⟩ rfl rfl rfl rfl (Nat.le_of_ble_eq_true rfl) (s_made hh r1) ?_
  refine x_VQ d_M_outBy_20 e_M_outBy_M_most ⟨rfl, rfl, Nat.zero_le _, Nat.zero_le _⟩ rfl rfl rfl rfl (Nat.le_of_ble_eq_true rfl) (s_most hh r1 by' t (f_made h (h.2 6)) hb (by omega)) (fun v τ hv => ?_)
  obtain ⟨G2, N, L, V, rfl, g1, g2, g3, g4, g5, g6, g7, rfl⟩ := hv
  show x_A y_M_outBy 23 [some oM, some (xI c.1), some (xI c.2.1), some (xI c.2.2.1), some (xI c.2.2.2), some (xI (by' : Int))] [xI V] (S0, G2) 0 0 Q
  have b := hh.1
  have ee : ∀ S, cutF h (fun m p => decide (h.1 9 0 0 < G1 m_mixed (8 * m + p))) by' t (f_made h (h.2 6)) S = cutF h (f_sh h c) by' t (f_made h (h.2 6)) S := fun S => cutF_sh (fun m p hm hp => sm.shut (by omega) (by omega)) S
  refine x_ireturn d_M_outBy_23 rfl ?_ (Nat.zero_le _) (Nat.zero_le _)
  rw [← hQ]
  exact ⟨_, rfl, G2, N, L, V, rfl, bFrame.of f1 g1, sm.net g1, g2, g3, g4, fun S => (g5 S).trans (ee S), ⟨by obtain ⟨⟨S, s1, s2⟩, -⟩ := g6; exact ⟨S, s1, (ee S).symm.trans s2⟩, fun S hS => by rw [← ee]; exact g6.2 S hS⟩, g7, rfl⟩
