/-! the least cut: it is there, it lies between 0 and all people, it grows with the minute -/
theorem kP_nn {h : HH} (hh : Hwf h) (sh : Nat → Nat → Bool) (y : Nat) (set : Int) (S : Nat → Bool) (m : Nat) {p : Nat} (hp : p < h.2 0) : 0 ≤ kP h sh y set S m p := by
  have b := hh.2.1 p hp
  have bw := f_wide_bd hh hp set (d := h.2 6) (Nat.le_refl _)
  have i1 := ind_bd S (16 * m + p) (16 * m + 8 + p) (c := h.1 0 p 0) (by omega)
  have i2 := ind_bd S (16 * m + 8 + p) (16 * (m + 1) + p) (c := 1000000) (by omega)
  have i3 := ind_bd S (16 * m + 8 + p) 337 (c := f_wide h p set (h.2 6)) (by omega)
  unfold kP
  split <;> split <;> omega
theorem kW_nn {h : HH} (hh : Hwf h) (y times : Nat) (S : Nat → Bool) (m : Nat) {w : Nat} (hw : w < h.2 1) : 0 ≤ kW h y times S m w := by
  have b := hh.2.2.1 w hw
  unfold kW
  split
  · have i1 := ind_bd S (16 * m + 8 + (h.1 1 w 0).toNat) (16 * ((m : Int) + h.1 1 w 2 * times).toNat + (h.1 1 w 1).toNat) (c := h.1 1 w 3) (by omega)
    have i2 := ind_bd S (16 * m + 8 + (h.1 1 w 1).toNat) (16 * ((m : Int) + h.1 1 w 2 * times).toNat + (h.1 1 w 0).toNat) (c := h.1 1 w 3) (by omega)
    omega
  · omega
theorem kG_nn {h : HH} (hh : Hwf h) (y : Nat) (S : Nat → Bool) {g : Nat} (hg : g < h.2 5) : 0 ≤ kG h y S g := by
  have b := hh.2.2.2.2.2.2.1 g hg
  unfold kG
  split
  · exact (ind_bd _ _ _ (by omega)).1
  · omega
theorem kM_nn {h : HH} (hh : Hwf h) (sh : Nat → Nat → Bool) (y times : Nat) (set : Int) (S : Nat → Bool) (m : Nat) : 0 ≤ kM h sh y times set S m := by
  unfold kM
  have a := su_nonneg (f := kP h sh y set S m) (n := h.2 0) (fun p hp => kP_nn hh sh y set S m hp)
  have b := su_nonneg (f := kW h y times S m) (n := h.2 1) (fun w hw => kW_nn hh y times S m hw)
  omega
theorem cutF_nn {h : HH} (hh : Hwf h) (sh : Nat → Nat → Bool) (y times : Nat) (set : Int) (S : Nat → Bool) : 0 ≤ cutF h sh y times set S := by
  unfold cutF
  have a := su_nonneg (f := kG h y S) (n := h.2 5) (fun g hg => kG_nn hh y S hg)
  have b := su_nonneg (f := kM h sh y times set S) (n := y + 1) (fun m _ => kM_nn hh sh y times set S m)
  omega
theorem cutF_up {h : HH} (hh : Hwf h) (sh : Nat → Nat → Bool) (y times : Nat) (set : Int) (S : Nat → Bool) : cutF h sh y times set S ≤ cutF h sh (y + 1) times set S := by
  have a : su (kG h y S) (h.2 5) ≤ su (kG h (y + 1) S) (h.2 5) := su_mono (fun g hg => by
    have b := hh.2.2.2.2.2.2.1 g hg
    have i1 := ind_bd S 336 (16 * (h.1 5 g 2).toNat + (h.1 5 g 0).toNat) (c := h.1 5 g 1) (by omega)
    unfold kG
    by_cases c : h.1 5 g 2 ≤ (y : Int)
    · rw [if_pos c, if_pos (by omega)]; omega
    · rw [if_neg c]; split <;> omega)
  have b : su (kM h sh y times set S) (y + 1) ≤ su (kM h sh (y + 1) times set S) (y + 1) := su_mono (fun m hm => by
    unfold kM
    have c1 : su (kP h sh y set S m) (h.2 0) ≤ su (kP h sh (y + 1) set S m) (h.2 0) := su_mono (fun p hp => by
      have bw := f_wide_bd hh hp set (d := h.2 6) (Nat.le_refl _)
      have i2 := ind_bd S (16 * m + 8 + p) (16 * (m + 1) + p) (c := 1000000) (by omega)
      have i3 := ind_bd S (16 * m + 8 + p) 337 (c := f_wide h p set (h.2 6)) (by omega)
      unfold kP
      by_cases c : m < y
      · rw [if_pos c, if_pos (show m < y + 1 by omega)]; omega
      · rw [if_neg c, if_pos (show m < y + 1 by omega)]; omega)
    have c2 : su (kW h y times S m) (h.2 1) ≤ su (kW h (y + 1) times S m) (h.2 1) := su_mono (fun w hw => by
      have n := kW_nn hh (y + 1) times S m hw
      unfold kW at n ⊢
      by_cases c : (m : Int) + h.1 1 w 2 * times ≤ (y : Int)
      · rw [if_pos c, if_pos (by omega)]; omega
      · rw [if_neg c]; exact n)
    omega)
  have c := kM_nn hh sh (y + 1) times set S (y + 1)
  unfold cutF
  show _ ≤ su (kG h (y + 1) S) (h.2 5) + (su (kM h sh (y + 1) times set S) (y + 1) + kM h sh (y + 1) times set S (y + 1))
  omega
theorem isMin_ex {F : (Nat → Bool) → Int} (nn : ∀ S, 0 ≤ F S) : ∃ V, isMin F V := by
  have key : ∀ n : Nat, ∀ S, nOut S → F S = n → ∃ V, isMin F V := by
    intro n
    induction n using Nat.strongRecOn with
    | ind n ih =>
      intro S hS e
      by_cases c : ∃ T, nOut T ∧ F T < F S
      · obtain ⟨T, t1, t2⟩ := c
        have := nn T
        exact ih (F T).toNat (by omega) T t1 (by omega)
      · exact ⟨F S, ⟨S, hS, rfl⟩, fun T hT => by
          by_cases c2 : F S ≤ F T
          · exact c2
          · exact absurd ⟨T, hT, by omega⟩ c⟩
  exact key (F (fun n => decide (n = 336))).toNat (fun n => decide (n = 336)) ⟨rfl, rfl⟩ (by have := nn (fun n => decide (n = 336)); omega)
theorem mv_min {h : HH} (hh : Hwf h) (sh : Nat → Nat → Bool) (y times : Nat) (set : Int) : isMin (cutF h sh y times set) (mv (cutF h sh y times set)) := by
  obtain ⟨V, hV⟩ := isMin_ex (fun S => cutF_nn hh sh y times set S)
  rw [mv_eq hV]
  exact hV
theorem mv_bd {h : HH} (hh : Hwf h) (sh : Nat → Nat → Bool) {y : Nat} (hy : y ≤ 20) (times : Nat) (set : Int) : 0 ≤ mv (cutF h sh y times set) ∧ mv (cutF h sh y times set) ≤ f_people h := by
  obtain ⟨⟨S, s1, s2⟩, s3⟩ := mv_min hh sh y times set
  have a := cutF_nn hh sh y times set S
  have b := s3 (fun n => decide (n = 336)) ⟨rfl, rfl⟩
  have c := cutF_src hh sh y times set hy
  omega
theorem f_out_b {h : HH} (hh : Hwf h) (c : CC) {y : Nat} (hy : y ≤ 20) (set : Int) : 0 ≤ f_out h c y set ∧ f_out h c y set ≤ f_people h := mv_bd hh _ hy _ _
theorem f_out_up {h : HH} (hh : Hwf h) (c : CC) {y z : Nat} (hz : y ≤ z) (set : Int) : f_out h c y set ≤ f_out h c z set := by
  induction hz with
  | refl => exact Int.le_refl _
  | @step z _ ih =>
    obtain ⟨⟨S, s1, s2⟩, -⟩ := mv_min hh (f_sh h c) (z + 1) (h.1 9 0 1).toNat set
    have a := (mv_min hh (f_sh h c) z (h.1 9 0 1).toNat set).2 S s1
    have b := cutF_up hh (f_sh h c) z (h.1 9 0 1).toNat set S
    unfold f_out at ih ⊢
    show _ ≤ mv (cutF h (f_sh h c) (z + 1) (h.1 9 0 1).toNat set)
    omega
theorem f_bo_b {h : HH} (hh : Hwf h) (f : Int) {y : Nat} (hy : y ≤ 20) (p : Nat) : 0 ≤ f_bo h f y p ∧ f_bo h f y p ≤ 600 := by
  have pb := f_people_bd hh
  induction p with
  | zero => show 0 ≤ (0 : Int) ∧ (0 : Int) ≤ 600; omega
  | succ p ih =>
    have := f_out_b hh ((p : Int), (p : Int), 0, f) hy (f_made h (h.2 6))
    rw [f_bo_s]
    omega
section CU2
variable {h : HH} {G : Nat → Nat → Int}
theorem c_regretOf (hh : Hwf h) (q : cQ h G) (a b k fi y : Nat) (ha : a < 4) (hb : b < 4) (hk : k ≤ 21) (hfi : fi < 5) (hf : f_fi fi < h.2 2) (hy : y ≤ 20) :
    x_M y_Tu_regretOf [oTu, xI (a : Int), xI (b : Int), xI (k : Int), xI (f_fi fi), xI (y : Int)] (S0, G) (fun r τ => ∃ v, r = .inl v ∧ mTO h (f_bo h (f_fi fi) y 4 - f_out h ((a : Int), (b : Int), (k : Int), f_fi fi) y (f_made h (h.2 6))) G v τ) := by
  have pb := f_people_bd hh
  refine x_of 2 rfl (Nat.le_of_ble_eq_true rfl) ?_
  show x_A y_Tu_regretOf 0 [some oTu, some (xI (a : Int)), some (xI (b : Int)), some (xI (k : Int)), some (xI (f_fi fi)), some (xI (y : Int)), none, none] [] (S0, G) 0 0 _
  generalize hQ : (fun (r : XRes) (τ : XM) => ∃ v, r = .inl v ∧ mTO h (f_bo h (f_fi fi) y 4 - f_out h ((a : Int), (b : Int), (k : Int), f_fi fi) y (f_made h (h.2 6))) G v τ) = Q
  refine x_iconst (0) d_Tu_regretOf_0 rfl ⟨by decide, by decide⟩ ?_
  refine x_istore d_Tu_regretOf_1 (by decide) ?_
  dsimp only [x_st1, x_st2, x_kill, List.set, List.getElem?_cons_zero, List.getElem?_cons_succ]
  refine x_iconst (0) d_Tu_regretOf_3 rfl ⟨by decide, by decide⟩ ?_
  refine x_istore d_Tu_regretOf_4 (by decide) ?_
  dsimp only [x_st1, x_st2, x_kill, List.set, List.getElem?_cons_zero, List.getElem?_cons_succ]
  refine x_up_to (P := fun i => ∀ G', oFrame G G' → cQ h G' → x_A y_Tu_regretOf 6 [some oTu, some (xI (a : Int)), some (xI (b : Int)), some (xI (k : Int)), some (xI (f_fi fi)), some (xI (y : Int)), some (xI (f_bo h (f_fi fi) y i)), some (xI (i : Int))] [] (S0, G') 0 0 Q) 0 4 (Nat.zero_le _) (fun G' f1 f2 => ?_) (fun i _ hi k' G' f1 f2 => ?_) G (oFrame.rf G) q
  · refine x_iload d_Tu_regretOf_6 rfl ?_
    refine x_iconst (4) d_Tu_regretOf_8 rfl ⟨by decide, by decide⟩ ?_
    refine x_icmp_ge (38) d_Tu_regretOf_9 (by decide) (fun g => ?_) (fun g => ?_)
    · refine x_iload d_Tu_regretOf_38 rfl ?_
      refine x_aload_n d_Tu_regretOf_40 rfl rfl ?_
      refine x_iload_n d_Tu_regretOf_41 rfl rfl ?_
      refine x_iload_n d_Tu_regretOf_42 rfl rfl ?_
      refine x_iload_n d_Tu_regretOf_43 rfl rfl ?_
      refine x_iload d_Tu_regretOf_44 rfl ?_
      refine x_iload d_Tu_regretOf_46 rfl ?_
      refine x_VQ d_Tu_regretOf_48 e_Tu_regretOf_Tu_outBy ⟨rfl, rfl, Nat.zero_le _, Nat.zero_le _⟩ rfl rfl rfl rfl (Nat.le_of_ble_eq_true rfl) (c_outBy hh f2 a b k fi y ha hb hk hfi hf hy) (fun v τ hv => ?_)
      obtain ⟨rfl, G2, rfl, e1, e2⟩ := hv
      show x_A y_Tu_regretOf 51 _ [xI (f_out h ((a : Int), (b : Int), (k : Int), f_fi fi) y (f_made h (h.2 6))), xI (f_bo h (f_fi fi) y 4)] (S0, G2) 0 0 Q
      have b1 := f_out_b hh ((a : Int), (b : Int), (k : Int), f_fi fi) hy (f_made h (h.2 6))
      have b2 := f_bo_b hh (f_fi fi) hy 4
      refine x_isubN d_Tu_regretOf_51 (by omega) (by omega) ?_
      refine x_ireturn d_Tu_regretOf_52 rfl ?_ (Nat.zero_le _) (Nat.zero_le _)
      rw [← hQ]
      exact ⟨_, rfl, rfl, G2, rfl, f1.tr e1, e2⟩
    · omega
  · refine x_iload d_Tu_regretOf_6 rfl ?_
    refine x_iconst (4) d_Tu_regretOf_8 rfl ⟨by decide, by decide⟩ ?_
    refine x_icmp_ge (38) d_Tu_regretOf_9 (by decide) (fun g => ?_) (fun g => ?_)
    · omega
    · refine x_iload d_Tu_regretOf_12 rfl ?_
      refine x_aload_n d_Tu_regretOf_14 rfl rfl ?_
      refine x_iload d_Tu_regretOf_15 rfl ?_
      refine x_iload d_Tu_regretOf_17 rfl ?_
      refine x_iconst (0) d_Tu_regretOf_19 rfl ⟨by decide, by decide⟩ ?_
      refine x_iload d_Tu_regretOf_20 rfl ?_
      refine x_iload d_Tu_regretOf_22 rfl ?_
      refine x_VQ d_Tu_regretOf_24 e_Tu_regretOf_Tu_outBy ⟨rfl, rfl, Nat.zero_le _, Nat.zero_le _⟩ rfl rfl rfl rfl (Nat.le_of_ble_eq_true rfl) (c_outBy hh f2 i i 0 fi y hi hi (by omega) hfi hf hy) (fun v τ hv => ?_)
      obtain ⟨rfl, G2, rfl, e1, e2⟩ := hv
      show x_A y_Tu_regretOf 27 [some oTu, some (xI (a : Int)), some (xI (b : Int)), some (xI (k : Int)), some (xI (f_fi fi)), some (xI (y : Int)), some (xI (f_bo h (f_fi fi) y i)), some (xI (i : Int))] [xI (f_out h ((i : Int), (i : Int), ((0 : Nat) : Int), f_fi fi) y (f_made h (h.2 6))), xI (f_bo h (f_fi fi) y i)] (S0, G2) 0 0 Q
      refine x_S1 d_Tu_regretOf_27 e_Tu_regretOf_JM_max ⟨rfl, rfl, Nat.zero_le _, Nat.zero_le _⟩ rfl rfl (Nat.le_of_ble_eq_true rfl) (s_max _ _ _) ?_
      refine x_istore d_Tu_regretOf_30 (by decide) ?_
      dsimp only [x_st1, x_st2, x_kill, List.set, List.getElem?_cons_zero, List.getElem?_cons_succ]
      refine x_iincN d_Tu_regretOf_32 rfl (by decide) (by omega) (by omega) ?_
      dsimp only [x_st1, x_st2, x_kill, List.set, List.getElem?_cons_zero, List.getElem?_cons_succ]
      refine x_goto (6) d_Tu_regretOf_35 (by decide) ?_
      exact k' G2 (f1.tr e1) e2
/-- .. and regrets -/
def rFrame (G G' : Nat → Nat → Int) : Prop := ∀ i, (i < o_Sm ∨ ne_free < i) → i ≠ tu_outs → i ≠ tu_stamps → i ≠ tu_regrets → G' i = G i
def mWeighed (h : HH) (pl k y : Nat) (G : Nat → Nat → Int) : Option XV → XM → Prop := fun v τ => v = none ∧ ∃ G', τ = (S0, G') ∧ rFrame G G' ∧ cQ h G' ∧ ∀ f q, f < h.2 2 → q < 4 → G' tu_regrets (4 * f + q) = t_R h pl k y f q
theorem cQ.reg {j : Nat} {z : Int} (q : cQ h G) : cQ h (up G tu_regrets j z) :=
  ⟨q.1.same (fun i _ h2 => up_cell (by simp only [tu_regrets]; omega)), q.2.1.same (fun i _ h2 => up_cell (by simp only [tu_regrets, sm_leftMixed] at *; omega)) (up_cell (by decide)), q.2.2.same (up_cell (by decide)) (up_cell (by decide)) (up_cell (by decide))⟩
theorem c_weigh (hh : Hwf h) (q : cQ h G) (pl k y : Nat) (hp : pl < 4) (hk : k ≤ 21) (hy : y ≤ 20) : x_M y_Tu_weigh [oTu, xI (pl : Int), xI (k : Int), xI (y : Int)] (S0, G) (fun r τ => ∃ v, r = .inl v ∧ mWeighed h pl k y G v τ) := by
  have b := hh.1
  refine x_of 2 rfl (Nat.le_of_ble_eq_true rfl) ?_
  show x_A y_Tu_weigh 0 [some oTu, some (xI (pl : Int)), some (xI (k : Int)), some (xI (y : Int)), none, none] [] (S0, G) 0 0 _
  generalize hQ : (fun (r : XRes) (τ : XM) => ∃ v, r = .inl v ∧ mWeighed h pl k y G v τ) = Q
  refine x_iconst (0) d_Tu_weigh_0 rfl ⟨by decide, by decide⟩ ?_
  refine x_istore d_Tu_weigh_1 (by decide) ?_
  dsimp only [x_st1, x_st2, x_kill, List.set, List.getElem?_cons_zero, List.getElem?_cons_succ]
  refine x_up_to (P := fun f => ∀ G' z, rFrame G G' → cQ h G' → (∀ f' q, f' < f → q < 4 → G' tu_regrets (4 * f' + q) = t_R h pl k y f' q) → x_A y_Tu_weigh 3 [some oTu, some (xI (pl : Int)), some (xI (k : Int)), some (xI (y : Int)), some (xI (f : Int)), z] [] (S0, G') 0 0 Q) 0 (h.2 2) (Nat.zero_le _) (fun G' z f1 f2 f3 => ?_) (fun f _ hf k' G' z f1 f2 f3 => ?_) G none (fun _ _ _ _ _ => rfl) q (fun f' q hf' => by omega)
  · have r2 := f2.1
    refine x_iload d_Tu_weigh_3 rfl ?_
    refine x_aload_n d_Tu_weigh_5 rfl rfl ?_
    refine x_getF (kf := 0) d_Tu_weigh_6 rfl rfl rfl in_Tu f_Tu_21 ?_
    refine x_getF (kf := 2) d_Tu_weigh_9 rfl rfl rfl in_Ho f_Tu_77 ?_
    refine x_V1 d_Tu_weigh_12 e_Tu_weigh_Ta_size ⟨rfl, rfl, Nat.zero_le _, Nat.zero_le _⟩ rfl rfl rfl rfl (Nat.le_of_ble_eq_true rfl) (k_size r2 2 (by decide)) ?_
    refine x_icmp_ge (62) d_Tu_weigh_15 (by decide) (fun g => ?_) (fun g => ?_)
    · refine x_return d_Tu_weigh_62 rfl ?_ (Nat.zero_le _) (Nat.zero_le _)
      rw [← hQ]
      exact ⟨none, rfl, rfl, G', rfl, f1, f2, f3⟩
    · omega
  · have r2 := f2.1
    refine x_iload d_Tu_weigh_3 rfl ?_
    refine x_aload_n d_Tu_weigh_5 rfl rfl ?_
    refine x_getF (kf := 0) d_Tu_weigh_6 rfl rfl rfl in_Tu f_Tu_21 ?_
    refine x_getF (kf := 2) d_Tu_weigh_9 rfl rfl rfl in_Ho f_Tu_77 ?_
    refine x_V1 d_Tu_weigh_12 e_Tu_weigh_Ta_size ⟨rfl, rfl, Nat.zero_le _, Nat.zero_le _⟩ rfl rfl rfl rfl (Nat.le_of_ble_eq_true rfl) (k_size r2 2 (by decide)) ?_
    refine x_icmp_ge (62) d_Tu_weigh_15 (by decide) (fun g => ?_) (fun g => ?_)
    · omega
    · refine x_iconst (0) d_Tu_weigh_18 rfl ⟨by decide, by decide⟩ ?_
      refine x_istore d_Tu_weigh_19 (by decide) ?_
      dsimp only [x_st1, x_st2, x_kill, List.set, List.getElem?_cons_zero, List.getElem?_cons_succ]
      refine x_up_to (P := fun i => ∀ G2, rFrame G G2 → cQ h G2 → (∀ f' q, f' < f → q < 4 → G2 tu_regrets (4 * f' + q) = t_R h pl k y f' q) → (∀ q, q < i → G2 tu_regrets (4 * f + q) = t_R h pl k y f q) → x_A y_Tu_weigh 21 [some oTu, some (xI (pl : Int)), some (xI (k : Int)), some (xI (y : Int)), some (xI (f : Int)), some (xI (i : Int))] [] (S0, G2) 0 0 Q) 0 4 (Nat.zero_le _) (fun G2 g1 g2 g3 g4 => ?_) (fun i _ hi k2 G2 g1 g2 g3 g4 => ?_) G' f1 f2 f3 (fun q hq => by omega)
      · refine x_iload d_Tu_weigh_21 rfl ?_
        refine x_iconst (4) d_Tu_weigh_23 rfl ⟨by decide, by decide⟩ ?_
        refine x_icmp_ge (56) d_Tu_weigh_24 (by decide) (fun g => ?_) (fun g => ?_)
        · refine x_iincN d_Tu_weigh_56 rfl (by decide) (by omega) (by omega) ?_
          dsimp only [x_st1, x_st2, x_kill, List.set, List.getElem?_cons_zero, List.getElem?_cons_succ]
          refine x_goto (3) d_Tu_weigh_59 (by decide) ?_
          refine k' G2 _ g1 g2 (fun f' q h1 h2 => ?_)
          by_cases c : f' = f
          · subst c; exact g4 q h2
          · exact g3 f' q (by omega) h2
        · omega
      · have e4 : f_fi f = (f : Int) := f_fi_n (by omega)
        have ro := c_regretOf hh g2 pl i k f y hp hi hk (by omega) (by rw [e4]; omega) hy
        rw [e4] at ro
        refine x_iload d_Tu_weigh_21 rfl ?_
        refine x_iconst (4) d_Tu_weigh_23 rfl ⟨by decide, by decide⟩ ?_
        refine x_icmp_ge (56) d_Tu_weigh_24 (by decide) (fun g => ?_) (fun g => ?_)
        · omega
        · refine x_aload_n d_Tu_weigh_27 rfl rfl ?_
          refine x_getF (kf := 7) d_Tu_weigh_28 rfl rfl rfl in_Tu f_Tu_18 ?_
          refine x_iload d_Tu_weigh_31 rfl ?_
          refine x_iconst (4) d_Tu_weigh_33 rfl ⟨by decide, by decide⟩ ?_
          refine x_imulN d_Tu_weigh_34 (by omega) (by omega) ?_
          refine x_iload d_Tu_weigh_35 rfl ?_
          refine x_iaddN d_Tu_weigh_37 (by omega) (by omega) ?_
          refine x_aload_n d_Tu_weigh_38 rfl rfl ?_
          refine x_iload_n d_Tu_weigh_39 rfl rfl ?_
          refine x_iload d_Tu_weigh_40 rfl ?_
          refine x_iload_n d_Tu_weigh_42 rfl rfl ?_
          refine x_iload d_Tu_weigh_43 rfl ?_
          refine x_iload_n d_Tu_weigh_45 rfl rfl ?_
          refine x_VQ d_Tu_weigh_46 e_Tu_weigh_Tu_regretOf ⟨rfl, rfl, Nat.zero_le _, Nat.zero_le _⟩ rfl rfl rfl rfl (Nat.le_of_ble_eq_true rfl) (ro) (fun v τ hv => ?_)
          obtain ⟨rfl, G3, rfl, e1, e2⟩ := hv
          show x_A y_Tu_weigh 49 [some oTu, some (xI (pl : Int)), some (xI (k : Int)), some (xI (y : Int)), some (xI (f : Int)), some (xI (i : Int))] [xI (t_R h pl k y f i), xI ((f : Int) * 4 + i), xR (some tu_regrets)] (S0, G3) 0 0 Q
          have er : G3 tu_regrets = G2 tu_regrets := e1 _ (Or.inr (by decide)) (by decide) (by decide)
          refine x_iastN (4 * f + i) d_Tu_weigh_49 rfl (by omega) (by omega) ?_
          refine x_iincN d_Tu_weigh_50 rfl (by decide) (by omega) (by omega) ?_
          dsimp only [x_st1, x_st2, x_kill, List.set, List.getElem?_cons_zero, List.getElem?_cons_succ]
          refine x_goto (21) d_Tu_weigh_53 (by decide) ?_
          refine k2 _ (fun j h1 h2 h3 h4 => by rw [up_cell h4, e1 j h1 h2 h3]; exact g1 j h1 h2 h3 h4) e2.reg (fun f' q h1 h2 => ?_) (fun q hq => ?_)
          · rw [up_ne (by omega), er]; exact g3 f' q h1 h2
          · by_cases c : q = i
            · subst c; rw [up_same]
            · rw [up_ne (by omega), er]; exact g4 q (by omega)
end CU2
/-! what gauges tell -/
abbrev oWa : XV := xR (some o_Wa)
/-- the pieces with as much as the mark, of the first n -/
def f_mk (h : HH) (c : CC) (m : Nat) : Nat → Int
  | 0 => 0
  | p + 1 => if h.1 9 0 3 ≤ (sk h c m).1 p + (sk h c m).2.1 p then x_or (f_mk h c m p) (x_shl 1 p) else f_mk h c m p
theorem f_mk_s (h : HH) (c : CC) (m p : Nat) : f_mk h c m (p + 1) = if h.1 9 0 3 ≤ (sk h c m).1 p + (sk h c m).2.1 p then x_or (f_mk h c m p) (x_shl 1 p) else f_mk h c m p := rfl
theorem f_mk_bit (h : HH) (c : CC) (m : Nat) {n : Nat} (hn : n ≤ 8) {b : Nat} (hb : b < 32) : xb (f_mk h c m n) b = (decide (b < n) && decide (h.1 9 0 3 ≤ (sk h c m).1 b + (sk h c m).2.1 b)) := by
  induction n with
  | zero => show xb 0 b = _; rw [xb_zero, decide_eq_false (by omega)]; rfl
  | succ n ih =>
    have ih := ih (by omega)
    rw [f_mk_s]
    by_cases q : h.1 9 0 3 ≤ (sk h c m).1 n + (sk h c m).2.1 n
    · rw [if_pos q, xb_or, ih, xb_one32 (by omega) hb]
      by_cases e : b = n
      · subst e; rw [decide_eq_true q]; simp
      · have : (b < n) = (b < n + 1) := by apply propext; omega
        simp only [e, this]; simp
    · rw [if_neg q, ih]
      by_cases e : b = n
      · subst e; rw [decide_eq_false q]; simp
      · have : (b < n) = (b < n + 1) := by apply propext; omega
        simp only [this]
theorem f_mk_r (h : HH) (c : CC) (m n : Nat) : x_r32 (f_mk h c m n) := by
  induction n with
  | zero => exact x_r0
  | succ n ih => rw [f_mk_s]; split; exact x_or_r _ _; exact ih
theorem f_tell_bit (h : HH) (c : CC) (m : Nat) {n : Nat} (hn : n ≤ 8) {b : Nat} (hb : b < 32) : xb (f_tell h c m n) b = (decide (b < n) && (xb (h.1 9 0 2) b && decide (h.1 9 0 3 ≤ (sk h c m).1 b + (sk h c m).2.1 b))) := by
  induction n with
  | zero => show xb 0 b = _; rw [xb_zero, decide_eq_false (by omega)]; rfl
  | succ n ih =>
    have ih := ih (by omega)
    have e0 : f_tell h c m (n + 1) = if x_and (x_shr (h.1 9 0 2) n) 1 = 1 ∧ h.1 9 0 3 ≤ (sk h c m).1 n + (sk h c m).2.1 n then x_or (f_tell h c m n) (x_shl 1 n) else f_tell h c m n := rfl
    rw [e0]
    by_cases q : x_and (x_shr (h.1 9 0 2) n) 1 = 1 ∧ h.1 9 0 3 ≤ (sk h c m).1 n + (sk h c m).2.1 n
    · rw [if_pos q, xb_or, ih, xb_one32 (by omega) hb]
      have q1 := (x_bit _ (by omega)).mp q.1
      by_cases e : b = n
      · subst e; rw [decide_eq_true q.2, q1]; simp
      · have : (b < n) = (b < n + 1) := by apply propext; omega
        simp only [e, this]; simp
    · rw [if_neg q, ih]
      by_cases e : b = n
      · subst e
        have : (xb (h.1 9 0 2) b && decide (h.1 9 0 3 ≤ (sk h c m).1 b + (sk h c m).2.1 b)) = false := by
          by_cases q1 : xb (h.1 9 0 2) b = true
          · rw [q1, decide_eq_false (fun z => q ⟨(x_bit _ (by omega)).mpr q1, z⟩)]; rfl
          · rw [show xb (h.1 9 0 2) b = false by simpa using q1]; rfl
        rw [this]; simp
      · have : (b < n) = (b < n + 1) := by apply propext; omega
        simp only [this]
theorem f_tell_r (h : HH) (c : CC) (m n : Nat) : x_r32 (f_tell h c m n) := by
  induction n with
  | zero => exact x_r0
  | succ n ih =>
    show x_r32 (if _ then x_or _ _ else _)
    split
    · exact x_or_r _ _
    · exact ih
theorem x_and_r (a b : Int) : x_r32 (x_and a b) := i32_rng _
/-- the same is told just where the marks differ in no gauge -/
theorem told_iff (h : HH) (hh : Hwf h) (c d : CC) (m : Nat) : x_and (x_xor (f_mk h c m (h.2 0)) (f_mk h d m (h.2 0))) (h.1 9 0 2) = 0 ↔ f_tell h c m (h.2 0) = f_tell h d m (h.2 0) := by
  have b8 := hh.1.1
  constructor
  · intro e
    refine xb_ext (f_tell_r _ _ _ _) (f_tell_r _ _ _ _) (fun b hb => ?_)
    have := congrArg (fun z => xb z b) e
    rw [xb_and, xb_xor, f_mk_bit h c m b8 hb, f_mk_bit h d m b8 hb, xb_zero] at this
    rw [f_tell_bit h c m b8 hb, f_tell_bit h d m b8 hb]
    revert this
    generalize decide (b < h.2 0) = x
    generalize decide (h.1 9 0 3 ≤ (sk h c m).1 b + (sk h c m).2.1 b) = y
    generalize decide (h.1 9 0 3 ≤ (sk h d m).1 b + (sk h d m).2.1 b) = z
    generalize xb (h.1 9 0 2) b = w
    cases x <;> cases y <;> cases z <;> cases w <;> simp
  · intro e
    refine xb_ext (x_and_r _ _) x_r0 (fun b hb => ?_)
    have := congrArg (fun z => xb z b) e
    rw [f_tell_bit h c m b8 hb, f_tell_bit h d m b8 hb] at this
    rw [xb_and, xb_xor, f_mk_bit h c m b8 hb, f_mk_bit h d m b8 hb, xb_zero]
    revert this
    generalize decide (b < h.2 0) = x
    generalize decide (h.1 9 0 3 ≤ (sk h c m).1 b + (sk h c m).2.1 b) = y
    generalize decide (h.1 9 0 3 ≤ (sk h d m).1 b + (sk h d m).2.1 b) = z
    generalize xb (h.1 9 0 2) b = w
    cases x <;> cases y <;> cases z <;> cases w <;> simp
