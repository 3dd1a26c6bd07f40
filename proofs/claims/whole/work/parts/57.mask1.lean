/-! the reference: regret, turn, turnTo, best, alike -/
/-- the answer of a call that asks: what was thrown, and what was answered -/
def mAns (G : Nat → Nat → Int) (code V : Int) : Option XV → XM → Prop := fun v τ => ∃ G', τ = (S0, G') ∧ pFrame (up G o_M 0 code) G' ∧ v = some (xI V)
theorem mAns.no {G : Nat → Nat → Int} {code c' : Int} (V : Int) (e : c' = code) : mAns G c' V (some (xI V)) (S0, up (up G o_M 0 0) o_M 0 code) := by
  subst e
  refine ⟨_, rfl, ?_, rfl⟩
  rw [up_on]
  exact pFrame.rf _
theorem f_wi_1 {a b c : Int} (h : f_wi a b c ≠ 0) : b ≤ a ∧ a ≤ c := by
  unfold f_wi at h
  split at h
  · assumption
  · exact absurd rfl h
theorem f_co_1 {a b c : Int} (h : f_co a b c ≠ 0) : (0 ≤ a ∧ a ≤ 3) ∧ (0 ≤ b ∧ b ≤ 3) ∧ (0 ≤ c ∧ c ≤ 21) := by
  unfold f_co at h
  split at h
  · rename_i q
    exact ⟨f_wi_1 (by omega), f_wi_1 (by omega), f_wi_1 (by omega)⟩
  · exact absurd rfl h
def c_reg (h : HH) (a b k f by' : Int) : Int := if f_wi f (-1) (h.2 2 - 1) = 0 then 1 else if f_co a b k = 0 ∨ f_wi by' 0 20 = 0 then 2 else 0
noncomputable def v_reg (h : HH) (a b k f by' : Int) : Int := if c_reg h a b k f by' = 0 then f_bo h f by'.toNat 4 - f_out h (a, b, k, f) by'.toNat (f_made h (h.2 6)) else 0
theorem s_regret {h : HH} {G : Nat → Nat → Int} (hh : Hwf h) (r0 : mRep h G) (a b k f by' : Int) : x_M y_M_regret [oM, xI a, xI b, xI k, xI f, xI by'] (S0, G) (fun r τ => ∃ v, r = .inl v ∧ mAns G (c_reg h a b k f by') (v_reg h a b k f by') v τ) := by
  have r := r0.th 0
  refine x_of 0 rfl (Nat.le_of_ble_eq_true rfl) ?_
  show x_A y_M_regret 0 [some oM, some (xI a), some (xI b), some (xI k), some (xI f), some (xI by')] [] (S0, G) 0 0 _
  generalize hV : v_reg h a b k f by' = V
  generalize hC : c_reg h a b k f by' = C
  generalize hQ : (fun (r : XRes) (τ : XM) => ∃ v, r = .inl v ∧ mAns G C V v τ) = Q
  have hV0 : C ≠ 0 → V = 0 := fun z => by rw [← hV]; unfold v_reg; rw [hC, if_neg z]
  refine x_aload_n d_M_regret_0 rfl rfl ?_
  refine x_iconst (0) d_M_regret_1 rfl ⟨by decide, by decide⟩ ?_
  refine x_putIG (kf := 0) tyX12 d_M_regret_2 rfl rfl rfl in_M f_M_217 tyX12_ok nmX12 (by decide +kernel) rfl ?_
  refine x_aload_n d_M_regret_5 rfl rfl ?_
  refine x_iload d_M_regret_6 rfl ?_
  refine x_V1 d_M_regret_8 e_M_regret_M_isFire ⟨rfl, rfl, Nat.zero_le _, Nat.zero_le _⟩ rfl rfl rfl rfl (Nat.le_of_ble_eq_true rfl) (s_isFire hh r _) ?_
  refine x_if_ne (20) d_M_regret_11 (by decide) (fun c1 => ?_) (fun c1 => ?_)
  · refine x_iload_n d_M_regret_20 rfl rfl ?_
    refine x_iload_n d_M_regret_21 rfl rfl ?_
    refine x_iload_n d_M_regret_22 rfl rfl ?_
    refine x_S1 d_M_regret_23 e_M_regret_M_isCourse ⟨rfl, rfl, Nat.zero_le _, Nat.zero_le _⟩ rfl rfl (Nat.le_of_ble_eq_true rfl) (s_isCourse _ _ _ _) ?_
    have two : (f_co a b k = 0 ∨ f_wi by' 0 20 = 0) → x_A y_M_regret 37 [some oM, some (xI a), some (xI b), some (xI k), some (xI f), some (xI by')] [] (S0, up G o_M 0 0) 0 0 Q := by
      intro z
      have eC : C = 2 := by rw [← hC]; unfold c_reg; rw [if_neg c1, if_pos z]
      refine x_aload_n d_M_regret_37 rfl rfl ?_
      refine x_iconst (2) d_M_regret_38 rfl ⟨by decide, by decide⟩ ?_
      refine x_V1 d_M_regret_39 e_M_regret_M_fails ⟨rfl, rfl, Nat.zero_le _, Nat.zero_le _⟩ rfl rfl rfl rfl (Nat.le_of_ble_eq_true rfl) (s_fails (up G o_M 0 0) 2) ?_
      refine x_ireturn d_M_regret_42 rfl ?_ (Nat.zero_le _) (Nat.zero_le _)
      rw [← hQ, hV0 (by omega)]
      exact ⟨_, rfl, mAns.no 0 eC⟩
    refine x_if_eq (37) d_M_regret_26 (by decide) (fun c2 => ?_) (fun c2 => ?_)
    · exact two (Or.inl c2)
    · refine x_iload d_M_regret_29 rfl ?_
      refine x_S1 d_M_regret_31 e_M_regret_M_isMinute ⟨rfl, rfl, Nat.zero_le _, Nat.zero_le _⟩ rfl rfl (Nat.le_of_ble_eq_true rfl) (s_isMinute _ _) ?_
      refine x_if_ne (43) d_M_regret_34 (by decide) (fun c3 => ?_) (fun c3 => ?_)
      · have q1 := f_wi_1 c1
        have q3 := f_wi_1 c3
        obtain ⟨y, rfl⟩ : ∃ y : Nat, by' = y := ⟨by'.toNat, by omega⟩
        have eC : C = 0 := by rw [← hC]; unfold c_reg; rw [if_neg c1, if_neg (fun z => by rcases z with z | z <;> omega)]
        have eV : f_bo h f y 4 - f_out h (a, b, k, f) y (f_made h (h.2 6)) = V := by rw [← hV]; unfold v_reg; rw [hC, if_pos eC, Int.toNat_natCast]
        refine x_aload_n d_M_regret_43 rfl rfl ?_
        refine x_iload d_M_regret_44 rfl ?_
        refine x_iload d_M_regret_46 rfl ?_
        refine x_VQ d_M_regret_48 e_M_regret_M_bestOut ⟨rfl, rfl, Nat.zero_le _, Nat.zero_le _⟩ rfl rfl rfl rfl (Nat.le_of_ble_eq_true rfl) (s_bestOut hh r f (by omega) y (by omega)) (fun v τ hv => ?_)
        obtain ⟨G2, rfl, f2, rfl, b1, b2⟩ := hv
        show x_A y_M_regret 51 [some oM, some (xI a), some (xI b), some (xI k), some (xI f), some (xI (y : Int))] [xI (f_bo h f y 4)] (S0, G2) 0 0 Q
        refine x_aload_n d_M_regret_51 rfl rfl ?_
        refine x_iload_n d_M_regret_52 rfl rfl ?_
        refine x_iload_n d_M_regret_53 rfl rfl ?_
        refine x_iload_n d_M_regret_54 rfl rfl ?_
        refine x_iload d_M_regret_55 rfl ?_
        refine x_iload d_M_regret_57 rfl ?_
        refine x_VQ d_M_regret_59 e_M_regret_M_outBy ⟨rfl, rfl, Nat.zero_le _, Nat.zero_le _⟩ rfl rfl rfl rfl (Nat.le_of_ble_eq_true rfl) (s_outBy hh (f2.rep r) (a, b, k, f) (by show -1 ≤ f ∧ f < _; omega) y (by omega)) (fun v τ hv => ?_)
        obtain ⟨G4, rfl, f4, -, rfl, o1, o2⟩ := hv.val hh
        show x_A y_M_regret 62 [some oM, some (xI a), some (xI b), some (xI k), some (xI f), some (xI (y : Int))] [xI (f_out h (a, b, k, f) y (f_made h (h.2 6))), xI (f_bo h f y 4)] (S0, G4) 0 0 Q
        refine x_isubN d_M_regret_62 (by omega) (by omega) ?_
        rw [eV]
        refine x_ireturn d_M_regret_63 rfl ?_ (Nat.zero_le _) (Nat.zero_le _)
        rw [← hQ, eC]
        exact ⟨_, rfl, G4, rfl, (f2.tr f4).p, rfl⟩
      · exact two (Or.inr c3)
  · have eC : C = 1 := by rw [← hC]; unfold c_reg; rw [if_pos c1]
    refine x_aload_n d_M_regret_14 rfl rfl ?_
    refine x_iconst (1) d_M_regret_15 rfl ⟨by decide, by decide⟩ ?_
    refine x_V1 d_M_regret_16 e_M_regret_M_fails ⟨rfl, rfl, Nat.zero_le _, Nat.zero_le _⟩ rfl rfl rfl rfl (Nat.le_of_ble_eq_true rfl) (s_fails (up G o_M 0 0) 1) ?_
    refine x_ireturn d_M_regret_19 rfl ?_ (Nat.zero_le _) (Nat.zero_le _)
    rw [← hQ, hV0 (by omega)]
    exact ⟨_, rfl, mAns.no 0 eC⟩
def c_turn (h : HH) (pl k by' : Int) : Int := if ((h.2 2 : Nat) : Int) = 0 then 1 else if f_co pl pl k = 0 ∨ f_wi by' 0 20 = 0 then 2 else 0
noncomputable def t_w (h : HH) (pl k : Int) (y : Nat) : Int := t_wo (t_A h pl k) (t_R h pl k y) (h.2 2) (h.2 2)
noncomputable def v_turn (h : HH) (pl k by' : Int) : Int := if c_turn h pl k by' = 0 then t_w h pl k by'.toNat else 0
theorem s_turn {h : HH} {G : Nat → Nat → Int} (hh : Hwf h) (r0 : mRep h G) (a k by' : Int) : x_M y_M_turn [oM, xI a, xI k, xI by'] (S0, G) (fun r τ => ∃ v, r = .inl v ∧ mAns G (c_turn h a k by') (v_turn h a k by') v τ) := by
  have r := r0.th 0
  have e3 := r.1.2.2.1
  refine x_of 0 rfl (Nat.le_of_ble_eq_true rfl) ?_
  show x_A y_M_turn 0 [some oM, some (xI a), some (xI k), some (xI by')] [] (S0, G) 0 0 _
  generalize hV : v_turn h a k by' = V
  generalize hC : c_turn h a k by' = C
  generalize hQ : (fun (r : XRes) (τ : XM) => ∃ v, r = .inl v ∧ mAns G C V v τ) = Q
  have hV0 : C ≠ 0 → V = 0 := fun z => by rw [← hV]; unfold v_turn; rw [hC, if_neg z]
  refine x_aload_n d_M_turn_0 rfl rfl ?_
  refine x_iconst (0) d_M_turn_1 rfl ⟨by decide, by decide⟩ ?_
  refine x_putIG (kf := 0) tyX12 d_M_turn_2 rfl rfl rfl in_M f_M_217 tyX12_ok nmX12 (by decide +kernel) rfl ?_
  refine x_aload_n d_M_turn_5 rfl rfl ?_
  refine x_getIG (kf := 3) d_M_turn_6 rfl rfl rfl in_M f_M_253 ?_
  rw [e3]
  refine x_if_ne (18) d_M_turn_9 (by decide) (fun c1 => ?_) (fun c1 => ?_)
  · refine x_iload_n d_M_turn_18 rfl rfl ?_
    refine x_iload_n d_M_turn_19 rfl rfl ?_
    refine x_iload_n d_M_turn_20 rfl rfl ?_
    refine x_S1 d_M_turn_21 e_M_turn_M_isCourse ⟨rfl, rfl, Nat.zero_le _, Nat.zero_le _⟩ rfl rfl (Nat.le_of_ble_eq_true rfl) (s_isCourse _ _ _ _) ?_
    have two : (f_co a a k = 0 ∨ f_wi by' 0 20 = 0) → x_A y_M_turn 34 [some oM, some (xI a), some (xI k), some (xI by')] [] (S0, up G o_M 0 0) 0 0 Q := by
      intro z
      have eC : C = 2 := by rw [← hC]; unfold c_turn; rw [if_neg c1, if_pos z]
      refine x_aload_n d_M_turn_34 rfl rfl ?_
      refine x_iconst (2) d_M_turn_35 rfl ⟨by decide, by decide⟩ ?_
      refine x_V1 d_M_turn_36 e_M_turn_M_fails ⟨rfl, rfl, Nat.zero_le _, Nat.zero_le _⟩ rfl rfl rfl rfl (Nat.le_of_ble_eq_true rfl) (s_fails (up G o_M 0 0) 2) ?_
      refine x_ireturn d_M_turn_39 rfl ?_ (Nat.zero_le _) (Nat.zero_le _)
      rw [← hQ, hV0 (by omega)]
      exact ⟨_, rfl, mAns.no 0 eC⟩
    refine x_if_eq (34) d_M_turn_24 (by decide) (fun c2 => ?_) (fun c2 => ?_)
    · exact two (Or.inl c2)
    · refine x_iload_n d_M_turn_27 rfl rfl ?_
      refine x_S1 d_M_turn_28 e_M_turn_M_isMinute ⟨rfl, rfl, Nat.zero_le _, Nat.zero_le _⟩ rfl rfl (Nat.le_of_ble_eq_true rfl) (s_isMinute _ _) ?_
      refine x_if_ne (40) d_M_turn_31 (by decide) (fun c3 => ?_) (fun c3 => ?_)
      · have q2 := f_co_1 c2
        have q3 := f_wi_1 c3
        obtain ⟨y, rfl⟩ : ∃ y : Nat, by' = y := ⟨by'.toNat, by omega⟩
        have eC : C = 0 := by rw [← hC]; unfold c_turn; rw [if_neg c1, if_neg (fun z => by rcases z with z | z <;> omega)]
        have eV : t_w h a k y = V := by rw [← hV]; unfold v_turn; rw [hC, if_pos eC, Int.toNat_natCast]
        refine x_aload_n d_M_turn_40 rfl rfl ?_
        refine x_iload_n d_M_turn_41 rfl rfl ?_
        refine x_iload_n d_M_turn_42 rfl rfl ?_
        refine x_iload_n d_M_turn_43 rfl rfl ?_
        refine x_VQ d_M_turn_44 e_M_turn_M_turns ⟨rfl, rfl, Nat.zero_le _, Nat.zero_le _⟩ rfl rfl rfl rfl (Nat.le_of_ble_eq_true rfl) (s_turns hh r a k q2.2.2 y (by omega)) (fun v τ hv => ?_)
        obtain ⟨G2, rfl, f2, rfl, -⟩ := hv
        show x_A y_M_turn 47 [some oM, some (xI a), some (xI k), some (xI (y : Int))] [xI (t_w h a k y)] (S0, G2) 0 0 Q
        rw [eV]
        refine x_ireturn d_M_turn_47 rfl ?_ (Nat.zero_le _) (Nat.zero_le _)
        rw [← hQ, eC]
        exact ⟨_, rfl, G2, rfl, f2, rfl⟩
      · exact two (Or.inr c3)
  · have eC : C = 1 := by rw [← hC]; unfold c_turn; rw [if_pos c1]
    refine x_aload_n d_M_turn_12 rfl rfl ?_
    refine x_iconst (1) d_M_turn_13 rfl ⟨by decide, by decide⟩ ?_
    refine x_V1 d_M_turn_14 e_M_turn_M_fails ⟨rfl, rfl, Nat.zero_le _, Nat.zero_le _⟩ rfl rfl rfl rfl (Nat.le_of_ble_eq_true rfl) (s_fails (up G o_M 0 0) 1) ?_
    refine x_ireturn d_M_turn_17 rfl ?_ (Nat.zero_le _) (Nat.zero_le _)
    rw [← hQ, hV0 (by omega)]
    exact ⟨_, rfl, mAns.no 0 eC⟩
def c_tt (h : HH) (pl k by' f : Int) : Int := if f_wi f 0 (h.2 2 - 1) = 0 then 1 else if f_co pl pl k = 0 ∨ f_wi by' 0 20 = 0 then 2 else 0
noncomputable def t_g (h : HH) (pl k : Int) (y f : Nat) : Int := (t_ls (t_A h pl k) (t_R h pl k y) (h.2 2) f 0 4).2
noncomputable def v_tt (h : HH) (pl k by' f : Int) : Int := if c_tt h pl k by' f = 0 then t_g h pl k by'.toNat f.toNat else 0
theorem s_turnTo {h : HH} {G : Nat → Nat → Int} (hh : Hwf h) (r0 : mRep h G) (a k by' f : Int) : x_M y_M_turnTo [oM, xI a, xI k, xI by', xI f] (S0, G) (fun r τ => ∃ v, r = .inl v ∧ mAns G (c_tt h a k by' f) (v_tt h a k by' f) v τ) := by
  have b := hh.1
  have r := r0.th 0
  have e3 := r.1.2.2.1
  refine x_of 1 rfl (Nat.le_of_ble_eq_true rfl) ?_
  show x_A y_M_turnTo 0 [some oM, some (xI a), some (xI k), some (xI by'), some (xI f), none] [] (S0, G) 0 0 _
  generalize hV : v_tt h a k by' f = V
  generalize hC : c_tt h a k by' f = C
  generalize hQ : (fun (r : XRes) (τ : XM) => ∃ v, r = .inl v ∧ mAns G C V v τ) = Q
  have hV0 : C ≠ 0 → V = 0 := fun z => by rw [← hV]; unfold v_tt; rw [hC, if_neg z]
  refine x_aload_n d_M_turnTo_0 rfl rfl ?_
  refine x_iconst (0) d_M_turnTo_1 rfl ⟨by decide, by decide⟩ ?_
  refine x_putIG (kf := 0) tyX12 d_M_turnTo_2 rfl rfl rfl in_M f_M_217 tyX12_ok nmX12 (by decide +kernel) rfl ?_
  refine x_iload d_M_turnTo_5 rfl ?_
  refine x_i2l d_M_turnTo_7 ?_
  refine x_lconst (0) d_M_turnTo_8 rfl ⟨by decide, by decide⟩ ?_
  refine x_aload_n d_M_turnTo_9 rfl rfl ?_
  refine x_getIG (kf := 3) d_M_turnTo_10 rfl rfl rfl in_M f_M_253 ?_
  rw [e3]
  refine x_iconst (1) d_M_turnTo_13 rfl ⟨by decide, by decide⟩ ?_
  refine x_isubN d_M_turnTo_14 (by omega) (by omega) ?_
  refine x_i2l d_M_turnTo_15 ?_
  refine x_S1 d_M_turnTo_16 e_M_turnTo_M_within ⟨rfl, rfl, Nat.zero_le _, Nat.zero_le _⟩ rfl rfl (Nat.le_of_ble_eq_true rfl) (s_within _ _ _ _) ?_
  refine x_if_ne (28) d_M_turnTo_19 (by decide) (fun c1 => ?_) (fun c1 => ?_)
  · have c1 : f_wi f 0 (h.2 2 - 1) ≠ 0 := c1
    refine x_iload_n d_M_turnTo_28 rfl rfl ?_
    refine x_iload_n d_M_turnTo_29 rfl rfl ?_
    refine x_iload_n d_M_turnTo_30 rfl rfl ?_
    refine x_S1 d_M_turnTo_31 e_M_turnTo_M_isCourse ⟨rfl, rfl, Nat.zero_le _, Nat.zero_le _⟩ rfl rfl (Nat.le_of_ble_eq_true rfl) (s_isCourse _ _ _ _) ?_
    have two : (f_co a a k = 0 ∨ f_wi by' 0 20 = 0) → x_A y_M_turnTo 44 [some oM, some (xI a), some (xI k), some (xI by'), some (xI f), none] [] (S0, up G o_M 0 0) 0 0 Q := by
      intro z
      have eC : C = 2 := by rw [← hC]; unfold c_tt; rw [if_neg c1, if_pos z]
      refine x_aload_n d_M_turnTo_44 rfl rfl ?_
      refine x_iconst (2) d_M_turnTo_45 rfl ⟨by decide, by decide⟩ ?_
      refine x_V1 d_M_turnTo_46 e_M_turnTo_M_fails ⟨rfl, rfl, Nat.zero_le _, Nat.zero_le _⟩ rfl rfl rfl rfl (Nat.le_of_ble_eq_true rfl) (s_fails (up G o_M 0 0) 2) ?_
      refine x_ireturn d_M_turnTo_49 rfl ?_ (Nat.zero_le _) (Nat.zero_le _)
      rw [← hQ, hV0 (by omega)]
      exact ⟨_, rfl, mAns.no 0 eC⟩
    refine x_if_eq (44) d_M_turnTo_34 (by decide) (fun c2 => ?_) (fun c2 => ?_)
    · exact two (Or.inl c2)
    · refine x_iload_n d_M_turnTo_37 rfl rfl ?_
      refine x_S1 d_M_turnTo_38 e_M_turnTo_M_isMinute ⟨rfl, rfl, Nat.zero_le _, Nat.zero_le _⟩ rfl rfl (Nat.le_of_ble_eq_true rfl) (s_isMinute _ _) ?_
      refine x_if_ne (50) d_M_turnTo_41 (by decide) (fun c3 => ?_) (fun c3 => ?_)
      · have q1 := f_wi_1 c1
        have q2 := f_co_1 c2
        have q3 := f_wi_1 c3
        obtain ⟨y, rfl⟩ : ∃ y : Nat, by' = y := ⟨by'.toNat, by omega⟩
        obtain ⟨x, rfl⟩ : ∃ x : Nat, f = x := ⟨f.toNat, by omega⟩
        have eC : C = 0 := by rw [← hC]; unfold c_tt; rw [if_neg c1, if_neg (fun z => by rcases z with z | z <;> omega)]
        have eV : t_g h a k y x = V := by rw [← hV]; unfold v_tt; rw [hC, if_pos eC, Int.toNat_natCast, Int.toNat_natCast]
        refine x_aload_n d_M_turnTo_50 rfl rfl ?_
        refine x_iload_n d_M_turnTo_51 rfl rfl ?_
        refine x_iload_n d_M_turnTo_52 rfl rfl ?_
        refine x_iload_n d_M_turnTo_53 rfl rfl ?_
        refine x_VQ d_M_turnTo_54 e_M_turnTo_M_turns ⟨rfl, rfl, Nat.zero_le _, Nat.zero_le _⟩ rfl rfl rfl rfl (Nat.le_of_ble_eq_true rfl) (s_turns hh r a k q2.2.2 y (by omega)) (fun v τ hv => ?_)
        obtain ⟨G2, rfl, f2, rfl, g2⟩ := hv
        show x_A y_M_turnTo 57 [some oM, some (xI a), some (xI k), some (xI (y : Int)), some (xI (x : Int)), none] [xI (t_w h a k y)] (S0, G2) 0 0 Q
        refine x_istore d_M_turnTo_57 (by decide) ?_
        dsimp only [x_st1, x_st2, x_kill, List.set, List.getElem?_cons_zero, List.getElem?_cons_succ]
        refine x_aload_n d_M_turnTo_59 rfl rfl ?_
        refine x_getF (kf := 72) d_M_turnTo_60 rfl rfl rfl in_M f_M_183 ?_
        refine x_iload d_M_turnTo_63 rfl ?_
        refine x_ialdN (x) d_M_turnTo_65 rfl (by omega) (by omega) ?_
        have eg : G2 m_goes x = V := (g2 x (by omega)).trans eV
        rw [eg]
        refine x_ireturn d_M_turnTo_66 rfl ?_ (Nat.zero_le _) (Nat.zero_le _)
        rw [← hQ, eC]
        exact ⟨_, rfl, G2, rfl, f2, rfl⟩
      · exact two (Or.inr c3)
  · have c1 : f_wi f 0 (h.2 2 - 1) = 0 := c1
    have eC : C = 1 := by rw [← hC]; unfold c_tt; rw [if_pos c1]
    refine x_aload_n d_M_turnTo_22 rfl rfl ?_
    refine x_iconst (1) d_M_turnTo_23 rfl ⟨by decide, by decide⟩ ?_
    refine x_V1 d_M_turnTo_24 e_M_turnTo_M_fails ⟨rfl, rfl, Nat.zero_le _, Nat.zero_le _⟩ rfl rfl rfl rfl (Nat.le_of_ble_eq_true rfl) (s_fails (up G o_M 0 0) 1) ?_
    refine x_ireturn d_M_turnTo_27 rfl ?_ (Nat.zero_le _) (Nat.zero_le _)
    rw [← hQ, hV0 (by omega)]
    exact ⟨_, rfl, mAns.no 0 eC⟩
/-- the plans, one after the other: the best yet, and its worst regret -/
noncomputable def t_b (h : HH) (k : Int) (y : Nat) : Nat → Int × Int
  | 0 => (-1, 0)
  | p + 1 => if (t_b h k y p).1 ≠ -1 ∧ (t_b h k y p).2 ≤ t_w h p k y then t_b h k y p else ((p : Int), t_w h p k y)
noncomputable def v_best (h : HH) (k by' : Int) : Int := if c_turn h 0 k by' = 0 then (t_b h k by'.toNat 4).1 else 0
theorem s_best {h : HH} {G : Nat → Nat → Int} (hh : Hwf h) (r0 : mRep h G) (k by' : Int) : x_M y_M_best [oM, xI k, xI by'] (S0, G) (fun r τ => ∃ v, r = .inl v ∧ mAns G (c_turn h 0 k by') (v_best h k by') v τ) := by
  have r := r0.th 0
  have e3 := r.1.2.2.1
  refine x_of 4 rfl (Nat.le_of_ble_eq_true rfl) ?_
  show x_A y_M_best 0 [some oM, some (xI k), some (xI by'), none, none, none, none] [] (S0, G) 0 0 _
  generalize hV : v_best h k by' = V
  generalize hC : c_turn h 0 k by' = C
  generalize hQ : (fun (r : XRes) (τ : XM) => ∃ v, r = .inl v ∧ mAns G C V v τ) = Q
  have hV0 : C ≠ 0 → V = 0 := fun z => by rw [← hV]; unfold v_best; rw [hC, if_neg z]
  refine x_aload_n d_M_best_0 rfl rfl ?_
  refine x_iconst (0) d_M_best_1 rfl ⟨by decide, by decide⟩ ?_
  refine x_putIG (kf := 0) tyX12 d_M_best_2 rfl rfl rfl in_M f_M_217 tyX12_ok nmX12 (by decide +kernel) rfl ?_
  refine x_aload_n d_M_best_5 rfl rfl ?_
  refine x_getIG (kf := 3) d_M_best_6 rfl rfl rfl in_M f_M_253 ?_
  rw [e3]
  refine x_if_ne (18) d_M_best_9 (by decide) (fun c1 => ?_) (fun c1 => ?_)
  · refine x_iconst (0) d_M_best_18 rfl ⟨by decide, by decide⟩ ?_
    refine x_iconst (0) d_M_best_19 rfl ⟨by decide, by decide⟩ ?_
    refine x_iload_n d_M_best_20 rfl rfl ?_
    refine x_S1 d_M_best_21 e_M_best_M_isCourse ⟨rfl, rfl, Nat.zero_le _, Nat.zero_le _⟩ rfl rfl (Nat.le_of_ble_eq_true rfl) (s_isCourse _ _ _ _) ?_
    have two : (f_co 0 0 k = 0 ∨ f_wi by' 0 20 = 0) → x_A y_M_best 34 [some oM, some (xI k), some (xI by'), none, none, none, none] [] (S0, up G o_M 0 0) 0 0 Q := by
      intro z
      have eC : C = 2 := by rw [← hC]; unfold c_turn; rw [if_neg c1, if_pos z]
      refine x_aload_n d_M_best_34 rfl rfl ?_
      refine x_iconst (2) d_M_best_35 rfl ⟨by decide, by decide⟩ ?_
      refine x_V1 d_M_best_36 e_M_best_M_fails ⟨rfl, rfl, Nat.zero_le _, Nat.zero_le _⟩ rfl rfl rfl rfl (Nat.le_of_ble_eq_true rfl) (s_fails (up G o_M 0 0) 2) ?_
      refine x_ireturn d_M_best_39 rfl ?_ (Nat.zero_le _) (Nat.zero_le _)
      rw [← hQ, hV0 (by omega)]
      exact ⟨_, rfl, mAns.no 0 eC⟩
    refine x_if_eq (34) d_M_best_24 (by decide) (fun c2 => ?_) (fun c2 => ?_)
    · exact two (Or.inl c2)
    · refine x_iload_n d_M_best_27 rfl rfl ?_
      refine x_S1 d_M_best_28 e_M_best_M_isMinute ⟨rfl, rfl, Nat.zero_le _, Nat.zero_le _⟩ rfl rfl (Nat.le_of_ble_eq_true rfl) (s_isMinute _ _) ?_
      refine x_if_ne (40) d_M_best_31 (by decide) (fun c3 => ?_) (fun c3 => ?_)
      · have q2 := f_co_1 c2
        have q3 := f_wi_1 c3
        obtain ⟨y, rfl⟩ : ∃ y : Nat, by' = y := ⟨by'.toNat, by omega⟩
        have eC : C = 0 := by rw [← hC]; unfold c_turn; rw [if_neg c1, if_neg (fun z => by rcases z with z | z <;> omega)]
        have eV : (t_b h k y 4).1 = V := by rw [← hV]; unfold v_best; rw [hC, if_pos eC, Int.toNat_natCast]
        refine x_iconst (-1) d_M_best_40 rfl ⟨by decide, by decide⟩ ?_
        refine x_istore_n d_M_best_41 rfl (by decide) ?_
        dsimp only [x_st1, x_st2, x_kill, List.set, List.getElem?_cons_zero, List.getElem?_cons_succ]
        refine x_iconst (0) d_M_best_42 rfl ⟨by decide, by decide⟩ ?_
        refine x_istore d_M_best_43 (by decide) ?_
        dsimp only [x_st1, x_st2, x_kill, List.set, List.getElem?_cons_zero, List.getElem?_cons_succ]
        refine x_iconst (0) d_M_best_45 rfl ⟨by decide, by decide⟩ ?_
        refine x_istore d_M_best_46 (by decide) ?_
        dsimp only [x_st1, x_st2, x_kill, List.set, List.getElem?_cons_zero, List.getElem?_cons_succ]
        have all : ∀ G', pFrame (up G o_M 0 0) G' → x_A y_M_best 48 [some oM, some (xI k), some (xI (y : Int)), some (xI (t_b h k y 0).1), some (xI (t_b h k y 0).2), some (xI ((0 : Nat) : Int)), none] [] (S0, G') 0 0 Q := by
          refine x_up_to (P := fun p => ∀ G', pFrame (up G o_M 0 0) G' → x_A y_M_best 48 [some oM, some (xI k), some (xI (y : Int)), some (xI (t_b h k y p).1), some (xI (t_b h k y p).2), some (xI (p : Int)), none] [] (S0, G') 0 0 Q) 0 4 (Nat.zero_le _) ?_ (fun p _ hp k1 => ?_)
          · intro G2 f2
            refine x_iload d_M_best_48 rfl ?_
            refine x_iconst (4) d_M_best_50 rfl ⟨by decide, by decide⟩ ?_
            refine x_icmp_ge (92) d_M_best_51 (by decide) (fun c4 => ?_) (fun c4 => ?_)
            · refine x_iload_n d_M_best_92 rfl rfl ?_
              rw [eV]
              refine x_ireturn d_M_best_93 rfl ?_ (Nat.zero_le _) (Nat.zero_le _)
              rw [← hQ, eC]
              exact ⟨_, rfl, G2, rfl, f2, rfl⟩
            · omega
          · intro G2 f2
            have st : t_b h k y (p + 1) = if (t_b h k y p).1 ≠ -1 ∧ (t_b h k y p).2 ≤ t_w h p k y then t_b h k y p else ((p : Int), t_w h p k y) := rfl
            generalize t_b h k y p = zz at *
            refine x_iload d_M_best_48 rfl ?_
            refine x_iconst (4) d_M_best_50 rfl ⟨by decide, by decide⟩ ?_
            refine x_icmp_ge (92) d_M_best_51 (by decide) (fun c4 => ?_) (fun c4 => ?_)
            · omega
            · refine x_aload_n d_M_best_54 rfl rfl ?_
              refine x_iload d_M_best_55 rfl ?_
              refine x_iload_n d_M_best_57 rfl rfl ?_
              refine x_iload_n d_M_best_58 rfl rfl ?_
              refine x_VQ d_M_best_59 e_M_best_M_turns ⟨rfl, rfl, Nat.zero_le _, Nat.zero_le _⟩ rfl rfl rfl rfl (Nat.le_of_ble_eq_true rfl) (s_turns hh (f2.rep r) (p : Int) k q2.2.2 y (by omega)) (fun v τ hv => ?_)
              obtain ⟨G3, rfl, f3, rfl, -⟩ := hv
              show x_A y_M_best 62 [some oM, some (xI k), some (xI (y : Int)), some (xI zz.1), some (xI zz.2), some (xI (p : Int)), none] [xI (t_w h p k y)] (S0, G3) 0 0 Q
              refine x_istore d_M_best_62 (by decide) ?_
              dsimp only [x_st1, x_st2, x_kill, List.set, List.getElem?_cons_zero, List.getElem?_cons_succ]
              refine x_iload_n d_M_best_64 rfl rfl ?_
              refine x_iconst (-1) d_M_best_65 rfl ⟨by decide, by decide⟩ ?_
              refine x_icmp_eq (79) d_M_best_66 (by decide) (fun c5 => ?_) (fun c5 => ?_)
              · rw [st, if_neg (fun q => q.1 c5)] at k1
                refine x_iload d_M_best_79 rfl ?_
                refine x_istore_n d_M_best_81 rfl (by decide) ?_
                dsimp only [x_st1, x_st2, x_kill, List.set, List.getElem?_cons_zero, List.getElem?_cons_succ]
                refine x_iload d_M_best_82 rfl ?_
                refine x_istore d_M_best_84 (by decide) ?_
                dsimp only [x_st1, x_st2, x_kill, List.set, List.getElem?_cons_zero, List.getElem?_cons_succ]
                refine x_iincN d_M_best_86 rfl (by decide) (by omega) (by omega) ?_
                dsimp only [x_st1, x_st2, x_kill, List.set, List.getElem?_cons_zero, List.getElem?_cons_succ]
                refine x_goto (48) d_M_best_89 (by decide) ?_
                exact x_sub (fun j v hj => by
                  match j, hj with
                  | 0, hj => exact hj
                  | 1, hj => exact hj
                  | 2, hj => exact hj
                  | 3, hj => exact hj
                  | 4, hj => exact hj
                  | 5, hj => exact hj
                  | 6, hj => cases hj
                  | j + 7, hj => cases hj) (k1 G3 (f2.tr f3))
              · refine x_iload d_M_best_69 rfl ?_
                refine x_iload d_M_best_71 rfl ?_
                refine x_icmp_lt (79) d_M_best_73 (by decide) (fun c6 => ?_) (fun c6 => ?_)
                · rw [st, if_neg (fun q => by omega)] at k1
                  refine x_iload d_M_best_79 rfl ?_
                  refine x_istore_n d_M_best_81 rfl (by decide) ?_
                  dsimp only [x_st1, x_st2, x_kill, List.set, List.getElem?_cons_zero, List.getElem?_cons_succ]
                  refine x_iload d_M_best_82 rfl ?_
                  refine x_istore d_M_best_84 (by decide) ?_
                  dsimp only [x_st1, x_st2, x_kill, List.set, List.getElem?_cons_zero, List.getElem?_cons_succ]
                  refine x_iincN d_M_best_86 rfl (by decide) (by omega) (by omega) ?_
                  dsimp only [x_st1, x_st2, x_kill, List.set, List.getElem?_cons_zero, List.getElem?_cons_succ]
                  refine x_goto (48) d_M_best_89 (by decide) ?_
                  exact x_sub (fun j v hj => by
                    match j, hj with
                    | 0, hj => exact hj
                    | 1, hj => exact hj
                    | 2, hj => exact hj
                    | 3, hj => exact hj
                    | 4, hj => exact hj
                    | 5, hj => exact hj
                    | 6, hj => cases hj
                    | j + 7, hj => cases hj) (k1 G3 (f2.tr f3))
                · rw [st, if_pos ⟨c5, by omega⟩] at k1
                  refine x_goto (86) d_M_best_76 (by decide) ?_
                  refine x_iincN d_M_best_86 rfl (by decide) (by omega) (by omega) ?_
                  dsimp only [x_st1, x_st2, x_kill, List.set, List.getElem?_cons_zero, List.getElem?_cons_succ]
                  refine x_goto (48) d_M_best_89 (by decide) ?_
                  exact x_sub (fun j v hj => by
                    match j, hj with
                    | 0, hj => exact hj
                    | 1, hj => exact hj
                    | 2, hj => exact hj
                    | 3, hj => exact hj
                    | 4, hj => exact hj
                    | 5, hj => exact hj
                    | 6, hj => cases hj
                    | j + 7, hj => cases hj) (k1 G3 (f2.tr f3))
        exact all _ (pFrame.rf _)
      · exact two (Or.inr c3)
  · have eC : C = 1 := by rw [← hC]; unfold c_turn; rw [if_pos c1]
    refine x_aload_n d_M_best_12 rfl rfl ?_
    refine x_iconst (1) d_M_best_13 rfl ⟨by decide, by decide⟩ ?_
    refine x_V1 d_M_best_14 e_M_best_M_fails ⟨rfl, rfl, Nat.zero_le _, Nat.zero_le _⟩ rfl rfl rfl rfl (Nat.le_of_ble_eq_true rfl) (s_fails (up G o_M 0 0) 1) ?_
    refine x_ireturn d_M_best_17 rfl ?_ (Nat.zero_le _) (Nat.zero_le _)
    rw [← hQ, hV0 (by omega)]
    exact ⟨_, rfl, mAns.no 0 eC⟩
