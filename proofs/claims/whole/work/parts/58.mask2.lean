/-! the reference: air, lost, out, all, shut -/
def c_air (h : HH) (n : Nat) (a b k f w m : Int) : Int := if f_wi f (-1) (h.2 2 - 1) = 0 ∨ f_wi w 0 (h.2 n - 1) = 0 then 1 else if f_co a b k = 0 ∨ f_wi m 0 20 = 0 then 2 else 0
def v_air (h : HH) (a b k f w m : Int) : Int := if c_air h 1 a b k f w m = 0 then f_air h (sk h (a, b, k, f) m.toNat).2.2.1 (f_plan (a, b, k, f) m.toNat) m.toNat w.toNat else 0
theorem mFrame.p {G G' : Nat → Nat → Int} (f : mFrame G G') : pFrame G G' := ⟨fun i _ h2 => f i (by have : m_washed < m_wherever := (by decide); omega), fun k _ => by rw [f o_M (Or.inl (by decide))]⟩
theorem s_air {h : HH} {G : Nat → Nat → Int} (hh : Hwf h) (r0 : mRep h G) (a b k f w m : Int) : x_M y_M_air [oM, xI a, xI b, xI k, xI f, xI w, xI m] (S0, G) (fun r τ => ∃ v, r = .inl v ∧ mAns G (c_air h 1 a b k f w m) (v_air h a b k f w m) v τ) := by
  have bb := hh.1
  have r := r0.th 0
  have e0 := r.1
  refine x_of 0 rfl (Nat.le_of_ble_eq_true rfl) ?_
  show x_A y_M_air 0 [some oM, some (xI a), some (xI b), some (xI k), some (xI f), some (xI w), some (xI m)] [] (S0, G) 0 0 _
  generalize hV : v_air h a b k f w m = V
  generalize hC : c_air h 1 a b k f w m = C
  generalize hQ : (fun (r : XRes) (τ : XM) => ∃ v, r = .inl v ∧ mAns G C V v τ) = Q
  have hV0 : C ≠ 0 → V = 0 := fun z => by rw [← hV]; unfold v_air; rw [hC, if_neg z]
  have one : (f_wi f (-1) (h.2 2 - 1) = 0 ∨ f_wi w 0 (h.2 1 - 1) = 0) → x_A y_M_air 31 [some oM, some (xI a), some (xI b), some (xI k), some (xI f), some (xI w), some (xI m)] [] (S0, up G o_M 0 0) 0 0 Q := by
    intro z
    have eC : C = 1 := by rw [← hC]; unfold c_air; rw [if_pos z]
    refine x_aload_n d_M_air_31 rfl rfl ?_
    refine x_iconst (1) d_M_air_32 rfl ⟨by decide, by decide⟩ ?_
    refine x_V1 d_M_air_33 e_M_air_M_fails ⟨rfl, rfl, Nat.zero_le _, Nat.zero_le _⟩ rfl rfl rfl rfl (Nat.le_of_ble_eq_true rfl) (s_fails (up G o_M 0 0) 1) ?_
    refine x_ireturn d_M_air_36 rfl ?_ (Nat.zero_le _) (Nat.zero_le _)
    rw [← hQ, hV0 (by omega)]
    exact ⟨_, rfl, mAns.no 0 eC⟩
  refine x_aload_n d_M_air_0 rfl rfl ?_
  refine x_iconst (0) d_M_air_1 rfl ⟨by decide, by decide⟩ ?_
  refine x_putIG (kf := 0) tyX12 d_M_air_2 rfl rfl rfl in_M f_M_217 tyX12_ok nmX12 (by decide +kernel) rfl ?_
  refine x_aload_n d_M_air_5 rfl rfl ?_
  refine x_iload d_M_air_6 rfl ?_
  refine x_V1 d_M_air_8 e_M_air_M_isFire ⟨rfl, rfl, Nat.zero_le _, Nat.zero_le _⟩ rfl rfl rfl rfl (Nat.le_of_ble_eq_true rfl) (s_isFire hh r _) ?_
  refine x_if_eq (31) d_M_air_11 (by decide) (fun c1 => ?_) (fun c1 => ?_)
  · exact one (Or.inl c1)
  · refine x_iload d_M_air_14 rfl ?_
    refine x_i2l d_M_air_16 ?_
    refine x_lconst (0) d_M_air_17 rfl ⟨by decide, by decide⟩ ?_
    refine x_aload_n d_M_air_18 rfl rfl ?_
    refine x_getIG (kf := 2) d_M_air_19 rfl rfl rfl in_M f_M_250 ?_
    rw [e0.2.1]
    refine x_iconst (1) d_M_air_22 rfl ⟨by decide, by decide⟩ ?_
    refine x_isubN d_M_air_23 (by omega) (by omega) ?_
    refine x_i2l d_M_air_24 ?_
    refine x_S1 d_M_air_25 e_M_air_M_within ⟨rfl, rfl, Nat.zero_le _, Nat.zero_le _⟩ rfl rfl (Nat.le_of_ble_eq_true rfl) (s_within _ _ _ _) ?_
    refine x_if_ne (37) d_M_air_28 (by decide) (fun c2 => ?_) (fun c2 => ?_)
    · have c2 : f_wi w 0 (h.2 1 - 1) ≠ 0 := c2
      have n1 : ¬ (f_wi f (-1) (h.2 2 - 1) = 0 ∨ f_wi w 0 (h.2 1 - 1) = 0) := fun z => by rcases z with z | z <;> omega
      have two : (f_co a b k = 0 ∨ f_wi m 0 20 = 0) → x_A y_M_air 54 [some oM, some (xI a), some (xI b), some (xI k), some (xI f), some (xI w), some (xI m)] [] (S0, up G o_M 0 0) 0 0 Q := by
        intro z
        have eC : C = 2 := by rw [← hC]; unfold c_air; rw [if_neg n1, if_pos z]
        refine x_aload_n d_M_air_54 rfl rfl ?_
        refine x_iconst (2) d_M_air_55 rfl ⟨by decide, by decide⟩ ?_
        refine x_V1 d_M_air_56 e_M_air_M_fails ⟨rfl, rfl, Nat.zero_le _, Nat.zero_le _⟩ rfl rfl rfl rfl (Nat.le_of_ble_eq_true rfl) (s_fails (up G o_M 0 0) 2) ?_
        refine x_ireturn d_M_air_59 rfl ?_ (Nat.zero_le _) (Nat.zero_le _)
        rw [← hQ, hV0 (by omega)]
        exact ⟨_, rfl, mAns.no 0 eC⟩
      refine x_iload_n d_M_air_37 rfl rfl ?_
      refine x_iload_n d_M_air_38 rfl rfl ?_
      refine x_iload_n d_M_air_39 rfl rfl ?_
      refine x_S1 d_M_air_40 e_M_air_M_isCourse ⟨rfl, rfl, Nat.zero_le _, Nat.zero_le _⟩ rfl rfl (Nat.le_of_ble_eq_true rfl) (s_isCourse _ _ _ _) ?_
      refine x_if_eq (54) d_M_air_43 (by decide) (fun c3 => ?_) (fun c3 => ?_)
      · exact two (Or.inl c3)
      · refine x_iload d_M_air_46 rfl ?_
        refine x_S1 d_M_air_48 e_M_air_M_isMinute ⟨rfl, rfl, Nat.zero_le _, Nat.zero_le _⟩ rfl rfl (Nat.le_of_ble_eq_true rfl) (s_isMinute _ _) ?_
        refine x_if_ne (60) d_M_air_51 (by decide) (fun c4 => ?_) (fun c4 => ?_)
        · have q1 := f_wi_1 c1
          have q2 := f_wi_1 c2
          have q4 := f_wi_1 c4
          obtain ⟨x, rfl⟩ : ∃ x : Nat, w = x := ⟨w.toNat, by omega⟩
          obtain ⟨y, rfl⟩ : ∃ y : Nat, m = y := ⟨m.toNat, by omega⟩
          have eC : C = 0 := by rw [← hC]; unfold c_air; rw [if_neg n1, if_neg (fun z => by rcases z with z | z <;> omega)]
          refine x_aload_n d_M_air_60 rfl rfl ?_
          refine x_iload_n d_M_air_61 rfl rfl ?_
          refine x_iload_n d_M_air_62 rfl rfl ?_
          refine x_iload_n d_M_air_63 rfl rfl ?_
          refine x_iload d_M_air_64 rfl ?_
          refine x_VQ d_M_air_66 e_M_air_M_burns ⟨rfl, rfl, Nat.zero_le _, Nat.zero_le _⟩ rfl rfl rfl rfl (Nat.le_of_ble_eq_true rfl) (s_burns hh r (a, b, k, f) (by show -1 ≤ f ∧ f < _; omega)) (fun v τ hv => ?_)
          obtain ⟨rfl, G1, rfl, f1, sm⟩ := hv
          show x_A y_M_air 69 [some oM, some (xI a), some (xI b), some (xI k), some (xI f), some (xI (x : Int)), some (xI (y : Int))] [] (S0, G1) 0 0 Q
          have eV : G1 m_air (12 * y + x) = V := by rw [← hV]; unfold v_air; rw [hC, if_pos eC, Int.toNat_natCast, Int.toNat_natCast]; exact (sm.1 y (by omega)).2.1 x (by omega)
          refine x_aload_n d_M_air_69 rfl rfl ?_
          refine x_getF (kf := 55) d_M_air_70 rfl rfl rfl in_M f_M_135 ?_
          refine x_bipush (12) d_M_air_73 rfl ⟨by decide, by decide⟩ ?_
          refine x_iload d_M_air_75 rfl ?_
          refine x_imulN d_M_air_77 (by omega) (by omega) ?_
          refine x_iload d_M_air_78 rfl ?_
          refine x_iaddN d_M_air_80 (by omega) (by omega) ?_
          refine x_ialdN (12 * y + x) d_M_air_81 rfl (by omega) (by omega) ?_
          rw [eV]
          refine x_ireturn d_M_air_82 rfl ?_ (Nat.zero_le _) (Nat.zero_le _)
          rw [← hQ, eC]
          exact ⟨_, rfl, G1, rfl, f1.p, rfl⟩
        · exact two (Or.inr c4)
    · exact one (Or.inr c2)
def c_lost (h : HH) (a b k f w : Int) : Int := if f_wi f (-1) (h.2 2 - 1) = 0 ∨ f_wi w 0 (h.2 3 - 1) = 0 then 1 else if f_co a b k = 0 then 2 else 0
def v_lost (h : HH) (a b k f w : Int) : Int := if c_lost h a b k f w = 0 then (sk h (a, b, k, f) 20).2.2.1 w.toNat else 0
theorem s_lost {h : HH} {G : Nat → Nat → Int} (hh : Hwf h) (r0 : mRep h G) (a b k f w : Int) : x_M y_M_lost [oM, xI a, xI b, xI k, xI f, xI w] (S0, G) (fun r τ => ∃ v, r = .inl v ∧ mAns G (c_lost h a b k f w) (v_lost h a b k f w) v τ) := by
  have bb := hh.1
  have r := r0.th 0
  have e0 := r.1
  refine x_of 0 rfl (Nat.le_of_ble_eq_true rfl) ?_
  show x_A y_M_lost 0 [some oM, some (xI a), some (xI b), some (xI k), some (xI f), some (xI w)] [] (S0, G) 0 0 _
  generalize hV : v_lost h a b k f w = V
  generalize hC : c_lost h a b k f w = C
  generalize hQ : (fun (r : XRes) (τ : XM) => ∃ v, r = .inl v ∧ mAns G C V v τ) = Q
  have hV0 : C ≠ 0 → V = 0 := fun z => by rw [← hV]; unfold v_lost; rw [hC, if_neg z]
  have one : (f_wi f (-1) (h.2 2 - 1) = 0 ∨ f_wi w 0 (h.2 3 - 1) = 0) → x_A y_M_lost 31 [some oM, some (xI a), some (xI b), some (xI k), some (xI f), some (xI w)] [] (S0, up G o_M 0 0) 0 0 Q := by
    intro z
    have eC : C = 1 := by rw [← hC]; unfold c_lost; rw [if_pos z]
    refine x_aload_n d_M_lost_31 rfl rfl ?_
    refine x_iconst (1) d_M_lost_32 rfl ⟨by decide, by decide⟩ ?_
    refine x_V1 d_M_lost_33 e_M_lost_M_fails ⟨rfl, rfl, Nat.zero_le _, Nat.zero_le _⟩ rfl rfl rfl rfl (Nat.le_of_ble_eq_true rfl) (s_fails (up G o_M 0 0) 1) ?_
    refine x_ireturn d_M_lost_36 rfl ?_ (Nat.zero_le _) (Nat.zero_le _)
    rw [← hQ, hV0 (by omega)]
    exact ⟨_, rfl, mAns.no 0 eC⟩
  refine x_aload_n d_M_lost_0 rfl rfl ?_
  refine x_iconst (0) d_M_lost_1 rfl ⟨by decide, by decide⟩ ?_
  refine x_putIG (kf := 0) tyX12 d_M_lost_2 rfl rfl rfl in_M f_M_217 tyX12_ok nmX12 (by decide +kernel) rfl ?_
  refine x_aload_n d_M_lost_5 rfl rfl ?_
  refine x_iload d_M_lost_6 rfl ?_
  refine x_V1 d_M_lost_8 e_M_lost_M_isFire ⟨rfl, rfl, Nat.zero_le _, Nat.zero_le _⟩ rfl rfl rfl rfl (Nat.le_of_ble_eq_true rfl) (s_isFire hh r _) ?_
  refine x_if_eq (31) d_M_lost_11 (by decide) (fun c1 => ?_) (fun c1 => ?_)
  · exact one (Or.inl c1)
  · refine x_iload d_M_lost_14 rfl ?_
    refine x_i2l d_M_lost_16 ?_
    refine x_lconst (0) d_M_lost_17 rfl ⟨by decide, by decide⟩ ?_
    refine x_aload_n d_M_lost_18 rfl rfl ?_
    refine x_getIG (kf := 4) d_M_lost_19 rfl rfl rfl in_M f_M_256 ?_
    rw [e0.2.2.2.1]
    refine x_iconst (1) d_M_lost_22 rfl ⟨by decide, by decide⟩ ?_
    refine x_isubN d_M_lost_23 (by omega) (by omega) ?_
    refine x_i2l d_M_lost_24 ?_
    refine x_S1 d_M_lost_25 e_M_lost_M_within ⟨rfl, rfl, Nat.zero_le _, Nat.zero_le _⟩ rfl rfl (Nat.le_of_ble_eq_true rfl) (s_within _ _ _ _) ?_
    refine x_if_ne (37) d_M_lost_28 (by decide) (fun c2 => ?_) (fun c2 => ?_)
    · have c2 : f_wi w 0 (h.2 3 - 1) ≠ 0 := c2
      have n1 : ¬ (f_wi f (-1) (h.2 2 - 1) = 0 ∨ f_wi w 0 (h.2 3 - 1) = 0) := fun z => by rcases z with z | z <;> omega
      refine x_iload_n d_M_lost_37 rfl rfl ?_
      refine x_iload_n d_M_lost_38 rfl rfl ?_
      refine x_iload_n d_M_lost_39 rfl rfl ?_
      refine x_S1 d_M_lost_40 e_M_lost_M_isCourse ⟨rfl, rfl, Nat.zero_le _, Nat.zero_le _⟩ rfl rfl (Nat.le_of_ble_eq_true rfl) (s_isCourse _ _ _ _) ?_
      refine x_if_ne (52) d_M_lost_43 (by decide) (fun c3 => ?_) (fun c3 => ?_)
      · have q1 := f_wi_1 c1
        have q2 := f_wi_1 c2
        obtain ⟨x, rfl⟩ : ∃ x : Nat, w = x := ⟨w.toNat, by omega⟩
        have eC : C = 0 := by rw [← hC]; unfold c_lost; rw [if_neg n1, if_neg c3]
        refine x_aload_n d_M_lost_52 rfl rfl ?_
        refine x_iload_n d_M_lost_53 rfl rfl ?_
        refine x_iload_n d_M_lost_54 rfl rfl ?_
        refine x_iload_n d_M_lost_55 rfl rfl ?_
        refine x_iload d_M_lost_56 rfl ?_
        refine x_VQ d_M_lost_58 e_M_lost_M_burns ⟨rfl, rfl, Nat.zero_le _, Nat.zero_le _⟩ rfl rfl rfl rfl (Nat.le_of_ble_eq_true rfl) (s_burns hh r (a, b, k, f) (by show -1 ≤ f ∧ f < _; omega)) (fun v τ hv => ?_)
        obtain ⟨rfl, G1, rfl, f1, sm⟩ := hv
        show x_A y_M_lost 61 [some oM, some (xI a), some (xI b), some (xI k), some (xI f), some (xI (x : Int))] [] (S0, G1) 0 0 Q
        have eV : G1 m_lostAt x = V := by rw [← hV]; unfold v_lost; rw [hC, if_pos eC, Int.toNat_natCast]; exact sm.2 x (by omega)
        refine x_aload_n d_M_lost_61 rfl rfl ?_
        refine x_getF (kf := 56) d_M_lost_62 rfl rfl rfl in_M f_M_138 ?_
        refine x_iload d_M_lost_65 rfl ?_
        refine x_ialdN (x) d_M_lost_67 rfl (by omega) (by omega) ?_
        rw [eV]
        refine x_ireturn d_M_lost_68 rfl ?_ (Nat.zero_le _) (Nat.zero_le _)
        rw [← hQ, eC]
        exact ⟨_, rfl, G1, rfl, f1.p, rfl⟩
      · have eC : C = 2 := by rw [← hC]; unfold c_lost; rw [if_neg n1, if_pos c3]
        refine x_aload_n d_M_lost_46 rfl rfl ?_
        refine x_iconst (2) d_M_lost_47 rfl ⟨by decide, by decide⟩ ?_
        refine x_V1 d_M_lost_48 e_M_lost_M_fails ⟨rfl, rfl, Nat.zero_le _, Nat.zero_le _⟩ rfl rfl rfl rfl (Nat.le_of_ble_eq_true rfl) (s_fails (up G o_M 0 0) 2) ?_
        refine x_ireturn d_M_lost_51 rfl ?_ (Nat.zero_le _) (Nat.zero_le _)
        rw [← hQ, hV0 (by omega)]
        exact ⟨_, rfl, mAns.no 0 eC⟩
    · exact one (Or.inr c2)
noncomputable def v_out (h : HH) (a b k f by' : Int) : Int := if c_reg h a b k f by' = 0 then f_out h (a, b, k, f) by'.toNat (f_made h (h.2 6)) else 0
theorem s_out {h : HH} {G : Nat → Nat → Int} (hh : Hwf h) (r0 : mRep h G) (a b k f by' : Int) : x_M y_M_out [oM, xI a, xI b, xI k, xI f, xI by'] (S0, G) (fun r τ => ∃ v, r = .inl v ∧ mAns G (c_reg h a b k f by') (v_out h a b k f by') v τ) := by
  have r := r0.th 0
  refine x_of 0 rfl (Nat.le_of_ble_eq_true rfl) ?_
  show x_A y_M_out 0 [some oM, some (xI a), some (xI b), some (xI k), some (xI f), some (xI by')] [] (S0, G) 0 0 _
  generalize hV : v_out h a b k f by' = V
  generalize hC : c_reg h a b k f by' = C
  generalize hQ : (fun (r : XRes) (τ : XM) => ∃ v, r = .inl v ∧ mAns G C V v τ) = Q
  have hV0 : C ≠ 0 → V = 0 := fun z => by rw [← hV]; unfold v_out; rw [hC, if_neg z]
  refine x_aload_n d_M_out_0 rfl rfl ?_
  refine x_iconst (0) d_M_out_1 rfl ⟨by decide, by decide⟩ ?_
  refine x_putIG (kf := 0) tyX12 d_M_out_2 rfl rfl rfl in_M f_M_217 tyX12_ok nmX12 (by decide +kernel) rfl ?_
  refine x_aload_n d_M_out_5 rfl rfl ?_
  refine x_iload d_M_out_6 rfl ?_
  refine x_V1 d_M_out_8 e_M_out_M_isFire ⟨rfl, rfl, Nat.zero_le _, Nat.zero_le _⟩ rfl rfl rfl rfl (Nat.le_of_ble_eq_true rfl) (s_isFire hh r _) ?_
  refine x_if_ne (20) d_M_out_11 (by decide) (fun c1 => ?_) (fun c1 => ?_)
  · refine x_iload_n d_M_out_20 rfl rfl ?_
    refine x_iload_n d_M_out_21 rfl rfl ?_
    refine x_iload_n d_M_out_22 rfl rfl ?_
    refine x_S1 d_M_out_23 e_M_out_M_isCourse ⟨rfl, rfl, Nat.zero_le _, Nat.zero_le _⟩ rfl rfl (Nat.le_of_ble_eq_true rfl) (s_isCourse _ _ _ _) ?_
    have two : (f_co a b k = 0 ∨ f_wi by' 0 20 = 0) → x_A y_M_out 37 [some oM, some (xI a), some (xI b), some (xI k), some (xI f), some (xI by')] [] (S0, up G o_M 0 0) 0 0 Q := by
      intro z
      have eC : C = 2 := by rw [← hC]; unfold c_reg; rw [if_neg c1, if_pos z]
      refine x_aload_n d_M_out_37 rfl rfl ?_
      refine x_iconst (2) d_M_out_38 rfl ⟨by decide, by decide⟩ ?_
      refine x_V1 d_M_out_39 e_M_out_M_fails ⟨rfl, rfl, Nat.zero_le _, Nat.zero_le _⟩ rfl rfl rfl rfl (Nat.le_of_ble_eq_true rfl) (s_fails (up G o_M 0 0) 2) ?_
      refine x_ireturn d_M_out_42 rfl ?_ (Nat.zero_le _) (Nat.zero_le _)
      rw [← hQ, hV0 (by omega)]
      exact ⟨_, rfl, mAns.no 0 eC⟩
    refine x_if_eq (37) d_M_out_26 (by decide) (fun c2 => ?_) (fun c2 => ?_)
    · exact two (Or.inl c2)
    · refine x_iload d_M_out_29 rfl ?_
      refine x_S1 d_M_out_31 e_M_out_M_isMinute ⟨rfl, rfl, Nat.zero_le _, Nat.zero_le _⟩ rfl rfl (Nat.le_of_ble_eq_true rfl) (s_isMinute _ _) ?_
      refine x_if_ne (43) d_M_out_34 (by decide) (fun c3 => ?_) (fun c3 => ?_)
      · have q1 := f_wi_1 c1
        have q3 := f_wi_1 c3
        obtain ⟨y, rfl⟩ : ∃ y : Nat, by' = y := ⟨by'.toNat, by omega⟩
        have eC : C = 0 := by rw [← hC]; unfold c_reg; rw [if_neg c1, if_neg (fun z => by rcases z with z | z <;> omega)]
        have eV : f_out h (a, b, k, f) y (f_made h (h.2 6)) = V := by rw [← hV]; unfold v_out; rw [hC, if_pos eC, Int.toNat_natCast]
        refine x_aload_n d_M_out_43 rfl rfl ?_
        refine x_iload_n d_M_out_44 rfl rfl ?_
        refine x_iload_n d_M_out_45 rfl rfl ?_
        refine x_iload_n d_M_out_46 rfl rfl ?_
        refine x_iload d_M_out_47 rfl ?_
        refine x_iload d_M_out_49 rfl ?_
        refine x_VQ d_M_out_51 e_M_out_M_outBy ⟨rfl, rfl, Nat.zero_le _, Nat.zero_le _⟩ rfl rfl rfl rfl (Nat.le_of_ble_eq_true rfl) (s_outBy hh r (a, b, k, f) (by show -1 ≤ f ∧ f < _; omega) y (by omega)) (fun v τ hv => ?_)
        obtain ⟨G4, rfl, f4, -, rfl, o1, o2⟩ := hv.val hh
        rw [eV]
        show x_A y_M_out 54 [some oM, some (xI a), some (xI b), some (xI k), some (xI f), some (xI (y : Int))] [xI V] (S0, G4) 0 0 Q
        refine x_ireturn d_M_out_54 rfl ?_ (Nat.zero_le _) (Nat.zero_le _)
        rw [← hQ, eC]
        exact ⟨_, rfl, G4, rfl, f4.p, rfl⟩
      · exact two (Or.inr c3)
  · have eC : C = 1 := by rw [← hC]; unfold c_reg; rw [if_pos c1]
    refine x_aload_n d_M_out_14 rfl rfl ?_
    refine x_iconst (1) d_M_out_15 rfl ⟨by decide, by decide⟩ ?_
    refine x_V1 d_M_out_16 e_M_out_M_fails ⟨rfl, rfl, Nat.zero_le _, Nat.zero_le _⟩ rfl rfl rfl rfl (Nat.le_of_ble_eq_true rfl) (s_fails (up G o_M 0 0) 1) ?_
    refine x_ireturn d_M_out_19 rfl ?_ (Nat.zero_le _) (Nat.zero_le _)
    rw [← hQ, hV0 (by omega)]
    exact ⟨_, rfl, mAns.no 0 eC⟩
def c_all (h : HH) (a b k f : Int) : Int := if f_wi f (-1) (h.2 2 - 1) = 0 then 1 else if f_co a b k = 0 then 2 else 0
/-- the first minute of the last n by which all are out -/
noncomputable def f_all (h : HH) (c : CC) : Nat → Int
  | 0 => -1
  | n + 1 => if f_out h c (20 - n) (f_made h (h.2 6)) = f_people h then ((20 - n : Nat) : Int) else f_all h c n
noncomputable def v_all (h : HH) (a b k f : Int) : Int := if c_all h a b k f = 0 then f_all h (a, b, k, f) 21 else 0
theorem s_all {h : HH} {G : Nat → Nat → Int} (hh : Hwf h) (r0 : mRep h G) (a b k f : Int) : x_M y_M_all [oM, xI a, xI b, xI k, xI f] (S0, G) (fun r τ => ∃ v, r = .inl v ∧ mAns G (c_all h a b k f) (v_all h a b k f) v τ) := by
  have r := r0.th 0
  refine x_of 1 rfl (Nat.le_of_ble_eq_true rfl) ?_
  show x_A y_M_all 0 [some oM, some (xI a), some (xI b), some (xI k), some (xI f), none] [] (S0, G) 0 0 _
  generalize hV : v_all h a b k f = V
  generalize hC : c_all h a b k f = C
  generalize hQ : (fun (r : XRes) (τ : XM) => ∃ v, r = .inl v ∧ mAns G C V v τ) = Q
  have hV0 : C ≠ 0 → V = 0 := fun z => by rw [← hV]; unfold v_all; rw [hC, if_neg z]
  refine x_aload_n d_M_all_0 rfl rfl ?_
  refine x_iconst (0) d_M_all_1 rfl ⟨by decide, by decide⟩ ?_
  refine x_putIG (kf := 0) tyX12 d_M_all_2 rfl rfl rfl in_M f_M_217 tyX12_ok nmX12 (by decide +kernel) rfl ?_
  refine x_aload_n d_M_all_5 rfl rfl ?_
  refine x_iload d_M_all_6 rfl ?_
  refine x_V1 d_M_all_8 e_M_all_M_isFire ⟨rfl, rfl, Nat.zero_le _, Nat.zero_le _⟩ rfl rfl rfl rfl (Nat.le_of_ble_eq_true rfl) (s_isFire hh r _) ?_
  refine x_if_ne (20) d_M_all_11 (by decide) (fun c1 => ?_) (fun c1 => ?_)
  · refine x_iload_n d_M_all_20 rfl rfl ?_
    refine x_iload_n d_M_all_21 rfl rfl ?_
    refine x_iload_n d_M_all_22 rfl rfl ?_
    refine x_S1 d_M_all_23 e_M_all_M_isCourse ⟨rfl, rfl, Nat.zero_le _, Nat.zero_le _⟩ rfl rfl (Nat.le_of_ble_eq_true rfl) (s_isCourse _ _ _ _) ?_
    refine x_if_ne (35) d_M_all_26 (by decide) (fun c2 => ?_) (fun c2 => ?_)
    · have q1 := f_wi_1 c1
      have eC : C = 0 := by rw [← hC]; unfold c_all; rw [if_neg c1, if_neg c2]
      have eV : f_all h (a, b, k, f) 21 = V := by rw [← hV]; unfold v_all; rw [hC, if_pos eC]
      refine x_iconst (0) d_M_all_35 rfl ⟨by decide, by decide⟩ ?_
      refine x_istore d_M_all_36 (by decide) ?_
      dsimp only [x_st1, x_st2, x_kill, List.set, List.getElem?_cons_zero, List.getElem?_cons_succ]
      have all : ∀ G', pFrame (up G o_M 0 0) G' → f_all h (a, b, k, f) (21 - 0) = V → x_A y_M_all 38 [some oM, some (xI a), some (xI b), some (xI k), some (xI f), some (xI ((0 : Nat) : Int))] [] (S0, G') 0 0 Q := by
        refine x_up_to (P := fun y => ∀ G', pFrame (up G o_M 0 0) G' → f_all h (a, b, k, f) (21 - y) = V → x_A y_M_all 38 [some oM, some (xI a), some (xI b), some (xI k), some (xI f), some (xI (y : Int))] [] (S0, G') 0 0 Q) 0 21 (Nat.zero_le _) ?_ (fun y _ hy k1 => ?_)
        · intro G2 f2 e
          refine x_iload d_M_all_38 rfl ?_
          refine x_bipush (20) d_M_all_40 rfl ⟨by decide, by decide⟩ ?_
          refine x_icmp_gt (72) d_M_all_42 (by decide) (fun c4 => ?_) (fun c4 => ?_)
          · refine x_iconst (-1) d_M_all_72 rfl ⟨by decide, by decide⟩ ?_
            refine x_ireturn d_M_all_73 rfl ?_ (Nat.zero_le _) (Nat.zero_le _)
            have e : -1 = V := e
            rw [← hQ, eC, ← e]
            exact ⟨_, rfl, G2, rfl, f2, rfl⟩
          · omega
        · intro G2 f2 e
          have r2 := f2.rep r
          obtain ⟨n, hn⟩ : ∃ n, 21 - y = n + 1 := ⟨20 - y, by omega⟩
          have st : f_all h (a, b, k, f) (n + 1) = if f_out h (a, b, k, f) (20 - n) (f_made h (h.2 6)) = f_people h then ((20 - n : Nat) : Int) else f_all h (a, b, k, f) n := rfl
          rw [show 20 - n = y by omega] at st
          rw [hn, st] at e
          refine x_iload d_M_all_38 rfl ?_
          refine x_bipush (20) d_M_all_40 rfl ⟨by decide, by decide⟩ ?_
          refine x_icmp_gt (72) d_M_all_42 (by decide) (fun c4 => ?_) (fun c4 => ?_)
          · omega
          · refine x_aload_n d_M_all_45 rfl rfl ?_
            refine x_iload_n d_M_all_46 rfl rfl ?_
            refine x_iload_n d_M_all_47 rfl rfl ?_
            refine x_iload_n d_M_all_48 rfl rfl ?_
            refine x_iload d_M_all_49 rfl ?_
            refine x_iload d_M_all_51 rfl ?_
            refine x_VQ d_M_all_53 e_M_all_M_outBy ⟨rfl, rfl, Nat.zero_le _, Nat.zero_le _⟩ rfl rfl rfl rfl (Nat.le_of_ble_eq_true rfl) (s_outBy hh r2 (a, b, k, f) (by show -1 ≤ f ∧ f < _; omega) y (by omega)) (fun v τ hv => ?_)
            obtain ⟨G4, rfl, f4, -, rfl, o1, o2⟩ := hv.val hh
            show x_A y_M_all 56 [some oM, some (xI a), some (xI b), some (xI k), some (xI f), some (xI (y : Int))] [xI (f_out h (a, b, k, f) y (f_made h (h.2 6)))] (S0, G4) 0 0 Q
            refine x_aload_n d_M_all_56 rfl rfl ?_
            refine x_V1 d_M_all_57 e_M_all_M_people ⟨rfl, rfl, Nat.zero_le _, Nat.zero_le _⟩ rfl rfl rfl rfl (Nat.le_of_ble_eq_true rfl) (s_people hh (f4.rep r2)) ?_
            refine x_icmp_ne (66) d_M_all_60 (by decide) (fun c5 => ?_) (fun c5 => ?_)
            · rw [if_neg c5] at e
              refine x_iincN d_M_all_66 rfl (by decide) (by omega) (by omega) ?_
              dsimp only [x_st1, x_st2, x_kill, List.set, List.getElem?_cons_zero, List.getElem?_cons_succ]
              refine x_goto (38) d_M_all_69 (by decide) ?_
              exact k1 G4 (f2.tr f4.p) (by rw [show 21 - (y + 1) = n by omega]; exact e)
            · rw [if_pos c5] at e
              refine x_iload d_M_all_63 rfl ?_
              rw [e]
              refine x_ireturn d_M_all_65 rfl ?_ (Nat.zero_le _) (Nat.zero_le _)
              rw [← hQ, eC]
              exact ⟨_, rfl, G4, rfl, f2.tr f4.p, rfl⟩
      exact all _ (pFrame.rf _) eV
    · have eC : C = 2 := by rw [← hC]; unfold c_all; rw [if_neg c1, if_pos c2]
      refine x_aload_n d_M_all_29 rfl rfl ?_
      refine x_iconst (2) d_M_all_30 rfl ⟨by decide, by decide⟩ ?_
      refine x_V1 d_M_all_31 e_M_all_M_fails ⟨rfl, rfl, Nat.zero_le _, Nat.zero_le _⟩ rfl rfl rfl rfl (Nat.le_of_ble_eq_true rfl) (s_fails (up G o_M 0 0) 2) ?_
      refine x_ireturn d_M_all_34 rfl ?_ (Nat.zero_le _) (Nat.zero_le _)
      rw [← hQ, hV0 (by omega)]
      exact ⟨_, rfl, mAns.no 0 eC⟩
  · have eC : C = 1 := by rw [← hC]; unfold c_all; rw [if_pos c1]
    refine x_aload_n d_M_all_14 rfl rfl ?_
    refine x_iconst (1) d_M_all_15 rfl ⟨by decide, by decide⟩ ?_
    refine x_V1 d_M_all_16 e_M_all_M_fails ⟨rfl, rfl, Nat.zero_le _, Nat.zero_le _⟩ rfl rfl rfl rfl (Nat.le_of_ble_eq_true rfl) (s_fails (up G o_M 0 0) 1) ?_
    refine x_ireturn d_M_all_19 rfl ?_ (Nat.zero_le _) (Nat.zero_le _)
    rw [← hQ, hV0 (by omega)]
    exact ⟨_, rfl, mAns.no 0 eC⟩
