/-! the reference: what may be asked -/
def f_wi (a b c : Int) : Int := if b ≤ a ∧ a ≤ c then 1 else 0
theorem s_isMinute (σ : XM) (a : Int) : x_M y_M_isMinute [xI a] σ (x_is (.inl (some (xI (f_wi a 0 20)))) σ) := by
  refine x_of 0 rfl (Nat.le_of_ble_eq_true rfl) ?_
  show x_A y_M_isMinute 0 [some (xI a)] [] σ 0 0 _
  refine x_iload_n d_M_isMinute_0 rfl rfl ?_
  refine x_i2l d_M_isMinute_1 ?_
  refine x_lconst (0) d_M_isMinute_2 rfl ⟨by decide, by decide⟩ ?_
  refine x_ldc2 (20) d_M_isMinute_3 k_M_220 ⟨by decide, by decide⟩ ?_
  refine x_S1 d_M_isMinute_6 e_M_isMinute_M_within ⟨rfl, rfl, Nat.zero_le _, Nat.zero_le _⟩ rfl rfl (Nat.le_of_ble_eq_true rfl) (s_within _ _ _ _) ?_
  refine x_zreturn d_M_isMinute_9 rfl (by first | exact Or.inl rfl | exact Or.inr rfl | (split <;> first | exact Or.inl rfl | exact Or.inr rfl) | assumption) ?_ (Nat.zero_le _) (Nat.zero_le _)
  exact ⟨rfl, rfl⟩
theorem s_isPlan (σ : XM) (a : Int) : x_M y_M_isPlan [xI a] σ (x_is (.inl (some (xI (f_wi a 0 3)))) σ) := by
  refine x_of 0 rfl (Nat.le_of_ble_eq_true rfl) ?_
  show x_A y_M_isPlan 0 [some (xI a)] [] σ 0 0 _
  refine x_iload_n d_M_isPlan_0 rfl rfl ?_
  refine x_i2l d_M_isPlan_1 ?_
  refine x_lconst (0) d_M_isPlan_2 rfl ⟨by decide, by decide⟩ ?_
  refine x_ldc2 (3) d_M_isPlan_3 k_M_226 ⟨by decide, by decide⟩ ?_
  refine x_S1 d_M_isPlan_6 e_M_isPlan_M_within ⟨rfl, rfl, Nat.zero_le _, Nat.zero_le _⟩ rfl rfl (Nat.le_of_ble_eq_true rfl) (s_within _ _ _ _) ?_
  refine x_zreturn d_M_isPlan_9 rfl (by first | exact Or.inl rfl | exact Or.inr rfl | (split <;> first | exact Or.inl rfl | exact Or.inr rfl) | assumption) ?_ (Nat.zero_le _) (Nat.zero_le _)
  exact ⟨rfl, rfl⟩
theorem s_isRow (σ : XM) (a : Int) : x_M y_M_isRow [xI a] σ (x_is (.inl (some (xI (f_wi a 0 3)))) σ) := by
  refine x_of 0 rfl (Nat.le_of_ble_eq_true rfl) ?_
  show x_A y_M_isRow 0 [some (xI a)] [] σ 0 0 _
  refine x_iload_n d_M_isRow_0 rfl rfl ?_
  refine x_i2l d_M_isRow_1 ?_
  refine x_lconst (0) d_M_isRow_2 rfl ⟨by decide, by decide⟩ ?_
  refine x_ldc2 (3) d_M_isRow_3 k_M_226 ⟨by decide, by decide⟩ ?_
  refine x_S1 d_M_isRow_6 e_M_isRow_M_within ⟨rfl, rfl, Nat.zero_le _, Nat.zero_le _⟩ rfl rfl (Nat.le_of_ble_eq_true rfl) (s_within _ _ _ _) ?_
  refine x_zreturn d_M_isRow_9 rfl (by first | exact Or.inl rfl | exact Or.inr rfl | (split <;> first | exact Or.inl rfl | exact Or.inr rfl) | assumption) ?_ (Nat.zero_le _) (Nat.zero_le _)
  exact ⟨rfl, rfl⟩
theorem s_isPiece {h : HH} {G : Nat → Nat → Int} (hh : Hwf h) (r : mRep h G) (a : Int) : x_M y_M_isPiece [oM, xI a] (S0, G) (x_is (.inl (some (xI (f_wi a 0 (h.2 0 - 1))))) (S0, G)) := by
  have b := hh.1
  have e0 := r.1
  refine x_of 0 rfl (Nat.le_of_ble_eq_true rfl) ?_
  show x_A y_M_isPiece 0 [some oM, some (xI a)] [] (S0, G) 0 0 _
  refine x_iload_n d_M_isPiece_0 rfl rfl ?_
  refine x_i2l d_M_isPiece_1 ?_
  refine x_lconst (0) d_M_isPiece_2 rfl ⟨by decide, by decide⟩ ?_
  refine x_aload_n d_M_isPiece_3 rfl rfl ?_
  refine x_getIG (kf := 1) d_M_isPiece_4 rfl rfl rfl in_M f_M_228 ?_
  rw [e0.1]
  refine x_iconst (1) d_M_isPiece_7 rfl ⟨by decide, by decide⟩ ?_
  refine x_isubN d_M_isPiece_8 (by omega) (by omega) ?_
  refine x_i2l d_M_isPiece_9 ?_
  refine x_S1 d_M_isPiece_10 e_M_isPiece_M_within ⟨rfl, rfl, Nat.zero_le _, Nat.zero_le _⟩ rfl rfl (Nat.le_of_ble_eq_true rfl) (s_within _ _ _ _) ?_
  refine x_zreturn d_M_isPiece_13 rfl (by first | exact Or.inl rfl | exact Or.inr rfl | (split <;> first | exact Or.inl rfl | exact Or.inr rfl) | assumption) ?_ (Nat.zero_le _) (Nat.zero_le _)
  exact ⟨rfl, rfl⟩
theorem s_isFire {h : HH} {G : Nat → Nat → Int} (hh : Hwf h) (r : mRep h G) (a : Int) : x_M y_M_isFire [oM, xI a] (S0, G) (x_is (.inl (some (xI (f_wi a (-1) (h.2 2 - 1))))) (S0, G)) := by
  have b := hh.1
  have e0 := r.1
  refine x_of 0 rfl (Nat.le_of_ble_eq_true rfl) ?_
  show x_A y_M_isFire 0 [some oM, some (xI a)] [] (S0, G) 0 0 _
  refine x_iload_n d_M_isFire_0 rfl rfl ?_
  refine x_i2l d_M_isFire_1 ?_
  refine x_ldc2 (-1) d_M_isFire_2 k_M_317 ⟨by decide, by decide⟩ ?_
  refine x_aload_n d_M_isFire_5 rfl rfl ?_
  refine x_getIG (kf := 3) d_M_isFire_6 rfl rfl rfl in_M f_M_253 ?_
  rw [e0.2.2.1]
  refine x_iconst (1) d_M_isFire_9 rfl ⟨by decide, by decide⟩ ?_
  refine x_isubN d_M_isFire_10 (by omega) (by omega) ?_
  refine x_i2l d_M_isFire_11 ?_
  refine x_S1 d_M_isFire_12 e_M_isFire_M_within ⟨rfl, rfl, Nat.zero_le _, Nat.zero_le _⟩ rfl rfl (Nat.le_of_ble_eq_true rfl) (s_within _ _ _ _) ?_
  refine x_zreturn d_M_isFire_15 rfl (by first | exact Or.inl rfl | exact Or.inr rfl | (split <;> first | exact Or.inl rfl | exact Or.inr rfl) | assumption) ?_ (Nat.zero_le _) (Nat.zero_le _)
  exact ⟨rfl, rfl⟩
def f_co (a b c : Int) : Int := if f_wi a 0 3 = 1 ∧ f_wi b 0 3 = 1 ∧ f_wi c 0 21 = 1 then 1 else 0
theorem f_wi_01 (a b c : Int) : f_wi a b c = 0 ∨ f_wi a b c = 1 := by unfold f_wi; split <;> omega
theorem s_isCourse (σ : XM) (a b c : Int) : x_M y_M_isCourse [xI a, xI b, xI c] σ (x_is (.inl (some (xI (f_co a b c)))) σ) := by
  have q1 := f_wi_01 a 0 3
  have q2 := f_wi_01 b 0 3
  have q3 := f_wi_01 c 0 21
  refine x_of 0 rfl (Nat.le_of_ble_eq_true rfl) ?_
  show x_A y_M_isCourse 0 [some (xI a), some (xI b), some (xI c)] [] σ 0 0 _
  refine x_iload_n d_M_isCourse_0 rfl rfl ?_
  refine x_S1 d_M_isCourse_1 e_M_isCourse_M_isPlan ⟨rfl, rfl, Nat.zero_le _, Nat.zero_le _⟩ rfl rfl (Nat.le_of_ble_eq_true rfl) (s_isPlan _ _) ?_
  refine x_if_eq (30) d_M_isCourse_4 (by decide) (fun c1 => ?_) (fun c1 => ?_)
  · refine x_iconst (0) d_M_isCourse_30 rfl ⟨by decide, by decide⟩ ?_
    refine x_zreturn d_M_isCourse_31 rfl (by first | exact Or.inl rfl | exact Or.inr rfl | (split <;> first | exact Or.inl rfl | exact Or.inr rfl) | assumption) ?_ (Nat.zero_le _) (Nat.zero_le _)
    have : f_co a b c = 0 := by unfold f_co; rw [if_neg (by omega)]
    rw [this]; exact ⟨rfl, rfl⟩
  · refine x_iload_n d_M_isCourse_7 rfl rfl ?_
    refine x_S1 d_M_isCourse_8 e_M_isCourse_M_isPlan ⟨rfl, rfl, Nat.zero_le _, Nat.zero_le _⟩ rfl rfl (Nat.le_of_ble_eq_true rfl) (s_isPlan _ _) ?_
    refine x_if_eq (30) d_M_isCourse_11 (by decide) (fun c2 => ?_) (fun c2 => ?_)
    · refine x_iconst (0) d_M_isCourse_30 rfl ⟨by decide, by decide⟩ ?_
      refine x_zreturn d_M_isCourse_31 rfl (by first | exact Or.inl rfl | exact Or.inr rfl | (split <;> first | exact Or.inl rfl | exact Or.inr rfl) | assumption) ?_ (Nat.zero_le _) (Nat.zero_le _)
      have : f_co a b c = 0 := by unfold f_co; rw [if_neg (by omega)]
      rw [this]; exact ⟨rfl, rfl⟩
    · refine x_iload_n d_M_isCourse_14 rfl rfl ?_
      refine x_i2l d_M_isCourse_15 ?_
      refine x_lconst (0) d_M_isCourse_16 rfl ⟨by decide, by decide⟩ ?_
      refine x_ldc2 (21) d_M_isCourse_17 k_M_303 ⟨by decide, by decide⟩ ?_
      refine x_S1 d_M_isCourse_20 e_M_isCourse_M_within ⟨rfl, rfl, Nat.zero_le _, Nat.zero_le _⟩ rfl rfl (Nat.le_of_ble_eq_true rfl) (s_within _ _ _ _) ?_
      refine x_if_eq (30) d_M_isCourse_23 (by decide) (fun c3 => ?_) (fun c3 => ?_)
      · refine x_iconst (0) d_M_isCourse_30 rfl ⟨by decide, by decide⟩ ?_
        refine x_zreturn d_M_isCourse_31 rfl (by first | exact Or.inl rfl | exact Or.inr rfl | (split <;> first | exact Or.inl rfl | exact Or.inr rfl) | assumption) ?_ (Nat.zero_le _) (Nat.zero_le _)
        have c3 : f_wi c 0 21 = 0 := c3
        have : f_co a b c = 0 := by unfold f_co; rw [if_neg (by omega)]
        rw [this]; exact ⟨rfl, rfl⟩
      · refine x_iconst (1) d_M_isCourse_26 rfl ⟨by decide, by decide⟩ ?_
        refine x_goto (31) d_M_isCourse_27 (by decide) ?_
        refine x_zreturn d_M_isCourse_31 rfl (by first | exact Or.inl rfl | exact Or.inr rfl | (split <;> first | exact Or.inl rfl | exact Or.inr rfl) | assumption) ?_ (Nat.zero_le _) (Nat.zero_le _)
        have c3 : f_wi c 0 21 ≠ 0 := c3
        have : f_co a b c = 1 := by unfold f_co; rw [if_pos (by omega)]
        rw [this]; exact ⟨rfl, rfl⟩
theorem s_fails (G : Nat → Nat → Int) (a : Int) : x_M y_M_fails [oM, xI a] (S0, G) (x_is (.inl (some (xI 0))) (S0, up G o_M 0 a)) := by
  refine x_of 0 rfl (Nat.le_of_ble_eq_true rfl) ?_
  show x_A y_M_fails 0 [some oM, some (xI a)] [] (S0, G) 0 0 _
  refine x_aload_n d_M_fails_0 rfl rfl ?_
  refine x_iload_n d_M_fails_1 rfl rfl ?_
  refine x_putIG (kf := 0) tyX12 d_M_fails_2 rfl rfl rfl in_M f_M_217 tyX12_ok nmX12 (by decide +kernel) rfl ?_
  refine x_iconst (0) d_M_fails_5 rfl ⟨by decide, by decide⟩ ?_
  refine x_ireturn d_M_fails_6 rfl ?_ (Nat.zero_le _) (Nat.zero_le _)
  exact ⟨rfl, rfl⟩
