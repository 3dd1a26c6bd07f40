/-! the reference: smoke, shut, side, alike -/
def mAnsL (G : Nat → Nat → Int) (code V : Int) : Option XV → XM → Prop := fun v τ => ∃ G', τ = (S0, G') ∧ pFrame (up G o_M 0 code) G' ∧ v = some (xL V)
theorem mAnsL.no {G : Nat → Nat → Int} {code c' : Int} (V : Int) (e : c' = code) : mAnsL G c' V (some (xL V)) (S0, up (up G o_M 0 0) o_M 0 code) := by
  subst e
  refine ⟨_, rfl, ?_, rfl⟩
  rw [up_on]
  exact pFrame.rf _
def v_smo (h : HH) (a b k f w m u : Int) : Int := if c_air h 0 a b k f w m = 0 then (if u = 0 then (sk h (a, b, k, f) m.toNat).2.1 w.toNat else (sk h (a, b, k, f) m.toNat).1 w.toNat) else 0
theorem s_smoke {h : HH} {G : Nat → Nat → Int} (hh : Hwf h) (r0 : mRep h G) (a b k f w m u : Int) : x_M y_M_smoke [oM, xI a, xI b, xI k, xI f, xI w, xI m, xI u] (S0, G) (fun r τ => ∃ v, r = .inl v ∧ mAnsL G (c_air h 0 a b k f w m) (v_smo h a b k f w m u) v τ) := by
  have bb := hh.1
  have r := r0.th 0
  refine x_of 0 rfl (Nat.le_of_ble_eq_true rfl) ?_
  show x_A y_M_smoke 0 [some oM, some (xI a), some (xI b), some (xI k), some (xI f), some (xI w), some (xI m), some (xI u)] [] (S0, G) 0 0 _
  generalize hV : v_smo h a b k f w m u = V
  generalize hC : c_air h 0 a b k f w m = C
  generalize hQ : (fun (r : XRes) (τ : XM) => ∃ v, r = .inl v ∧ mAnsL G C V v τ) = Q
  have hV0 : C ≠ 0 → V = 0 := fun z => by rw [← hV]; unfold v_smo; rw [hC, if_neg z]
  have one : (f_wi f (-1) (h.2 2 - 1) = 0 ∨ f_wi w 0 (h.2 0 - 1) = 0) → x_A y_M_smoke 23 [some oM, some (xI a), some (xI b), some (xI k), some (xI f), some (xI w), some (xI m), some (xI u)] [] (S0, up G o_M 0 0) 0 0 Q := by
    intro z
    have eC : C = 1 := by rw [← hC]; unfold c_air; rw [if_pos z]
    refine x_aload_n d_M_smoke_23 rfl rfl ?_
    refine x_iconst (1) d_M_smoke_24 rfl ⟨by decide, by decide⟩ ?_
    refine x_V1 d_M_smoke_25 e_M_smoke_M_fails ⟨rfl, rfl, Nat.zero_le _, Nat.zero_le _⟩ rfl rfl rfl rfl (Nat.le_of_ble_eq_true rfl) (s_fails (up G o_M 0 0) 1) ?_
    refine x_i2l d_M_smoke_28 ?_
    refine x_lreturn d_M_smoke_29 rfl ?_ (Nat.zero_le _) (Nat.zero_le _)
    rw [← hQ, hV0 (by omega)]
    exact ⟨_, rfl, mAnsL.no 0 eC⟩
  refine x_aload_n d_M_smoke_0 rfl rfl ?_
  refine x_iconst (0) d_M_smoke_1 rfl ⟨by decide, by decide⟩ ?_
  refine x_putIG (kf := 0) tyX12 d_M_smoke_2 rfl rfl rfl in_M f_M_217 tyX12_ok nmX12 (by decide +kernel) rfl ?_
  refine x_aload_n d_M_smoke_5 rfl rfl ?_
  refine x_iload d_M_smoke_6 rfl ?_
  refine x_V1 d_M_smoke_8 e_M_smoke_M_isFire ⟨rfl, rfl, Nat.zero_le _, Nat.zero_le _⟩ rfl rfl rfl rfl (Nat.le_of_ble_eq_true rfl) (s_isFire hh r _) ?_
  refine x_if_eq (23) d_M_smoke_11 (by decide) (fun c1 => ?_) (fun c1 => ?_)
  · exact one (Or.inl c1)
  · refine x_aload_n d_M_smoke_14 rfl rfl ?_
    refine x_iload d_M_smoke_15 rfl ?_
    refine x_V1 d_M_smoke_17 e_M_smoke_M_isPiece ⟨rfl, rfl, Nat.zero_le _, Nat.zero_le _⟩ rfl rfl rfl rfl (Nat.le_of_ble_eq_true rfl) (s_isPiece hh r _) ?_
    refine x_if_ne (30) d_M_smoke_20 (by decide) (fun c2 => ?_) (fun c2 => ?_)
    · have n1 : ¬ (f_wi f (-1) (h.2 2 - 1) = 0 ∨ f_wi w 0 (h.2 0 - 1) = 0) := fun z => by rcases z with z | z <;> omega
      have two : (f_co a b k = 0 ∨ f_wi m 0 20 = 0) → x_A y_M_smoke 47 [some oM, some (xI a), some (xI b), some (xI k), some (xI f), some (xI w), some (xI m), some (xI u)] [] (S0, up G o_M 0 0) 0 0 Q := by
        intro z
        have eC : C = 2 := by rw [← hC]; unfold c_air; rw [if_neg n1, if_pos z]
        refine x_aload_n d_M_smoke_47 rfl rfl ?_
        refine x_iconst (2) d_M_smoke_48 rfl ⟨by decide, by decide⟩ ?_
        refine x_V1 d_M_smoke_49 e_M_smoke_M_fails ⟨rfl, rfl, Nat.zero_le _, Nat.zero_le _⟩ rfl rfl rfl rfl (Nat.le_of_ble_eq_true rfl) (s_fails (up G o_M 0 0) 2) ?_
        refine x_i2l d_M_smoke_52 ?_
        refine x_lreturn d_M_smoke_53 rfl ?_ (Nat.zero_le _) (Nat.zero_le _)
        rw [← hQ, hV0 (by omega)]
        exact ⟨_, rfl, mAnsL.no 0 eC⟩
      refine x_iload_n d_M_smoke_30 rfl rfl ?_
      refine x_iload_n d_M_smoke_31 rfl rfl ?_
      refine x_iload_n d_M_smoke_32 rfl rfl ?_
      refine x_S1 d_M_smoke_33 e_M_smoke_M_isCourse ⟨rfl, rfl, Nat.zero_le _, Nat.zero_le _⟩ rfl rfl (Nat.le_of_ble_eq_true rfl) (s_isCourse _ _ _ _) ?_
      refine x_if_eq (47) d_M_smoke_36 (by decide) (fun c3 => ?_) (fun c3 => ?_)
      · exact two (Or.inl c3)
      · refine x_iload d_M_smoke_39 rfl ?_
        refine x_S1 d_M_smoke_41 e_M_smoke_M_isMinute ⟨rfl, rfl, Nat.zero_le _, Nat.zero_le _⟩ rfl rfl (Nat.le_of_ble_eq_true rfl) (s_isMinute _ _) ?_
        refine x_if_ne (54) d_M_smoke_44 (by decide) (fun c4 => ?_) (fun c4 => ?_)
        · have q1 := f_wi_1 c1
          have q2 := f_wi_1 c2
          have q4 := f_wi_1 c4
          obtain ⟨x, rfl⟩ : ∃ x : Nat, w = x := ⟨w.toNat, by omega⟩
          obtain ⟨y, rfl⟩ : ∃ y : Nat, m = y := ⟨m.toNat, by omega⟩
          have eC : C = 0 := by rw [← hC]; unfold c_air; rw [if_neg n1, if_neg (fun z => by rcases z with z | z <;> omega)]
          refine x_aload_n d_M_smoke_54 rfl rfl ?_
          refine x_iload_n d_M_smoke_55 rfl rfl ?_
          refine x_iload_n d_M_smoke_56 rfl rfl ?_
          refine x_iload_n d_M_smoke_57 rfl rfl ?_
          refine x_iload d_M_smoke_58 rfl ?_
          refine x_VQ d_M_smoke_60 e_M_smoke_M_burns ⟨rfl, rfl, Nat.zero_le _, Nat.zero_le _⟩ rfl rfl rfl rfl (Nat.le_of_ble_eq_true rfl) (s_burns hh r (a, b, k, f) (by show -1 ≤ f ∧ f < _; omega)) (fun v τ hv => ?_)
          obtain ⟨rfl, G1, rfl, f1, sm⟩ := hv
          show x_A y_M_smoke 63 [some oM, some (xI a), some (xI b), some (xI k), some (xI f), some (xI (x : Int)), some (xI (y : Int)), some (xI u)] [] (S0, G1) 0 0 Q
          have eV : (if u = 0 then G1 m_mixed (8 * y + x) else G1 m_above (8 * y + x)) = V := by
            rw [← hV]; unfold v_smo
            rw [hC, if_pos eC, Int.toNat_natCast, Int.toNat_natCast, ((sm.1 y (by omega)).1 x (by omega)).1, ((sm.1 y (by omega)).1 x (by omega)).2]
          refine x_iload d_M_smoke_63 rfl ?_
          refine x_if_eq (85) d_M_smoke_65 (by decide) (fun c5 => ?_) (fun c5 => ?_)
          · rw [if_pos c5] at eV
            refine x_aload_n d_M_smoke_85 rfl rfl ?_
            refine x_getF (kf := 54) d_M_smoke_86 rfl rfl rfl in_M f_M_132 ?_
            refine x_bipush (8) d_M_smoke_89 rfl ⟨by decide, by decide⟩ ?_
            refine x_iload d_M_smoke_91 rfl ?_
            refine x_imulN d_M_smoke_93 (by omega) (by omega) ?_
            refine x_iload d_M_smoke_94 rfl ?_
            refine x_iaddN d_M_smoke_96 (by omega) (by omega) ?_
            refine x_ialdN (8 * y + x) d_M_smoke_97 rfl (by omega) (by omega) ?_
            refine x_i2l d_M_smoke_98 ?_
            rw [eV]
            refine x_lreturn d_M_smoke_99 rfl ?_ (Nat.zero_le _) (Nat.zero_le _)
            rw [← hQ, eC]
            exact ⟨_, rfl, G1, rfl, f1.p, rfl⟩
          · rw [if_neg c5] at eV
            refine x_aload_n d_M_smoke_68 rfl rfl ?_
            refine x_getF (kf := 53) d_M_smoke_69 rfl rfl rfl in_M f_M_129 ?_
            refine x_bipush (8) d_M_smoke_72 rfl ⟨by decide, by decide⟩ ?_
            refine x_iload d_M_smoke_74 rfl ?_
            refine x_imulN d_M_smoke_76 (by omega) (by omega) ?_
            refine x_iload d_M_smoke_77 rfl ?_
            refine x_iaddN d_M_smoke_79 (by omega) (by omega) ?_
            refine x_ialdN (8 * y + x) d_M_smoke_80 rfl (by omega) (by omega) ?_
            refine x_i2l d_M_smoke_81 ?_
            refine x_goto (99) d_M_smoke_82 (by decide) ?_
            rw [eV]
            refine x_lreturn d_M_smoke_99 rfl ?_ (Nat.zero_le _) (Nat.zero_le _)
            rw [← hQ, eC]
            exact ⟨_, rfl, G1, rfl, f1.p, rfl⟩
        · exact two (Or.inr c4)
    · exact one (Or.inr c2)
theorem b2i_01 {b : Bool} {V : Int} (e : b2i b = V) : V = 0 ∨ V = 1 := by
  subst e
  cases b
  · exact Or.inl rfl
  · exact Or.inr rfl
def v_shut (h : HH) (a b k f w m : Int) : Int := if c_air h 0 a b k f w m = 0 then b2i (f_sh h (a, b, k, f) m.toNat w.toNat) else 0
theorem s_shut {h : HH} {G : Nat → Nat → Int} (hh : Hwf h) (r : mRep h G) (a b k f w m : Int) : x_M y_M_shut [oM, xI a, xI b, xI k, xI f, xI w, xI m] (S0, G) (fun r τ => ∃ v, r = .inl v ∧ mAns G (c_air h 0 a b k f w m) (v_shut h a b k f w m) v τ) := by
  have bb := hh.1
  refine x_of 0 rfl (Nat.le_of_ble_eq_true rfl) ?_
  show x_A y_M_shut 0 [some oM, some (xI a), some (xI b), some (xI k), some (xI f), some (xI w), some (xI m)] [] (S0, G) 0 0 _
  generalize hV : v_shut h a b k f w m = V
  generalize hC : c_air h 0 a b k f w m = C
  generalize hQ : (fun (r : XRes) (τ : XM) => ∃ v, r = .inl v ∧ mAns G C V v τ) = Q
  have hV0 : C ≠ 0 → V = 0 := fun z => by rw [← hV]; unfold v_shut; rw [hC, if_neg z]
  have set : (C = 0 ∨ C = 1 ∨ C = 2) → (C = 0 → f_wi f (-1) (h.2 2 - 1) ≠ 0 ∧ f_wi w 0 (h.2 0 - 1) ≠ 0 ∧ f_wi m 0 20 ≠ 0) → x_A y_M_shut 45 [some oM, some (xI a), some (xI b), some (xI k), some (xI f), some (xI w), some (xI m)] [xI C, oM] (S0, G) 0 0 Q := by
    intro z z0
    refine x_putIG (kf := 0) tyX12 d_M_shut_45 rfl rfl rfl in_M f_M_217 tyX12_ok nmX12 (by decide +kernel) rfl ?_
    refine x_aload_n d_M_shut_48 rfl rfl ?_
    refine x_getIG (kf := 0) d_M_shut_49 rfl rfl rfl in_M f_M_217 ?_
    rw [up_same]
    refine x_if_le (57) d_M_shut_52 (by decide) (fun c => ?_) (fun c => ?_)
    · have eC : C = 0 := by omega
      obtain ⟨c1, c2, c4⟩ := z0 eC
      have q1 := f_wi_1 c1
      have q2 := f_wi_1 c2
      have q4 := f_wi_1 c4
      obtain ⟨x, rfl⟩ : ∃ x : Nat, w = x := ⟨w.toNat, by omega⟩
      obtain ⟨y, rfl⟩ : ∃ y : Nat, m = y := ⟨m.toNat, by omega⟩
      have r := r.th C
      refine x_aload_n d_M_shut_57 rfl rfl ?_
      refine x_iload_n d_M_shut_58 rfl rfl ?_
      refine x_iload_n d_M_shut_59 rfl rfl ?_
      refine x_iload_n d_M_shut_60 rfl rfl ?_
      refine x_iload d_M_shut_61 rfl ?_
      refine x_VQ d_M_shut_63 e_M_shut_M_burns ⟨rfl, rfl, Nat.zero_le _, Nat.zero_le _⟩ rfl rfl rfl rfl (Nat.le_of_ble_eq_true rfl) (s_burns hh r (a, b, k, f) (by show -1 ≤ f ∧ f < _; omega)) (fun v τ hv => ?_)
      obtain ⟨rfl, G1, rfl, f1, sm⟩ := hv
      show x_A y_M_shut 66 [some oM, some (xI a), some (xI b), some (xI k), some (xI f), some (xI (x : Int)), some (xI (y : Int))] [] (S0, G1) 0 0 Q
      have eV : b2i (decide (h.1 9 0 0 < G1 m_mixed (8 * y + x))) = V := by
        rw [← hV]; unfold v_shut
        rw [hC, if_pos eC, Int.toNat_natCast, Int.toNat_natCast, sm.shut (by omega) (by omega)]
      refine x_aload_n d_M_shut_66 rfl rfl ?_
      refine x_iload d_M_shut_67 rfl ?_
      refine x_iload d_M_shut_69 rfl ?_
      refine x_V1 d_M_shut_71 e_M_shut_M_isShut ⟨rfl, rfl, Nat.zero_le _, Nat.zero_le _⟩ rfl rfl rfl rfl (Nat.le_of_ble_eq_true rfl) (s_isShut (f1.rep r) x y (by omega) (by omega)) ?_
      have v01 := b2i_01 eV
      rw [eV]
      refine x_zreturn d_M_shut_74 rfl (by first | exact Or.inl rfl | exact Or.inr rfl | (split <;> first | exact Or.inl rfl | exact Or.inr rfl) | assumption) ?_ (Nat.zero_le _) (Nat.zero_le _)
      rw [← hQ]
      exact ⟨_, rfl, G1, rfl, f1.p, rfl⟩
    · refine x_iconst (0) d_M_shut_55 rfl ⟨by decide, by decide⟩ ?_
      refine x_zreturn d_M_shut_56 rfl (by first | exact Or.inl rfl | exact Or.inr rfl | (split <;> first | exact Or.inl rfl | exact Or.inr rfl) | assumption) ?_ (Nat.zero_le _) (Nat.zero_le _)
      rw [← hQ, hV0 (by omega)]
      exact ⟨_, rfl, _, rfl, pFrame.rf _, rfl⟩
  have one : (f_wi f (-1) (h.2 2 - 1) = 0 ∨ f_wi w 0 (h.2 0 - 1) = 0) → x_A y_M_shut 19 [some oM, some (xI a), some (xI b), some (xI k), some (xI f), some (xI w), some (xI m)] [oM] (S0, G) 0 0 Q := by
    intro z
    have eC : C = 1 := by rw [← hC]; unfold c_air; rw [if_pos z]
    have s := set (by omega) (by omega)
    rw [eC] at s
    refine x_iconst (1) d_M_shut_19 rfl ⟨by decide, by decide⟩ ?_
    refine x_goto (45) d_M_shut_20 (by decide) ?_
    exact s
  refine x_aload_n d_M_shut_0 rfl rfl ?_
  refine x_aload_n d_M_shut_1 rfl rfl ?_
  refine x_iload d_M_shut_2 rfl ?_
  refine x_V1 d_M_shut_4 e_M_shut_M_isFire ⟨rfl, rfl, Nat.zero_le _, Nat.zero_le _⟩ rfl rfl rfl rfl (Nat.le_of_ble_eq_true rfl) (s_isFire hh r _) ?_
  refine x_if_eq (19) d_M_shut_7 (by decide) (fun c1 => ?_) (fun c1 => ?_)
  · exact one (Or.inl c1)
  · refine x_aload_n d_M_shut_10 rfl rfl ?_
    refine x_iload d_M_shut_11 rfl ?_
    refine x_V1 d_M_shut_13 e_M_shut_M_isPiece ⟨rfl, rfl, Nat.zero_le _, Nat.zero_le _⟩ rfl rfl rfl rfl (Nat.le_of_ble_eq_true rfl) (s_isPiece hh r _) ?_
    refine x_if_ne (23) d_M_shut_16 (by decide) (fun c2 => ?_) (fun c2 => ?_)
    · have n1 : ¬ (f_wi f (-1) (h.2 2 - 1) = 0 ∨ f_wi w 0 (h.2 0 - 1) = 0) := fun z => by rcases z with z | z <;> omega
      have two : (f_co a b k = 0 ∨ f_wi m 0 20 = 0) → x_A y_M_shut 40 [some oM, some (xI a), some (xI b), some (xI k), some (xI f), some (xI w), some (xI m)] [oM] (S0, G) 0 0 Q := by
        intro z
        have eC : C = 2 := by rw [← hC]; unfold c_air; rw [if_neg n1, if_pos z]
        have s := set (by omega) (by omega)
        rw [eC] at s
        refine x_iconst (2) d_M_shut_40 rfl ⟨by decide, by decide⟩ ?_
        refine x_goto (45) d_M_shut_41 (by decide) ?_
        exact s
      refine x_iload_n d_M_shut_23 rfl rfl ?_
      refine x_iload_n d_M_shut_24 rfl rfl ?_
      refine x_iload_n d_M_shut_25 rfl rfl ?_
      refine x_S1 d_M_shut_26 e_M_shut_M_isCourse ⟨rfl, rfl, Nat.zero_le _, Nat.zero_le _⟩ rfl rfl (Nat.le_of_ble_eq_true rfl) (s_isCourse _ _ _ _) ?_
      refine x_if_eq (40) d_M_shut_29 (by decide) (fun c3 => ?_) (fun c3 => ?_)
      · exact two (Or.inl c3)
      · refine x_iload d_M_shut_32 rfl ?_
        refine x_S1 d_M_shut_34 e_M_shut_M_isMinute ⟨rfl, rfl, Nat.zero_le _, Nat.zero_le _⟩ rfl rfl (Nat.le_of_ble_eq_true rfl) (s_isMinute _ _) ?_
        refine x_if_ne (44) d_M_shut_37 (by decide) (fun c4 => ?_) (fun c4 => ?_)
        · have eC : C = 0 := by rw [← hC]; unfold c_air; rw [if_neg n1, if_neg (fun z => by rcases z with z | z <;> omega)]
          have s := set (by omega) (fun _ => ⟨c1, c2, c4⟩)
          rw [eC] at s
          refine x_iconst (0) d_M_shut_44 rfl ⟨by decide, by decide⟩ ?_
          exact s
        · exact two (Or.inr c4)
    · exact one (Or.inr c2)
def c_alk (h : HH) (pl m a b : Int) : Int := if f_wi a (-1) (h.2 2 - 1) = 0 ∨ f_wi b (-1) (h.2 2 - 1) = 0 then 1 else if f_wi pl 0 3 = 0 ∨ f_wi m 0 20 = 0 then 2 else 0
def f_ix (a : Int) : Nat := if a = -1 then 4 else a.toNat
theorem f_ix_fi {h : HH} (hh : Hwf h) {a : Int} (ha : -1 ≤ a ∧ a < h.2 2) : f_ix a ≤ 4 ∧ f_fi (f_ix a) = a := by
  have b := hh.1
  unfold f_ix f_fi
  split
  · simp_all
  · rw [if_neg (by omega)]; omega
def v_alk (h : HH) (pl m a b : Int) : Int := if c_alk h pl m a b = 0 then b2i (f_alk (m - h.1 9 0 4) (fun n => f_tell h (pl, pl, 0, a) n (h.2 0)) (fun n => f_tell h (pl, pl, 0, b) n (h.2 0)) 21) else 0
theorem s_alike {h : HH} {G : Nat → Nat → Int} (hh : Hwf h) (r : mRep h G) (pl m a b : Int) : x_M y_M_alike [oM, xI pl, xI m, xI a, xI b] (S0, G) (fun r τ => ∃ v, r = .inl v ∧ mAns G (c_alk h pl m a b) (v_alk h pl m a b) v τ) := by
  have bb := hh.1
  refine x_of 0 rfl (Nat.le_of_ble_eq_true rfl) ?_
  show x_A y_M_alike 0 [some oM, some (xI pl), some (xI m), some (xI a), some (xI b)] [] (S0, G) 0 0 _
  generalize hV : v_alk h pl m a b = V
  generalize hC : c_alk h pl m a b = C
  generalize hQ : (fun (r : XRes) (τ : XM) => ∃ v, r = .inl v ∧ mAns G C V v τ) = Q
  have hV0 : C ≠ 0 → V = 0 := fun z => by rw [← hV]; unfold v_alk; rw [hC, if_neg z]
  have set : (C = 0 ∨ C = 1 ∨ C = 2) → (C = 0 → f_wi a (-1) (h.2 2 - 1) ≠ 0 ∧ f_wi b (-1) (h.2 2 - 1) ≠ 0 ∧ f_wi m 0 20 ≠ 0) → x_A y_M_alike 41 [some oM, some (xI pl), some (xI m), some (xI a), some (xI b)] [xI C, oM] (S0, G) 0 0 Q := by
    intro z z0
    refine x_putIG (kf := 0) tyX12 d_M_alike_41 rfl rfl rfl in_M f_M_217 tyX12_ok nmX12 (by decide +kernel) rfl ?_
    refine x_aload_n d_M_alike_44 rfl rfl ?_
    refine x_getIG (kf := 0) d_M_alike_45 rfl rfl rfl in_M f_M_217 ?_
    rw [up_same]
    refine x_if_le (53) d_M_alike_48 (by decide) (fun c => ?_) (fun c => ?_)
    · have eC : C = 0 := by omega
      obtain ⟨c1, c2, c4⟩ := z0 eC
      have q1 := f_wi_1 c1
      have q2 := f_wi_1 c2
      have q4 := f_wi_1 c4
      obtain ⟨i1, i2⟩ := f_ix_fi hh (a := a) (by omega)
      obtain ⟨j1, j2⟩ := f_ix_fi hh (a := b) (by omega)
      have r := r.th C
      have l1 := s_listens hh r pl (f_ix a) i1 (by rw [i2]; omega)
      rw [i2] at l1
      refine x_aload_n d_M_alike_53 rfl rfl ?_
      refine x_iload_n d_M_alike_54 rfl rfl ?_
      refine x_iload_n d_M_alike_55 rfl rfl ?_
      refine x_VQ d_M_alike_56 e_M_alike_M_listens ⟨rfl, rfl, Nat.zero_le _, Nat.zero_le _⟩ rfl rfl rfl rfl (Nat.le_of_ble_eq_true rfl) (l1) (fun v τ hv => ?_)
      obtain ⟨rfl, G1, rfl, a1, a2, a3⟩ := hv
      show x_A y_M_alike 59 [some oM, some (xI pl), some (xI m), some (xI a), some (xI b)] [] (S0, G1) 0 0 Q
      have p1 : pFrame (up G o_M 0 C) G1 := ⟨fun i _ h2 => a1 i (by intro z; subst z; revert h2; decide) (by have : m_washed < m_wherever := (by decide); omega), fun k _ => by rw [a1 o_M (by decide) (Or.inl (by decide))]⟩
      have r1 := p1.rep r
      have l2 := s_listens hh r1 pl (f_ix b) j1 (by rw [j2]; omega)
      rw [j2] at l2
      refine x_aload_n d_M_alike_59 rfl rfl ?_
      refine x_iload_n d_M_alike_60 rfl rfl ?_
      refine x_iload d_M_alike_61 rfl ?_
      refine x_VQ d_M_alike_63 e_M_alike_M_listens ⟨rfl, rfl, Nat.zero_le _, Nat.zero_le _⟩ rfl rfl rfl rfl (Nat.le_of_ble_eq_true rfl) (l2) (fun v τ hv => ?_)
      obtain ⟨rfl, G2, rfl, b1, b2, b3⟩ := hv
      show x_A y_M_alike 66 [some oM, some (xI pl), some (xI m), some (xI a), some (xI b)] [] (S0, G2) 0 0 Q
      have p2 : pFrame G1 G2 := ⟨fun i _ h2 => b1 i (by intro z; subst z; revert h2; decide) (by have : m_washed < m_wherever := (by decide); omega), fun k _ => by rw [b1 o_M (by decide) (Or.inl (by decide))]⟩
      have r2 := p2.rep r1
      have al := s_areAlike hh r2 m (by omega) (f_ix a) (f_ix b) i1 j1
      rw [i2] at a3
      rw [j2] at b3
      have eV : b2i (f_alk (m - h.1 9 0 4) (fun n => G2 m_tells (21 * f_ix a + n)) (fun n => G2 m_tells (21 * f_ix b + n)) 21) = V := by
        rw [← hV]; unfold v_alk
        rw [hC, if_pos eC]
        congr 1
        refine f_alk_cg (fun n hn => ?_) (fun n hn => b3 n (by omega))
        by_cases q : f_ix a = f_ix b
        · have : a = b := by rw [← i2, ← j2, q]
          subst this
          exact b3 n (by omega)
        · rw [← a3 n (by omega)]
          exact b2 _ (by omega)
      rw [i2, j2, eV] at al
      refine x_aload_n d_M_alike_66 rfl rfl ?_
      refine x_iload_n d_M_alike_67 rfl rfl ?_
      refine x_iload_n d_M_alike_68 rfl rfl ?_
      refine x_iload d_M_alike_69 rfl ?_
      have v01 := b2i_01 eV
      refine x_V1 d_M_alike_71 e_M_alike_M_areAlike ⟨rfl, rfl, Nat.zero_le _, Nat.zero_le _⟩ rfl rfl rfl rfl (Nat.le_of_ble_eq_true rfl) (al) ?_
      refine x_zreturn d_M_alike_74 rfl (by first | exact Or.inl rfl | exact Or.inr rfl | (split <;> first | exact Or.inl rfl | exact Or.inr rfl) | assumption) ?_ (Nat.zero_le _) (Nat.zero_le _)
      rw [← hQ]
      exact ⟨_, rfl, G2, rfl, p1.tr p2, rfl⟩
    · refine x_iconst (0) d_M_alike_51 rfl ⟨by decide, by decide⟩ ?_
      refine x_zreturn d_M_alike_52 rfl (by first | exact Or.inl rfl | exact Or.inr rfl | (split <;> first | exact Or.inl rfl | exact Or.inr rfl) | assumption) ?_ (Nat.zero_le _) (Nat.zero_le _)
      rw [← hQ, hV0 (by omega)]
      exact ⟨_, rfl, _, rfl, pFrame.rf _, rfl⟩
  have one : (f_wi a (-1) (h.2 2 - 1) = 0 ∨ f_wi b (-1) (h.2 2 - 1) = 0) → x_A y_M_alike 18 [some oM, some (xI pl), some (xI m), some (xI a), some (xI b)] [oM] (S0, G) 0 0 Q := by
    intro z
    have eC : C = 1 := by rw [← hC]; unfold c_alk; rw [if_pos z]
    have s := set (by omega) (by omega)
    rw [eC] at s
    refine x_iconst (1) d_M_alike_18 rfl ⟨by decide, by decide⟩ ?_
    refine x_goto (41) d_M_alike_19 (by decide) ?_
    exact s
  refine x_aload_n d_M_alike_0 rfl rfl ?_
  refine x_aload_n d_M_alike_1 rfl rfl ?_
  refine x_iload_n d_M_alike_2 rfl rfl ?_
  refine x_V1 d_M_alike_3 e_M_alike_M_isFire ⟨rfl, rfl, Nat.zero_le _, Nat.zero_le _⟩ rfl rfl rfl rfl (Nat.le_of_ble_eq_true rfl) (s_isFire hh r _) ?_
  refine x_if_eq (18) d_M_alike_6 (by decide) (fun c1 => ?_) (fun c1 => ?_)
  · exact one (Or.inl c1)
  · refine x_aload_n d_M_alike_9 rfl rfl ?_
    refine x_iload d_M_alike_10 rfl ?_
    refine x_V1 d_M_alike_12 e_M_alike_M_isFire ⟨rfl, rfl, Nat.zero_le _, Nat.zero_le _⟩ rfl rfl rfl rfl (Nat.le_of_ble_eq_true rfl) (s_isFire hh r _) ?_
    refine x_if_ne (22) d_M_alike_15 (by decide) (fun c2 => ?_) (fun c2 => ?_)
    · have n1 : ¬ (f_wi a (-1) (h.2 2 - 1) = 0 ∨ f_wi b (-1) (h.2 2 - 1) = 0) := fun z => by rcases z with z | z <;> omega
      have two : (f_wi pl 0 3 = 0 ∨ f_wi m 0 20 = 0) → x_A y_M_alike 36 [some oM, some (xI pl), some (xI m), some (xI a), some (xI b)] [oM] (S0, G) 0 0 Q := by
        intro z
        have eC : C = 2 := by rw [← hC]; unfold c_alk; rw [if_neg n1, if_pos z]
        have s := set (by omega) (by omega)
        rw [eC] at s
        refine x_iconst (2) d_M_alike_36 rfl ⟨by decide, by decide⟩ ?_
        refine x_goto (41) d_M_alike_37 (by decide) ?_
        exact s
      refine x_iload_n d_M_alike_22 rfl rfl ?_
      refine x_S1 d_M_alike_23 e_M_alike_M_isPlan ⟨rfl, rfl, Nat.zero_le _, Nat.zero_le _⟩ rfl rfl (Nat.le_of_ble_eq_true rfl) (s_isPlan _ _) ?_
      refine x_if_eq (36) d_M_alike_26 (by decide) (fun c3 => ?_) (fun c3 => ?_)
      · exact two (Or.inl c3)
      · refine x_iload_n d_M_alike_29 rfl rfl ?_
        refine x_S1 d_M_alike_30 e_M_alike_M_isMinute ⟨rfl, rfl, Nat.zero_le _, Nat.zero_le _⟩ rfl rfl (Nat.le_of_ble_eq_true rfl) (s_isMinute _ _) ?_
        refine x_if_ne (40) d_M_alike_33 (by decide) (fun c4 => ?_) (fun c4 => ?_)
        · have eC : C = 0 := by rw [← hC]; unfold c_alk; rw [if_neg n1, if_neg (fun z => by rcases z with z | z <;> omega)]
          have s := set (by omega) (fun _ => ⟨c1, c2, c4⟩)
          rw [eC] at s
          refine x_iconst (0) d_M_alike_40 rfl ⟨by decide, by decide⟩ ?_
          exact s
        · exact two (Or.inr c4)
    · exact one (Or.inr c2)
