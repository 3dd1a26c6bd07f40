/-! the reference: row -/
def c_row (row sort many : Int) : Int := if f_wi row 0 3 = 0 then 1 else if f_wi sort 0 3 = 0 ∨ f_wi many 0 30 = 0 then 2 else 0
def mRowed (G : Nat → Nat → Int) (row sort many : Int) : Option XV → XM → Prop := fun v τ => v = none ∧ ∃ G', τ = (S0, G') ∧ (∀ z, z ≠ m_rSort → z ≠ m_rMany → z ≠ m_numbers → G' z = up G o_M 0 (c_row row sort many) z) ∧
  (c_row row sort many ≠ 0 → G' m_rSort = G m_rSort ∧ G' m_rMany = G m_rMany ∧ G' m_numbers = G m_numbers) ∧
  (c_row row sort many = 0 → (∀ x, G' m_rSort x = if x = row.toNat then sort else G m_rSort x) ∧ (∀ x, G' m_rMany x = if x = row.toNat then many else G m_rMany x) ∧ ∀ j, G' m_numbers j = if 30 * row.toNat ≤ j ∧ j < 30 * row.toNat + 30 then 0 else G m_numbers j)
theorem s_row (G : Nat → Nat → Int) (row sort many : Int) : x_M y_M_row [oM, xI row, xI sort, xI many] (S0, G) (fun r τ => ∃ v, r = .inl v ∧ mRowed G row sort many v τ) := by
  refine x_of 1 rfl (Nat.le_of_ble_eq_true rfl) ?_
  show x_A y_M_row 0 [some oM, some (xI row), some (xI sort), some (xI many), none] [] (S0, G) 0 0 _
  generalize hQ : (fun (r : XRes) (τ : XM) => ∃ v, r = .inl v ∧ mRowed G row sort many v τ) = Q
  generalize hC : c_row row sort many = C
  have set : (C = 0 ∨ C = 1 ∨ C = 2) → (C = 0 → f_wi row 0 3 ≠ 0) → x_A y_M_row 41 [some oM, some (xI row), some (xI sort), some (xI many), none] [xI C, oM] (S0, G) 0 0 Q := by
    intro z z0
    have u1 : up G o_M 0 C m_rSort = G m_rSort := up_cell (by decide)
    have u2 : up G o_M 0 C m_rMany = G m_rMany := up_cell (by decide)
    have u3 : up G o_M 0 C m_numbers = G m_numbers := up_cell (by decide)
    refine x_putIG (kf := 0) tyX12 d_M_row_41 rfl rfl rfl in_M f_M_217 tyX12_ok nmX12 (by decide +kernel) rfl ?_
    refine x_aload_n d_M_row_44 rfl rfl ?_
    refine x_getIG (kf := 0) d_M_row_45 rfl rfl rfl in_M f_M_217 ?_
    rw [up_same]
    refine x_if_le (52) d_M_row_48 (by decide) (fun c => ?_) (fun c => ?_)
    · have eC : C = 0 := by omega
      have q1 := f_wi_1 (z0 eC)
      obtain ⟨x, rfl⟩ : ∃ x : Nat, row = x := ⟨row.toNat, by omega⟩
      refine x_aload_n d_M_row_52 rfl rfl ?_
      refine x_getF (kf := 80) d_M_row_53 rfl rfl rfl in_M f_M_208 ?_
      refine x_iload_n d_M_row_56 rfl rfl ?_
      refine x_iload_n d_M_row_57 rfl rfl ?_
      refine x_iastN (x) d_M_row_58 rfl (by omega) (by omega) ?_
      refine x_aload_n d_M_row_59 rfl rfl ?_
      refine x_getF (kf := 81) d_M_row_60 rfl rfl rfl in_M f_M_211 ?_
      refine x_iload_n d_M_row_63 rfl rfl ?_
      refine x_iload_n d_M_row_64 rfl rfl ?_
      refine x_iastN (x) d_M_row_65 rfl (by omega) (by omega) ?_
      refine x_iconst (0) d_M_row_66 rfl ⟨by decide, by decide⟩ ?_
      refine x_istore d_M_row_67 (by decide) ?_
      dsimp only [x_st1, x_st2, x_kill, List.set, List.getElem?_cons_zero, List.getElem?_cons_succ]
      have d1 : m_rSort ≠ m_rMany := by decide
      have b1 : ∀ y, up (up (up G o_M 0 C) m_rSort x sort) m_rMany x many m_rSort y = if y = x then sort else G m_rSort y := fun y => by rw [up_cell d1, up_row, u1]
      have b2 : ∀ y, up (up (up G o_M 0 C) m_rSort x sort) m_rMany x many m_rMany y = if y = x then many else G m_rMany y := fun y => by rw [up_row, up_cell d1.symm, u2]
      have b3 : up (up (up G o_M 0 C) m_rSort x sort) m_rMany x many m_numbers = G m_numbers := by rw [up_cell (by decide), up_cell (by decide), u3]
      have b4 : ∀ z, z ≠ m_rSort → z ≠ m_rMany → up (up (up G o_M 0 C) m_rSort x sort) m_rMany x many z = up G o_M 0 C z := fun z h1 h2 => by rw [up_cell h2, up_cell h1]
      generalize up (up (up G o_M 0 C) m_rSort x sort) m_rMany x many = G1 at *
      have all : ∀ G', (∀ z, z ≠ m_numbers → G' z = G1 z) → (∀ j, G' m_numbers j = if 30 * x ≤ j ∧ j < 30 * x + 0 then 0 else G m_numbers j) → x_A y_M_row 69 [some oM, some (xI (x : Int)), some (xI sort), some (xI many), some (xI ((0 : Nat) : Int))] [] (S0, G') 0 0 Q := by
        refine x_up_to (P := fun n => ∀ G', (∀ z, z ≠ m_numbers → G' z = G1 z) → (∀ j, G' m_numbers j = if 30 * x ≤ j ∧ j < 30 * x + n then 0 else G m_numbers j) → x_A y_M_row 69 [some oM, some (xI (x : Int)), some (xI sort), some (xI many), some (xI (n : Int))] [] (S0, G') 0 0 Q) 0 30 (Nat.zero_le _) ?_ (fun n _ hn k => ?_)
        · intro G2 g1 g2
          refine x_iload d_M_row_69 rfl ?_
          refine x_bipush (30) d_M_row_71 rfl ⟨by decide, by decide⟩ ?_
          refine x_icmp_ge (95) d_M_row_73 (by decide) (fun c2 => ?_) (fun c2 => ?_)
          · refine x_return d_M_row_95 rfl ?_ (Nat.zero_le _) (Nat.zero_le _)
            rw [← hQ]
            refine ⟨_, rfl, rfl, G2, rfl, fun z h1 h2 h3 => by rw [hC, g1 z h3]; exact b4 z h1 h2, fun z => absurd (hC.trans eC) z, fun _ => ⟨fun y => ?_, fun y => ?_, fun j => ?_⟩⟩
            · rw [g1 m_rSort (by decide), Int.toNat_natCast]; exact b1 y
            · rw [g1 m_rMany (by decide), Int.toNat_natCast]; exact b2 y
            · rw [Int.toNat_natCast]; exact g2 j
          · omega
        · intro G2 g1 g2
          refine x_iload d_M_row_69 rfl ?_
          refine x_bipush (30) d_M_row_71 rfl ⟨by decide, by decide⟩ ?_
          refine x_icmp_ge (95) d_M_row_73 (by decide) (fun c2 => ?_) (fun c2 => ?_)
          · omega
          · refine x_aload_n d_M_row_76 rfl rfl ?_
            refine x_getF (kf := 82) d_M_row_77 rfl rfl rfl in_M f_M_214 ?_
            refine x_bipush (30) d_M_row_80 rfl ⟨by decide, by decide⟩ ?_
            refine x_iload_n d_M_row_82 rfl rfl ?_
            refine x_imulN d_M_row_83 (by omega) (by omega) ?_
            refine x_iload d_M_row_84 rfl ?_
            refine x_iaddN d_M_row_86 (by omega) (by omega) ?_
            refine x_lconst (0) d_M_row_87 rfl ⟨by decide, by decide⟩ ?_
            refine x_lastN (30 * x + n) d_M_row_88 rfl (by omega) (by omega) ?_
            refine x_iincN d_M_row_89 rfl (by decide) (by omega) (by omega) ?_
            dsimp only [x_st1, x_st2, x_kill, List.set, List.getElem?_cons_zero, List.getElem?_cons_succ]
            refine x_goto (69) d_M_row_92 (by decide) ?_
            refine k _ (fun z hz => (up_cell hz).trans (g1 z hz)) (fun j => ?_)
            by_cases e : j = 30 * x + n
            · subst e
              rw [up_same, if_pos (by omega)]
            · rw [up_ne e, g2 j]
              by_cases h1 : 30 * x ≤ j ∧ j < 30 * x + n
              · rw [if_pos h1, if_pos (by omega)]
              · rw [if_neg h1, if_neg (by omega)]
      exact all G1 (fun z _ => rfl) (fun j => by rw [b3, if_neg (by omega)])
    · refine x_return d_M_row_51 rfl ?_ (Nat.zero_le _) (Nat.zero_le _)
      rw [← hQ]
      exact ⟨_, rfl, rfl, _, rfl, fun z _ _ _ => by rw [hC], fun _ => ⟨u1, u2, u3⟩, fun q => by omega⟩
  have two : f_wi row 0 3 ≠ 0 → (f_wi sort 0 3 = 0 ∨ f_wi many 0 30 = 0) → x_A y_M_row 36 [some oM, some (xI row), some (xI sort), some (xI many), none] [oM] (S0, G) 0 0 Q := by
    intro c1 z
    have eC : C = 2 := by rw [← hC]; unfold c_row; rw [if_neg c1, if_pos z]
    have s := set (by omega) (by omega)
    rw [eC] at s
    refine x_iconst (2) d_M_row_36 rfl ⟨by decide, by decide⟩ ?_
    refine x_goto (41) d_M_row_37 (by decide) ?_
    exact s
  refine x_aload_n d_M_row_0 rfl rfl ?_
  refine x_iload_n d_M_row_1 rfl rfl ?_
  refine x_S1 d_M_row_2 e_M_row_M_isRow ⟨rfl, rfl, Nat.zero_le _, Nat.zero_le _⟩ rfl rfl (Nat.le_of_ble_eq_true rfl) (s_isRow _ _) ?_
  refine x_if_ne (12) d_M_row_5 (by decide) (fun c1 => ?_) (fun c1 => ?_)
  · refine x_iload_n d_M_row_12 rfl rfl ?_
    refine x_i2l d_M_row_13 ?_
    refine x_lconst (0) d_M_row_14 rfl ⟨by decide, by decide⟩ ?_
    refine x_ldc2 (3) d_M_row_15 k_M_226 ⟨by decide, by decide⟩ ?_
    refine x_S1 d_M_row_18 e_M_row_M_within ⟨rfl, rfl, Nat.zero_le _, Nat.zero_le _⟩ rfl rfl (Nat.le_of_ble_eq_true rfl) (s_within _ _ _ _) ?_
    refine x_if_eq (36) d_M_row_21 (by decide) (fun c2 => ?_) (fun c2 => ?_)
    · exact two c1 (Or.inl c2)
    · have c2 : f_wi sort 0 3 ≠ 0 := c2
      refine x_iload_n d_M_row_24 rfl rfl ?_
      refine x_i2l d_M_row_25 ?_
      refine x_lconst (0) d_M_row_26 rfl ⟨by decide, by decide⟩ ?_
      refine x_ldc2 (30) d_M_row_27 k_M_485 ⟨by decide, by decide⟩ ?_
      refine x_S1 d_M_row_30 e_M_row_M_within ⟨rfl, rfl, Nat.zero_le _, Nat.zero_le _⟩ rfl rfl (Nat.le_of_ble_eq_true rfl) (s_within _ _ _ _) ?_
      refine x_if_ne (40) d_M_row_33 (by decide) (fun c3 => ?_) (fun c3 => ?_)
      · have c3 : f_wi many 0 30 ≠ 0 := c3
        have eC : C = 0 := by rw [← hC]; unfold c_row; rw [if_neg c1, if_neg (fun z => by rcases z with z | z <;> omega)]
        have s := set (by omega) (fun _ => c1)
        rw [eC] at s
        refine x_iconst (0) d_M_row_40 rfl ⟨by decide, by decide⟩ ?_
        exact s
      · exact two c1 (Or.inr c3)
  · have eC : C = 1 := by rw [← hC]; unfold c_row; rw [if_pos c1]
    have s := set (by omega) (by omega)
    rw [eC] at s
    refine x_iconst (1) d_M_row_8 rfl ⟨by decide, by decide⟩ ?_
    refine x_goto (41) d_M_row_9 (by decide) ?_
    exact s
