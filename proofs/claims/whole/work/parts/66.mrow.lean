/-! the reference: thrown, puts, write, row -/
/-- the rows' heads are in their bounds -/
def mRows (G : Nat → Nat → Int) : Prop := ∀ x, x < 4 → -1 ≤ G m_rSort x ∧ G m_rSort x ≤ 3 ∧ 0 ≤ G m_rMany x ∧ G m_rMany x ≤ 30
theorem s_thrown (G : Nat → Nat → Int) : x_M y_M_thrown [oM] (S0, G) (x_is (.inl (some (xI (G o_M 0)))) (S0, G)) := by
  refine x_of 0 rfl (Nat.le_of_ble_eq_true rfl) ?_
  show x_A y_M_thrown 0 [some oM] [] (S0, G) 0 0 _
  refine x_aload_n d_M_thrown_0 rfl rfl ?_
  refine x_getIG (kf := 0) d_M_thrown_1 rfl rfl rfl in_M f_M_217 ?_
  refine x_ireturn d_M_thrown_4 rfl ?_ (Nat.zero_le _) (Nat.zero_le _)
  exact ⟨rfl, rfl⟩
/-- a number, cut to its row's sort -/
def f_cutTo (sort v : Int) : Int := x_lshr (x_lshl v (64 - x_shl 8 sort)) (64 - x_shl 8 sort)
theorem x_sort {s : Int} (h : 0 ≤ s ∧ s ≤ 3) : 8 ≤ x_shl 8 s ∧ x_shl 8 s ≤ 64 := by
  have key : ∀ n : Fin 4, 8 ≤ x_shl 8 ((n : Nat) : Int) ∧ x_shl 8 ((n : Nat) : Int) ≤ 64 := by decide +kernel
  obtain ⟨n, rfl⟩ : ∃ n : Nat, s = n := ⟨s.toNat, by omega⟩
  exact key ⟨n, by omega⟩
theorem s_puts (G : Nat → Nat → Int) {x n : Nat} (hx : x < 4) (hn : n < 30) (v : Int) (hs : 0 ≤ G m_rSort x ∧ G m_rSort x ≤ 3) : x_M y_M_puts [oM, xI (x : Int), xI (n : Int), xL v] (S0, G) (x_is (.inl (some (xL (f_cutTo (G m_rSort x) v)))) (S0, up G m_numbers (30 * x + n) (f_cutTo (G m_rSort x) v))) := by
  have b := x_sort hs
  refine x_of 1 rfl (Nat.le_of_ble_eq_true rfl) ?_
  show x_A y_M_puts 0 [some oM, some (xI (x : Int)), some (xI (n : Int)), some (xL v), none, none] [] (S0, G) 0 0 _
  refine x_bipush (64) d_M_puts_0 rfl ⟨by decide, by decide⟩ ?_
  refine x_bipush (8) d_M_puts_2 rfl ⟨by decide, by decide⟩ ?_
  refine x_aload_n d_M_puts_4 rfl rfl ?_
  refine x_getF (kf := 80) d_M_puts_5 rfl rfl rfl in_M f_M_208 ?_
  refine x_iload_n d_M_puts_8 rfl rfl ?_
  refine x_ialdN (x) d_M_puts_9 rfl (by omega) (by omega) ?_
  refine x_ishl d_M_puts_10 ?_
  refine x_isubN d_M_puts_11 (by omega) (by omega) ?_
  refine x_istore d_M_puts_12 (by decide) ?_
  dsimp only [x_st1, x_st2, x_kill, List.set, List.getElem?_cons_zero, List.getElem?_cons_succ]
  refine x_aload_n d_M_puts_14 rfl rfl ?_
  refine x_getF (kf := 82) d_M_puts_15 rfl rfl rfl in_M f_M_214 ?_
  refine x_bipush (30) d_M_puts_18 rfl ⟨by decide, by decide⟩ ?_
  refine x_iload_n d_M_puts_20 rfl rfl ?_
  refine x_imulN d_M_puts_21 (by omega) (by omega) ?_
  refine x_iload_n d_M_puts_22 rfl rfl ?_
  refine x_iaddN d_M_puts_23 (by omega) (by omega) ?_
  refine x_lload_n d_M_puts_24 rfl rfl ?_
  refine x_iload d_M_puts_25 rfl ?_
  refine x_lshl_ d_M_puts_27 ?_
  refine x_iload d_M_puts_28 rfl ?_
  refine x_lshr_ d_M_puts_30 ?_
  refine x_lastN (30 * x + n) d_M_puts_31 rfl (by omega) (by omega) ?_
  refine x_aload_n d_M_puts_32 rfl rfl ?_
  refine x_getF (kf := 82) d_M_puts_33 rfl rfl rfl in_M f_M_214 ?_
  refine x_bipush (30) d_M_puts_36 rfl ⟨by decide, by decide⟩ ?_
  refine x_iload_n d_M_puts_38 rfl rfl ?_
  refine x_imulN d_M_puts_39 (by omega) (by omega) ?_
  refine x_iload_n d_M_puts_40 rfl rfl ?_
  refine x_iaddN d_M_puts_41 (by omega) (by omega) ?_
  refine x_laldN (30 * x + n) d_M_puts_42 rfl (by omega) (by omega) ?_
  rw [up_same]
  refine x_lreturn d_M_puts_43 rfl ?_ (Nat.zero_le _) (Nat.zero_le _)
  exact ⟨rfl, rfl⟩
def c_wr (G : Nat → Nat → Int) (row place : Int) : Int := if f_wi row 0 3 = 0 then 1 else if G m_rSort row.toNat = -1 then 2 else if f_wi place 0 (G m_rMany row.toNat - 1) = 0 then 3 else 0
def mWrote (G : Nat → Nat → Int) (row place v : Int) : Option XV → XM → Prop := fun u τ => (c_wr G row place ≠ 0 ∧ u = some (xL 0) ∧ τ = (S0, up G o_M 0 (c_wr G row place))) ∨ (c_wr G row place = 0 ∧ u = some (xL (f_cutTo (G m_rSort row.toNat) v)) ∧ τ = (S0, up (up G o_M 0 0) m_numbers (30 * row.toNat + place.toNat) (f_cutTo (G m_rSort row.toNat) v)))
theorem s_write {G : Nat → Nat → Int} (hr : mRows G) (row place v : Int) : x_M y_M_write [oM, xI row, xI place, xL v] (S0, G) (fun r τ => ∃ u, r = .inl u ∧ mWrote G row place v u τ) := by
  refine x_of 0 rfl (Nat.le_of_ble_eq_true rfl) ?_
  show x_A y_M_write 0 [some oM, some (xI row), some (xI place), some (xL v), none] [] (S0, G) 0 0 _
  generalize hQ : (fun (r : XRes) (τ : XM) => ∃ u, r = .inl u ∧ mWrote G row place v u τ) = Q
  have no : ∀ c : Int, c ≠ 0 → c_wr G row place = c → Q (.inl (some (xL 0))) (S0, up (up G o_M 0 0) o_M 0 c) := by
    intro c h1 h2
    rw [← hQ]
    refine ⟨_, rfl, Or.inl ⟨by rw [h2]; exact h1, rfl, ?_⟩⟩
    rw [h2, up_on]
  refine x_aload_n d_M_write_0 rfl rfl ?_
  refine x_iconst (0) d_M_write_1 rfl ⟨by decide, by decide⟩ ?_
  refine x_putIG (kf := 0) tyX12 d_M_write_2 rfl rfl rfl in_M f_M_217 tyX12_ok nmX12 (by decide +kernel) rfl ?_
  refine x_iload_n d_M_write_5 rfl rfl ?_
  refine x_S1 d_M_write_6 e_M_write_M_isRow ⟨rfl, rfl, Nat.zero_le _, Nat.zero_le _⟩ rfl rfl (Nat.le_of_ble_eq_true rfl) (s_isRow _ _) ?_
  refine x_if_ne (19) d_M_write_9 (by decide) (fun c1 => ?_) (fun c1 => ?_)
  · have q1 := f_wi_1 c1
    obtain ⟨x, rfl⟩ : ∃ x : Nat, row = x := ⟨row.toNat, by omega⟩
    have hx := hr x (by omega)
    have eC : c_wr G x place = if G m_rSort x = -1 then 2 else if f_wi place 0 (G m_rMany x - 1) = 0 then 3 else 0 := by
      unfold c_wr
      rw [if_neg c1, Int.toNat_natCast]
    refine x_aload_n d_M_write_19 rfl rfl ?_
    refine x_getF (kf := 80) d_M_write_20 rfl rfl rfl in_M f_M_208 ?_
    refine x_iload_n d_M_write_23 rfl rfl ?_
    refine x_ialdN (x) d_M_write_24 rfl (by omega) (by omega) ?_
    rw [up_cell (by decide)]
    refine x_iconst (-1) d_M_write_25 rfl ⟨by decide, by decide⟩ ?_
    refine x_icmp_ne (36) d_M_write_26 (by decide) (fun c2 => ?_) (fun c2 => ?_)
    · rw [if_neg c2] at eC
      refine x_iload_n d_M_write_36 rfl rfl ?_
      refine x_i2l d_M_write_37 ?_
      refine x_lconst (0) d_M_write_38 rfl ⟨by decide, by decide⟩ ?_
      refine x_aload_n d_M_write_39 rfl rfl ?_
      refine x_getF (kf := 81) d_M_write_40 rfl rfl rfl in_M f_M_211 ?_
      refine x_iload_n d_M_write_43 rfl rfl ?_
      refine x_ialdN (x) d_M_write_44 rfl (by omega) (by omega) ?_
      rw [up_cell (by decide)]
      refine x_iconst (1) d_M_write_45 rfl ⟨by decide, by decide⟩ ?_
      refine x_isubN d_M_write_46 (by omega) (by omega) ?_
      refine x_i2l d_M_write_47 ?_
      refine x_S1 d_M_write_48 e_M_write_M_within ⟨rfl, rfl, Nat.zero_le _, Nat.zero_le _⟩ rfl rfl (Nat.le_of_ble_eq_true rfl) (s_within _ _ _ _) ?_
      refine x_if_eq (64) d_M_write_51 (by decide) (fun c3 => ?_) (fun c3 => ?_)
      · have c3 : f_wi place 0 (G m_rMany x - 1) = 0 := c3
        rw [if_pos c3] at eC
        refine x_aload_n d_M_write_64 rfl rfl ?_
        refine x_iconst (3) d_M_write_65 rfl ⟨by decide, by decide⟩ ?_
        refine x_V1 d_M_write_66 e_M_write_M_fails ⟨rfl, rfl, Nat.zero_le _, Nat.zero_le _⟩ rfl rfl rfl rfl (Nat.le_of_ble_eq_true rfl) (s_fails (up G o_M 0 0) 3) ?_
        refine x_i2l d_M_write_69 ?_
        refine x_lreturn d_M_write_70 rfl ?_ (Nat.zero_le _) (Nat.zero_le _)
        exact no 3 (by decide) eC
      · have c3 : f_wi place 0 (G m_rMany x - 1) ≠ 0 := c3
        rw [if_neg c3] at eC
        have q3 := f_wi_1 c3
        obtain ⟨n, rfl⟩ : ∃ n : Nat, place = n := ⟨place.toNat, by omega⟩
        have e1 : up G o_M 0 0 m_rSort = G m_rSort := up_cell (by decide)
        refine x_aload_n d_M_write_54 rfl rfl ?_
        refine x_iload_n d_M_write_55 rfl rfl ?_
        refine x_iload_n d_M_write_56 rfl rfl ?_
        refine x_lload_n d_M_write_57 rfl rfl ?_
        refine x_V1 d_M_write_58 e_M_write_M_puts ⟨rfl, rfl, Nat.zero_le _, Nat.zero_le _⟩ rfl rfl rfl rfl (Nat.le_of_ble_eq_true rfl) (s_puts (up G o_M 0 0) (x := x) (n := n) (by omega) (by omega) v (by rw [e1]; omega)) ?_
        rw [e1]
        refine x_goto (70) d_M_write_61 (by decide) ?_
        refine x_lreturn d_M_write_70 rfl ?_ (Nat.zero_le _) (Nat.zero_le _)
        rw [← hQ]
        exact ⟨_, rfl, Or.inr ⟨eC, rfl, rfl⟩⟩
    · rw [if_pos c2] at eC
      refine x_aload_n d_M_write_29 rfl rfl ?_
      refine x_iconst (2) d_M_write_30 rfl ⟨by decide, by decide⟩ ?_
      refine x_V1 d_M_write_31 e_M_write_M_fails ⟨rfl, rfl, Nat.zero_le _, Nat.zero_le _⟩ rfl rfl rfl rfl (Nat.le_of_ble_eq_true rfl) (s_fails (up G o_M 0 0) 2) ?_
      refine x_i2l d_M_write_34 ?_
      refine x_lreturn d_M_write_35 rfl ?_ (Nat.zero_le _) (Nat.zero_le _)
      exact no 2 (by decide) eC
  · refine x_aload_n d_M_write_12 rfl rfl ?_
    refine x_iconst (1) d_M_write_13 rfl ⟨by decide, by decide⟩ ?_
    refine x_V1 d_M_write_14 e_M_write_M_fails ⟨rfl, rfl, Nat.zero_le _, Nat.zero_le _⟩ rfl rfl rfl rfl (Nat.le_of_ble_eq_true rfl) (s_fails (up G o_M 0 0) 1) ?_
    refine x_i2l d_M_write_17 ?_
    refine x_lreturn d_M_write_18 rfl ?_ (Nat.zero_le _) (Nat.zero_le _)
    exact no 1 (by decide) (by unfold c_wr; rw [if_pos c1])
