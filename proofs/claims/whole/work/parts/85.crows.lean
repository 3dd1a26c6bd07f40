/-! the class: Rows -/
abbrev oRo : XV := xR (some o_Ro)
theorem lshl_eq (v : Int) {b : Nat} (hb : b < 64) : x_lshl v b = w64 (v * 2 ^ b) := by
  unfold x_lshl
  have key : ∀ b : Fin 64, (((Int32.ofInt ((b : Nat) : Int)).toInt64 &&& 63).toBitVec.smod 64).toNat = b := by decide +kernel
  rw [← Int64.toInt_toBitVec, Int64.toBitVec_shiftLeft, BitVec.shiftLeft_eq', key ⟨b, hb⟩, BitVec.toInt_shiftLeft]
  show ((((Int64.ofInt v).toBitVec.toNat <<< b : Nat) : Int)).bmod (2 ^ 64) = _
  rw [w64_bmod, Nat.shiftLeft_eq]
  have e : ((Int64.ofInt v).toBitVec.toNat : Int) = v % 18446744073709551616 := by
    show ((BitVec.ofInt 64 v).toNat : Int) = _
    rw [BitVec.toNat_ofInt]
    have : (0 : Int) ≤ v % ((2 ^ 64 : Nat) : Int) := Int.emod_nonneg _ (by decide)
    rw [Int.toNat_of_nonneg this]
    rfl
  rw [Int.natCast_mul, e]
  show ((v % 18446744073709551616) * ((2 ^ b : Nat) : Int)).bmod 18446744073709551616 = (v * 2 ^ b).bmod 18446744073709551616
  rw [Int.natCast_pow]
  have := Int.emod_add_mul_ediv v 18446744073709551616
  rw [show v * 2 ^ b = (v % 18446744073709551616) * 2 ^ b + 18446744073709551616 * (v / 18446744073709551616 * 2 ^ b) by
    conv => lhs; rw [← this]
    rw [Int.add_mul, Int.mul_assoc]]
  exact (Int.add_mul_bmod_self_left _ _ _).symm
theorem lshr_eq {v : Int} (hv : x_r64 v) {b : Nat} (hb : b < 64) : x_lshr v b = v / 2 ^ b := by
  unfold x_lshr
  have key : ∀ b : Fin 64, (((Int32.ofInt ((b : Nat) : Int)).toInt64 &&& 63).toBitVec.smod 64).toNat = b := by decide +kernel
  rw [← Int64.toInt_toBitVec, Int64.toBitVec_shiftRight, BitVec.sshiftRight_eq', key ⟨b, hb⟩, BitVec.toInt_sshiftRight, Int64.toInt_toBitVec, i64_toInt_r hv, Int.shiftRight_eq_div_pow]
  rfl
theorem i2b_eq (v : Int) : x_i2b (w32 v) = (v + 128) % 256 - 128 := by
  unfold x_i2b
  rw [i32_w]
  have : (Int32.ofInt v).toInt8 = Int8.ofInt v := Int32.toInt8_ofInt
  rw [this]
  rw [Int8.toInt_toInt32, Int8.toInt_ofInt, Int.bmod_def]
  show (if v % 256 < (256 + 1) / 2 then v % 256 else v % 256 - 256) = _
  split <;> omega
theorem i2s_eq (v : Int) : x_i2s (w32 v) = (v + 32768) % 65536 - 32768 := by
  unfold x_i2s
  rw [i32_w]
  have : (Int32.ofInt v).toInt16 = Int16.ofInt v := Int32.toInt16_ofInt
  rw [this]
  rw [Int16.toInt_toInt32, Int16.toInt_ofInt, Int.bmod_def]
  show (if v % 65536 < (65536 + 1) / 2 then v % 65536 else v % 65536 - 65536) = _
  split <;> omega
theorem cut_0 {v : Int} : f_cutTo 0 v = x_i2b (w32 v) := by
  rw [i2b_eq]
  unfold f_cutTo
  rw [show (64 : Int) - x_shl 8 0 = ((56 : Nat) : Int) from by decide +kernel, lshl_eq v (by decide), lshr_eq (w64_r _) (by decide)]
  unfold w64
  show ((v * 72057594037927936 + 9223372036854775808) % 18446744073709551616 - 9223372036854775808) / 72057594037927936 = _
  omega
theorem cut_1 {v : Int} : f_cutTo 1 v = x_i2s (w32 v) := by
  rw [i2s_eq]
  unfold f_cutTo
  rw [show (64 : Int) - x_shl 8 1 = ((48 : Nat) : Int) from by decide +kernel, lshl_eq v (by decide), lshr_eq (w64_r _) (by decide)]
  unfold w64
  show ((v * 281474976710656 + 9223372036854775808) % 18446744073709551616 - 9223372036854775808) / 281474976710656 = _
  omega
theorem cut_2 {v : Int} : f_cutTo 2 v = w32 v := by
  unfold f_cutTo
  rw [show (64 : Int) - x_shl 8 2 = ((32 : Nat) : Int) from by decide +kernel, lshl_eq v (by decide), lshr_eq (w64_r _) (by decide)]
  unfold w64 w32
  show ((v * 4294967296 + 9223372036854775808) % 18446744073709551616 - 9223372036854775808) / 4294967296 = _
  omega
theorem cut_3 {v : Int} (hv : x_r64 v) : f_cutTo 3 v = v := by
  unfold f_cutTo
  rw [show (64 : Int) - x_shl 8 3 = ((0 : Nat) : Int) from by decide +kernel, lshl_eq v (by decide), lshr_eq (w64_r _) (by decide)]
  obtain ⟨h1, h2⟩ := hv
  unfold w64
  show ((v * 1 + 9223372036854775808) % 18446744073709551616 - 9223372036854775808) / 1 = _
  omega
section CRo
variable {G : Nat → Nat → Int}
theorem c_cut (σ : XM) (s v : Int) (hs : 0 ≤ s ∧ s ≤ 3) : x_M y_Ro_cut [xI s, xL v] σ (x_is (.inl (some (xL (f_cutTo s v)))) σ) := by
  refine x_knowM (fun hv _ => ?_)
  have hv' : x_r64 v := hv (xL v) (by simp)
  refine x_of 0 rfl (Nat.le_of_ble_eq_true rfl) ?_
  show x_A y_Ro_cut 0 [some (xI s), some (xL v), none] [] σ 0 0 _
  refine x_iload_n d_Ro_cut_0 rfl rfl ?_
  rcases (by omega : s = 0 ∨ s = 1 ∨ s = 2 ∨ s = 3) with e | e | e | e <;> subst e
  · refine x_tabIn 28 d_Ro_cut_1 (by decide) (by decide) rfl (by decide) ?_
    refine x_lload_n d_Ro_cut_28 rfl rfl ?_
    refine x_l2i d_Ro_cut_29 ?_
    refine x_i2b_ d_Ro_cut_30 ?_
    refine x_i2l d_Ro_cut_31 ?_
    refine x_lreturn d_Ro_cut_32 rfl ?_ (Nat.zero_le _) (Nat.zero_le _)
    rw [cut_0]
    exact ⟨rfl, rfl⟩
  · refine x_tabIn 33 d_Ro_cut_1 (by decide) (by decide) rfl (by decide) ?_
    refine x_lload_n d_Ro_cut_33 rfl rfl ?_
    refine x_l2i d_Ro_cut_34 ?_
    refine x_i2s_ d_Ro_cut_35 ?_
    refine x_i2l d_Ro_cut_36 ?_
    refine x_lreturn d_Ro_cut_37 rfl ?_ (Nat.zero_le _) (Nat.zero_le _)
    rw [cut_1]
    exact ⟨rfl, rfl⟩
  · refine x_tabIn 38 d_Ro_cut_1 (by decide) (by decide) rfl (by decide) ?_
    refine x_lload_n d_Ro_cut_38 rfl rfl ?_
    refine x_l2i d_Ro_cut_39 ?_
    refine x_i2l d_Ro_cut_40 ?_
    refine x_lreturn d_Ro_cut_41 rfl ?_ (Nat.zero_le _) (Nat.zero_le _)
    rw [cut_2]
    exact ⟨rfl, rfl⟩
  · refine x_tabOut 42 d_Ro_cut_1 (by decide) (by decide) ?_
    refine x_lload_n d_Ro_cut_42 rfl rfl ?_
    refine x_lreturn d_Ro_cut_43 rfl ?_ (Nat.zero_le _) (Nat.zero_le _)
    rw [cut_3 hv']
    exact ⟨rfl, rfl⟩
theorem c_lengthOf (x : Nat) (hx : x < 4) : x_M y_Ro_lengthOf [oRo, xI (x : Int)] (S0, G) (x_is (.inl (some (xI (G ro_lengths x)))) (S0, G)) := by
  refine x_of 0 rfl (Nat.le_of_ble_eq_true rfl) ?_
  show x_A y_Ro_lengthOf 0 [some oRo, some (xI (x : Int))] [] (S0, G) 0 0 _
  refine x_iload_n d_Ro_lengthOf_0 rfl rfl ?_
  refine x_if_lt (18) d_Ro_lengthOf_1 (by decide) (fun g => ?_) (fun g => ?_)
  · omega
  · refine x_iload_n d_Ro_lengthOf_4 rfl rfl ?_
    refine x_iconst (4) d_Ro_lengthOf_5 rfl ⟨by decide, by decide⟩ ?_
    refine x_icmp_ge (18) d_Ro_lengthOf_6 (by decide) (fun g => ?_) (fun g => ?_)
    · omega
    · refine x_aload_n d_Ro_lengthOf_9 rfl rfl ?_
      refine x_getF (kf := 2) d_Ro_lengthOf_10 rfl rfl rfl in_Ro f_Ro_19 ?_
      refine x_iload_n d_Ro_lengthOf_13 rfl rfl ?_
      refine x_ialdN (x) d_Ro_lengthOf_14 rfl (by omega) (by omega) ?_
      refine x_goto (19) d_Ro_lengthOf_15 (by decide) ?_
      refine x_ireturn d_Ro_lengthOf_19 rfl ?_ (Nat.zero_le _) (Nat.zero_le _)
      exact ⟨rfl, rfl⟩
theorem c_isMissing (x : Nat) (hx : x < 4) : x_M y_Ro_isMissing [oRo, xI (x : Int)] (S0, G) (x_is (.inl (some (xI (b2i (!xb (G o_Ro 3) x))))) (S0, G)) := by
  refine x_of 0 rfl (Nat.le_of_ble_eq_true rfl) ?_
  show x_A y_Ro_isMissing 0 [some oRo, some (xI (x : Int))] [] (S0, G) 0 0 _
  refine x_aload_n d_Ro_isMissing_0 rfl rfl ?_
  refine x_getIG (kf := 3) d_Ro_isMissing_1 rfl rfl rfl in_Ro f_Ro_22 ?_
  refine x_iload_n d_Ro_isMissing_4 rfl rfl ?_
  refine x_ishr d_Ro_isMissing_5 ?_
  refine x_iconst (1) d_Ro_isMissing_6 rfl ⟨by decide, by decide⟩ ?_
  refine x_iand d_Ro_isMissing_7 ?_
  refine x_if_ne (15) d_Ro_isMissing_8 (by decide) (fun g => ?_) (fun g => ?_)
  · refine x_iconst (0) d_Ro_isMissing_15 rfl ⟨by decide, by decide⟩ ?_
    refine x_zreturn d_Ro_isMissing_16 rfl (by first | exact Or.inl rfl | exact Or.inr rfl | (split <;> first | exact Or.inl rfl | exact Or.inr rfl) | assumption) ?_ (Nat.zero_le _) (Nat.zero_le _)
    have : xb (G o_Ro 3) x = true := by
      rw [x_and1, xb_shr _ (by omega)] at g
      by_cases c : xb (G o_Ro 3) x = true
      · exact c
      · rw [if_neg c] at g; exact absurd rfl g
    rw [this]
    exact ⟨rfl, rfl⟩
  · refine x_iconst (1) d_Ro_isMissing_11 rfl ⟨by decide, by decide⟩ ?_
    refine x_goto (16) d_Ro_isMissing_12 (by decide) ?_
    refine x_zreturn d_Ro_isMissing_16 rfl (by first | exact Or.inl rfl | exact Or.inr rfl | (split <;> first | exact Or.inl rfl | exact Or.inr rfl) | assumption) ?_ (Nat.zero_le _) (Nat.zero_le _)
    have : xb (G o_Ro 3) x = false := by
      rw [x_and1, xb_shr _ (by omega)] at g
      by_cases c : xb (G o_Ro 3) x = true
      · rw [if_pos c] at g; cases g
      · simpa using c
    rw [this]
    exact ⟨rfl, rfl⟩
theorem c_rat (x n : Nat) (hx : x < 4) (hn : (n : Int) < G ro_lengths x) (hl : G ro_lengths x ≤ 30) : x_M y_Ro_at [oRo, xI (x : Int), xI (n : Int)] (S0, G) (x_is (.inl (some (xL (G ro_cells (30 * x + n))))) (S0, G)) := by
  refine x_of 0 rfl (Nat.le_of_ble_eq_true rfl) ?_
  show x_A y_Ro_at 0 [some oRo, some (xI (x : Int)), some (xI (n : Int))] [] (S0, G) 0 0 _
  refine x_iload_n d_Ro_at_0 rfl rfl ?_
  refine x_if_lt (27) d_Ro_at_1 (by decide) (fun g => ?_) (fun g => ?_)
  · omega
  · refine x_iload_n d_Ro_at_4 rfl rfl ?_
    refine x_aload_n d_Ro_at_5 rfl rfl ?_
    refine x_iload_n d_Ro_at_6 rfl rfl ?_
    refine x_V1 d_Ro_at_7 e_Ro_at_Ro_lengthOf ⟨rfl, rfl, Nat.zero_le _, Nat.zero_le _⟩ rfl rfl rfl rfl (Nat.le_of_ble_eq_true rfl) (c_lengthOf x hx) ?_
    refine x_icmp_ge (27) d_Ro_at_10 (by decide) (fun g => ?_) (fun g => ?_)
    · omega
    · refine x_aload_n d_Ro_at_13 rfl rfl ?_
      refine x_getF (kf := 0) d_Ro_at_14 rfl rfl rfl in_Ro f_Ro_9 ?_
      refine x_iload_n d_Ro_at_17 rfl rfl ?_
      refine x_bipush (30) d_Ro_at_18 rfl ⟨by decide, by decide⟩ ?_
      refine x_imulN d_Ro_at_20 (by omega) (by omega) ?_
      refine x_iload_n d_Ro_at_21 rfl rfl ?_
      refine x_iaddN d_Ro_at_22 (by omega) (by omega) ?_
      refine x_laldN (30 * x + n) d_Ro_at_23 rfl (by omega) (by omega) ?_
      refine x_goto (28) d_Ro_at_24 (by decide) ?_
      refine x_lreturn d_Ro_at_28 rfl ?_ (Nat.zero_le _) (Nat.zero_le _)
      exact ⟨rfl, rfl⟩
theorem c_rput (x n : Nat) (v : Int) (hx : x < 4) (hn : (n : Int) < G ro_lengths x) (hl : G ro_lengths x ≤ 30) (hs : 0 ≤ G ro_sorts x ∧ G ro_sorts x ≤ 3) : x_M y_Ro_put [oRo, xI (x : Int), xI (n : Int), xL v] (S0, G) (x_is (.inl (some (xL (f_cutTo (G ro_sorts x) v)))) (S0, up G ro_cells (30 * x + n) (f_cutTo (G ro_sorts x) v))) := by
  refine x_of 2 rfl (Nat.le_of_ble_eq_true rfl) ?_
  show x_A y_Ro_put 0 [some oRo, some (xI (x : Int)), some (xI (n : Int)), some (xL v), none, none, none] [] (S0, G) 0 0 _
  refine x_iload_n d_Ro_put_0 rfl rfl ?_
  refine x_if_lt (13) d_Ro_put_1 (by decide) (fun g => ?_) (fun g => ?_)
  · omega
  · refine x_iload_n d_Ro_put_4 rfl rfl ?_
    refine x_aload_n d_Ro_put_5 rfl rfl ?_
    refine x_iload_n d_Ro_put_6 rfl rfl ?_
    refine x_V1 d_Ro_put_7 e_Ro_put_Ro_lengthOf ⟨rfl, rfl, Nat.zero_le _, Nat.zero_le _⟩ rfl rfl rfl rfl (Nat.le_of_ble_eq_true rfl) (c_lengthOf x hx) ?_
    refine x_icmp_lt (15) d_Ro_put_10 (by decide) (fun g => ?_) (fun g => ?_)
    · refine x_aload_n d_Ro_put_15 rfl rfl ?_
      refine x_getF (kf := 1) d_Ro_put_16 rfl rfl rfl in_Ro f_Ro_15 ?_
      refine x_iload_n d_Ro_put_19 rfl rfl ?_
      refine x_ialdN (x) d_Ro_put_20 rfl (by omega) (by omega) ?_
      refine x_lload_n d_Ro_put_21 rfl rfl ?_
      refine x_S1 d_Ro_put_22 e_Ro_put_Ro_cut ⟨rfl, rfl, Nat.zero_le _, Nat.zero_le _⟩ rfl rfl (Nat.le_of_ble_eq_true rfl) (c_cut _ _ _ hs) ?_
      refine x_lstore d_Ro_put_25 (by decide) ?_
      dsimp only [x_st1, x_st2, x_kill, List.set, List.getElem?_cons_zero, List.getElem?_cons_succ]
      refine x_aload_n d_Ro_put_27 rfl rfl ?_
      refine x_getF (kf := 0) d_Ro_put_28 rfl rfl rfl in_Ro f_Ro_9 ?_
      refine x_iload_n d_Ro_put_31 rfl rfl ?_
      refine x_bipush (30) d_Ro_put_32 rfl ⟨by decide, by decide⟩ ?_
      refine x_imulN d_Ro_put_34 (by omega) (by omega) ?_
      refine x_iload_n d_Ro_put_35 rfl rfl ?_
      refine x_iaddN d_Ro_put_36 (by omega) (by omega) ?_
      refine x_lload d_Ro_put_37 rfl ?_
      refine x_lastN (30 * x + n) d_Ro_put_39 rfl (by omega) (by omega) ?_
      refine x_lload d_Ro_put_40 rfl ?_
      refine x_lreturn d_Ro_put_42 rfl ?_ (Nat.zero_le _) (Nat.zero_le _)
      exact ⟨rfl, rfl⟩
    · omega
def mStarted (x : Nat) (sort many : Int) (G : Nat → Nat → Int) : Option XV → XM → Prop := fun v τ => v = none ∧ ∃ G', τ = (S0, G') ∧ (∀ i, i ≠ o_Ro → i ≠ ro_cells → i ≠ ro_sorts → i ≠ ro_lengths → G' i = G i) ∧ G' o_Ro 3 = x_or (G o_Ro 3) (x_shl 1 x) ∧ (∀ j, G' ro_sorts j = if j = x then sort else G ro_sorts j) ∧ (∀ j, G' ro_lengths j = if j = x then many else G ro_lengths j) ∧ ∀ j, G' ro_cells j = if 30 * x ≤ j ∧ j < 30 * x + 30 then 0 else G ro_cells j
theorem c_start (x : Nat) (sort many : Int) (hx : x < 4) (hm : 0 ≤ many ∧ many ≤ 30) : x_M y_Ro_start [oRo, xI (x : Int), xI sort, xI many] (S0, G) (fun r τ => ∃ v, r = .inl v ∧ mStarted x sort many G v τ) := by
  refine x_of 1 rfl (Nat.le_of_ble_eq_true rfl) ?_
  show x_A y_Ro_start 0 [some oRo, some (xI (x : Int)), some (xI sort), some (xI many), none] [] (S0, G) 0 0 _
  generalize hQ : (fun (r : XRes) (τ : XM) => ∃ v, r = .inl v ∧ mStarted x sort many G v τ) = Q
  refine x_iload_n d_Ro_start_0 rfl rfl ?_
  refine x_if_lt (9) d_Ro_start_1 (by decide) (fun g => ?_) (fun g => ?_)
  · omega
  · refine x_iload_n d_Ro_start_4 rfl rfl ?_
    refine x_iconst (4) d_Ro_start_5 rfl ⟨by decide, by decide⟩ ?_
    refine x_icmp_lt (10) d_Ro_start_6 (by decide) (fun g => ?_) (fun g => ?_)
    · refine x_aload_n d_Ro_start_10 rfl rfl ?_
      refine x_dup d_Ro_start_11 rfl ?_
      refine x_getIG (kf := 3) d_Ro_start_12 rfl rfl rfl in_Ro f_Ro_22 ?_
      refine x_iconst (1) d_Ro_start_15 rfl ⟨by decide, by decide⟩ ?_
      refine x_iload_n d_Ro_start_16 rfl rfl ?_
      refine x_ishl d_Ro_start_17 ?_
      refine x_ior d_Ro_start_18 ?_
      refine x_putIG (kf := 3) tyX6 d_Ro_start_19 rfl rfl rfl in_Ro f_Ro_22 tyX6_ok nmX6 (by decide +kernel) rfl ?_
      refine x_aload_n d_Ro_start_22 rfl rfl ?_
      refine x_getF (kf := 1) d_Ro_start_23 rfl rfl rfl in_Ro f_Ro_15 ?_
      refine x_iload_n d_Ro_start_26 rfl rfl ?_
      refine x_iload_n d_Ro_start_27 rfl rfl ?_
      refine x_iastN (x) d_Ro_start_28 rfl (by omega) (by omega) ?_
      refine x_aload_n d_Ro_start_29 rfl rfl ?_
      refine x_getF (kf := 2) d_Ro_start_30 rfl rfl rfl in_Ro f_Ro_19 ?_
      refine x_iload_n d_Ro_start_33 rfl rfl ?_
      refine x_iconst (0) d_Ro_start_34 rfl ⟨by decide, by decide⟩ ?_
      refine x_iload_n d_Ro_start_35 rfl rfl ?_
      refine x_bipush (30) d_Ro_start_36 rfl ⟨by decide, by decide⟩ ?_
      refine x_S1 d_Ro_start_38 e_Ro_start_JM_min ⟨rfl, rfl, Nat.zero_le _, Nat.zero_le _⟩ rfl rfl (Nat.le_of_ble_eq_true rfl) (s_min _ _ _) ?_
      refine x_S1 d_Ro_start_41 e_Ro_start_JM_max ⟨rfl, rfl, Nat.zero_le _, Nat.zero_le _⟩ rfl rfl (Nat.le_of_ble_eq_true rfl) (s_max _ _ _) ?_
      rw [show max 0 (min many 30) = many by omega]
      refine x_iastN (x) d_Ro_start_44 rfl (by omega) (by omega) ?_
      refine x_iconst (0) d_Ro_start_45 rfl ⟨by decide, by decide⟩ ?_
      refine x_istore d_Ro_start_46 (by decide) ?_
      dsimp only [x_st1, x_st2, x_kill, List.set, List.getElem?_cons_zero, List.getElem?_cons_succ]
      generalize hG1 : up (up (up G o_Ro 3 (x_or (G o_Ro 3) (x_shl 1 x))) ro_sorts x sort) ro_lengths x many = G1
      have a1 : ∀ i, i ≠ o_Ro → i ≠ ro_sorts → i ≠ ro_lengths → G1 i = G i := fun i q1 q2 q3 => by rw [← hG1, up_cell q3, up_cell q2, up_cell q1]
      have a2 : G1 o_Ro 3 = x_or (G o_Ro 3) (x_shl 1 x) := by rw [← hG1, up_cell (by decide), up_cell (by decide), up_same]
      have a3 : ∀ j, G1 ro_sorts j = if j = x then sort else G ro_sorts j := fun j => by rw [← hG1, up_cell (by decide), up_row, up_cell (by decide)]
      have a4 : ∀ j, G1 ro_lengths j = if j = x then many else G ro_lengths j := fun j => by rw [← hG1, up_row, up_cell (by decide), up_cell (by decide)]
      refine x_up_to (P := fun n => ∀ G', (∀ i, i ≠ ro_cells → G' i = G1 i) → (∀ j, G' ro_cells j = if 30 * x ≤ j ∧ j < 30 * x + n then 0 else G ro_cells j) → x_A y_Ro_start 48 [some oRo, some (xI (x : Int)), some (xI sort), some (xI many), some (xI (n : Int))] [] (S0, G') 0 0 Q) 0 30 (Nat.zero_le _) (fun G' f1 f2 => ?_) (fun n _ hn k G' f1 f2 => ?_) G1 (fun _ _ => rfl) (fun j => by rw [if_neg (by omega), a1 _ (by decide) (by decide) (by decide)])
      · refine x_iload d_Ro_start_48 rfl ?_
        refine x_bipush (30) d_Ro_start_50 rfl ⟨by decide, by decide⟩ ?_
        refine x_icmp_ge (74) d_Ro_start_52 (by decide) (fun g => ?_) (fun g => ?_)
        · refine x_return d_Ro_start_74 rfl ?_ (Nat.zero_le _) (Nat.zero_le _)
          rw [← hQ]
          exact ⟨none, rfl, rfl, G', rfl, fun i q1 q2 q3 q4 => by rw [f1 i q2]; exact a1 i q1 q3 q4, by rw [f1 _ (by decide)]; exact a2, fun j => by rw [f1 _ (by decide)]; exact a3 j, fun j => by rw [f1 _ (by decide)]; exact a4 j, f2⟩
        · omega
      · refine x_iload d_Ro_start_48 rfl ?_
        refine x_bipush (30) d_Ro_start_50 rfl ⟨by decide, by decide⟩ ?_
        refine x_icmp_ge (74) d_Ro_start_52 (by decide) (fun g => ?_) (fun g => ?_)
        · omega
        · refine x_aload_n d_Ro_start_55 rfl rfl ?_
          refine x_getF (kf := 0) d_Ro_start_56 rfl rfl rfl in_Ro f_Ro_9 ?_
          refine x_iload_n d_Ro_start_59 rfl rfl ?_
          refine x_bipush (30) d_Ro_start_60 rfl ⟨by decide, by decide⟩ ?_
          refine x_imulN d_Ro_start_62 (by omega) (by omega) ?_
          refine x_iload d_Ro_start_63 rfl ?_
          refine x_iaddN d_Ro_start_65 (by omega) (by omega) ?_
          refine x_lconst (0) d_Ro_start_66 rfl ⟨by decide, by decide⟩ ?_
          refine x_lastN (30 * x + n) d_Ro_start_67 rfl (by omega) (by omega) ?_
          refine x_iincN d_Ro_start_68 rfl (by decide) (by omega) (by omega) ?_
          dsimp only [x_st1, x_st2, x_kill, List.set, List.getElem?_cons_zero, List.getElem?_cons_succ]
          refine x_goto (48) d_Ro_start_71 (by decide) ?_
          refine k _ (fun i hi => by rw [up_cell hi]; exact f1 i hi) (fun j => ?_)
          by_cases e : j = 30 * x + n
          · subst e; rw [up_same, if_pos (by omega)]
          · rw [up_ne e, f2]
            by_cases c : 30 * x ≤ j ∧ j < 30 * x + n
            · rw [if_pos c, if_pos (by omega)]
            · rw [if_neg c, if_neg (by omega)]
    · omega
/-! long bits -/
def xl (v : Int) (b : Nat) : Bool := (Int64.ofInt v).toBitVec.getLsbD b
theorem xl_land (v w : Int) (b : Nat) : xl (x_land v w) b = (xl v b && xl w b) := by
  unfold xl x_land
  rw [Int64.ofInt_toInt, Int64.toBitVec_and, BitVec.getLsbD_and]
theorem xl_shr (v : Int) {b : Nat} (hb : b < 63) : xl (x_lshr v b) 0 = xl v b := by
  unfold xl x_lshr
  rw [Int64.ofInt_toInt, Int64.toBitVec_shiftRight]
  have key : ∀ b : Fin 64, (((Int32.ofInt ((b : Nat) : Int)).toInt64 &&& 63).toBitVec.smod 64).toNat = b := by decide +kernel
  rw [BitVec.sshiftRight_eq', key ⟨b, by omega⟩, BitVec.getLsbD_sshiftRight]
  simp [show b < 64 by omega]
theorem x_land1 (v : Int) : x_land v 1 = if xl v 0 = true then 1 else 0 := by
  unfold x_land xl
  generalize (Int64.ofInt v) = w
  have : (w &&& Int64.ofInt 1).toBitVec = if w.toBitVec.getLsbD 0 = true then 1#64 else 0#64 := by
    rw [Int64.toBitVec_and]
    show w.toBitVec &&& 1#64 = _
    rw [BitVec.and_one_eq_setWidth_ofBool_getLsbD]
    cases w.toBitVec.getLsbD 0 <;> rfl
  show (w &&& Int64.ofInt 1).toBitVec.toInt = _
  rw [this]
  split <;> rfl
/-- a side's bit, seen as the reference sees it -/
theorem xl_side (v : Int) {b : Nat} (hb : b < 16) : xb (w32 (x_land v 65535)) b = xl v b := by
  have e : xb (w32 (x_land v 65535)) b = xl (x_land v 65535) b := by
    unfold xb xl
    rw [← i64_32]
    show ((Int64.ofInt (x_land v 65535)).toBitVec.signExtend 32).getLsbD b = _
    rw [BitVec.getLsbD_signExtend]
    simp [show b < 32 by omega, show b < 64 by omega]
  rw [e, xl_land]
  have key : ∀ b : Fin 16, xl 65535 b = true := by decide +kernel
  rw [key ⟨b, hb⟩]
  simp
theorem c_isIn (x m b : Nat) (hx : x < 4) (hm : (m : Int) < G ro_lengths x) (hl : G ro_lengths x ≤ 30) (hb : b < 16) : x_M y_Es_isIn [oRo, xI (x : Int), xI (m : Int), xI (b : Int)] (S0, G) (x_is (.inl (some (xI (b2i (xl (G ro_cells (30 * x + m)) b))))) (S0, G)) := by
  refine x_of 0 rfl (Nat.le_of_ble_eq_true rfl) ?_
  show x_A y_Es_isIn 0 [some oRo, some (xI (x : Int)), some (xI (m : Int)), some (xI (b : Int))] [] (S0, G) 0 0 _
  refine x_aload_n d_Es_isIn_0 rfl rfl ?_
  refine x_iload_n d_Es_isIn_1 rfl rfl ?_
  refine x_iload_n d_Es_isIn_2 rfl rfl ?_
  refine x_V1 d_Es_isIn_3 e_Es_isIn_Ro_at ⟨rfl, rfl, Nat.zero_le _, Nat.zero_le _⟩ rfl rfl rfl rfl (Nat.le_of_ble_eq_true rfl) (c_rat x m hx hm hl) ?_
  refine x_iload_n d_Es_isIn_6 rfl rfl ?_
  refine x_lshr_ d_Es_isIn_7 ?_
  refine x_lconst (1) d_Es_isIn_8 rfl ⟨by decide, by decide⟩ ?_
  refine x_land_ d_Es_isIn_9 ?_
  refine x_lconst (1) d_Es_isIn_10 rfl ⟨by decide, by decide⟩ ?_
  refine x_lcmp_ d_Es_isIn_11 ?_
  have e : x_land (x_lshr (G ro_cells (30 * x + m)) b) 1 = if xl (G ro_cells (30 * x + m)) b = true then 1 else 0 := by rw [x_land1, xl_shr _ (by omega)]
  rw [e]
  by_cases c : xl (G ro_cells (30 * x + m)) b = true
  · rw [if_pos c, c]
    refine x_if_ne (19) d_Es_isIn_12 (by decide) (fun g => ?_) (fun g => ?_)
    · exact absurd rfl g
    · refine x_iconst (1) d_Es_isIn_15 rfl ⟨by decide, by decide⟩ ?_
      refine x_goto (20) d_Es_isIn_16 (by decide) ?_
      refine x_zreturn d_Es_isIn_20 rfl (by first | exact Or.inl rfl | exact Or.inr rfl | (split <;> first | exact Or.inl rfl | exact Or.inr rfl) | assumption) ?_ (Nat.zero_le _) (Nat.zero_le _)
      exact ⟨rfl, rfl⟩
  · rw [if_neg c, show xl (G ro_cells (30 * x + m)) b = false by simpa using c]
    refine x_if_ne (19) d_Es_isIn_12 (by decide) (fun g => ?_) (fun g => ?_)
    · refine x_iconst (0) d_Es_isIn_19 rfl ⟨by decide, by decide⟩ ?_
      refine x_zreturn d_Es_isIn_20 rfl (by first | exact Or.inl rfl | exact Or.inr rfl | (split <;> first | exact Or.inl rfl | exact Or.inr rfl) | assumption) ?_ (Nat.zero_le _) (Nat.zero_le _)
      exact ⟨rfl, rfl⟩
    · cases g
end CRo
