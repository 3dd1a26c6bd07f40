/-! the class: what Smoke tells -/
abbrev oSm : XV := xR (some o_Sm)
def fillG (G : Nat → Nat → Int) (i n : Nat) (v : Int) : Nat → Nat → Int := fun a b => if a = i ∧ b < n then v else G a b
theorem fillG_o {G : Nat → Nat → Int} {i n a : Nat} {v : Int} (h : a ≠ i) : fillG G i n v a = G a := by
  funext b
  unfold fillG
  rw [if_neg (by omega)]
theorem fillG_i {G : Nat → Nat → Int} {i n b : Nat} {v : Int} (h : b < n) : fillG G i n v i b = v := by
  unfold fillG
  rw [if_pos ⟨rfl, h⟩]
theorem fillG_s (G : Nat → Nat → Int) (i n : Nat) (v : Int) : up (fillG G i n v) i n v = fillG G i (n + 1) v := by
  funext a b
  unfold up fillG
  by_cases h1 : a = i
  · subst h1
    by_cases h2 : b = n
    · subst h2
      simp
    · by_cases h3 : b < n
      · simp [h2, h3, show b < n + 1 by omega]
      · simp [h2, h3, show ¬ b < n + 1 by omega]
  · simp [h1]
theorem c_fill {G : Nat → Nat → Int} {i n : Nat} (hi : S0[i]? = some (.inr (0, n))) (hn : n ≤ 5000) (v : Int) : x_M y_JA_fill [xR (some i), xI v] (S0, G) (x_is (.inl none) (S0, fillG G i n v)) := by
  refine x_ofJ 2 pf_fill (Nat.le_of_ble_eq_true rfl) ?_
  show x_A y_JA_fill 0 [some (xR (some i)), some (xI v), none, none] [] (S0, G) 0 0 _
  refine x_iconst (0) d_JA_fill_0 rfl ⟨by decide, by decide⟩ ?_
  refine x_istore_n d_JA_fill_1 rfl (by decide) ?_
  dsimp only [x_st1, x_st2, x_kill, List.set, List.getElem?_cons_zero, List.getElem?_cons_succ]
  refine x_aload_n d_JA_fill_2 rfl rfl ?_
  refine x_arraylength d_JA_fill_3 hi ?_
  refine x_istore_n d_JA_fill_4 rfl (by decide) ?_
  dsimp only [x_st1, x_st2, x_kill, List.set, List.getElem?_cons_zero, List.getElem?_cons_succ]
  have e0 : fillG G i 0 v = G := by
    funext a b
    unfold fillG
    rw [if_neg (by omega)]
  have key : x_A y_JA_fill 5 [some (xR (some i)), some (xI v), some (xI ((0 : Nat) : Int)), some (xI (n : Int))] [] (S0, fillG G i 0 v) 0 0 (x_is (.inl none) (S0, fillG G i n v)) := by
    refine x_up_to (P := fun j => x_A y_JA_fill 5 [some (xR (some i)), some (xI v), some (xI (j : Int)), some (xI (n : Int))] [] (S0, fillG G i j v) 0 0 (x_is (.inl none) (S0, fillG G i n v))) 0 n (Nat.zero_le _) ?_ (fun j _ hj k => ?_)
    · refine x_iload_n d_JA_fill_5 rfl rfl ?_
      refine x_iload_n d_JA_fill_6 rfl rfl ?_
      refine x_icmp_ge (20) d_JA_fill_7 (by decide) (fun c => ?_) (fun c => ?_)
      · refine x_return d_JA_fill_20 rfl ?_ (Nat.zero_le _) (Nat.zero_le _)
        exact ⟨rfl, rfl⟩
      · omega
    · refine x_iload_n d_JA_fill_5 rfl rfl ?_
      refine x_iload_n d_JA_fill_6 rfl rfl ?_
      refine x_icmp_ge (20) d_JA_fill_7 (by decide) (fun c => ?_) (fun c => ?_)
      · omega
      · refine x_aload_n d_JA_fill_10 rfl rfl ?_
        refine x_iload_n d_JA_fill_11 rfl rfl ?_
        refine x_iload_n d_JA_fill_12 rfl rfl ?_
        refine x_iastN (j) d_JA_fill_13 hi (by omega) (by omega) ?_
        rw [fillG_s]
        refine x_iincN d_JA_fill_14 rfl (by decide) (by omega) (by omega) ?_
        dsimp only [x_st1, x_st2, x_kill, List.set, List.getElem?_cons_zero, List.getElem?_cons_succ]
        refine x_goto (5) d_JA_fill_17 (by decide) ?_
        exact k
  rw [e0] at key
  exact key
section CS
variable {h : HH} {G : Nat → Nat → Int}
theorem c_airOf (w m : Nat) (hw : w < 12) (hm : m ≤ 20) : x_M y_Sm_airOf [oSm, xI (w : Int), xI (m : Int)] (S0, G) (x_is (.inl (some (xI (G sm_airs (12 * m + w))))) (S0, G)) := by
  refine x_of 1 rfl (Nat.le_of_ble_eq_true rfl) ?_
  show x_A y_Sm_airOf 0 [some oSm, some (xI (w : Int)), some (xI (m : Int)), none] [] (S0, G) 0 0 _
  refine x_iload_n d_Sm_airOf_0 rfl rfl ?_
  refine x_if_lt (24) d_Sm_airOf_1 (by decide) (fun g => ?_) (fun g => ?_)
  · omega
  · refine x_iload_n d_Sm_airOf_4 rfl rfl ?_
    refine x_bipush (12) d_Sm_airOf_5 rfl ⟨by decide, by decide⟩ ?_
    refine x_icmp_ge (24) d_Sm_airOf_7 (by decide) (fun g => ?_) (fun g => ?_)
    · omega
    · refine x_iload_n d_Sm_airOf_10 rfl rfl ?_
      refine x_if_lt (24) d_Sm_airOf_11 (by decide) (fun g => ?_) (fun g => ?_)
      · omega
      · refine x_iload_n d_Sm_airOf_14 rfl rfl ?_
        refine x_bipush (21) d_Sm_airOf_15 rfl ⟨by decide, by decide⟩ ?_
        refine x_icmp_ge (24) d_Sm_airOf_17 (by decide) (fun g => ?_) (fun g => ?_)
        · omega
        · refine x_iconst (1) d_Sm_airOf_20 rfl ⟨by decide, by decide⟩ ?_
          refine x_goto (25) d_Sm_airOf_21 (by decide) ?_
          refine x_istore_n d_Sm_airOf_25 rfl (by decide) ?_
          dsimp only [x_st1, x_st2, x_kill, List.set, List.getElem?_cons_zero, List.getElem?_cons_succ]
          refine x_iload_n d_Sm_airOf_26 rfl rfl ?_
          refine x_if_eq (44) d_Sm_airOf_27 (by decide) (fun g => ?_) (fun g => ?_)
          · cases g
          · refine x_aload_n d_Sm_airOf_30 rfl rfl ?_
            refine x_getF (kf := 4) d_Sm_airOf_31 rfl rfl rfl in_Sm f_Sm_18 ?_
            refine x_iload_n d_Sm_airOf_34 rfl rfl ?_
            refine x_bipush (12) d_Sm_airOf_35 rfl ⟨by decide, by decide⟩ ?_
            refine x_imulN d_Sm_airOf_37 (by omega) (by omega) ?_
            refine x_iload_n d_Sm_airOf_38 rfl rfl ?_
            refine x_iaddN d_Sm_airOf_39 (by omega) (by omega) ?_
            refine x_ialdN (12 * m + w) d_Sm_airOf_40 rfl (by omega) (by omega) ?_
            refine x_goto (45) d_Sm_airOf_41 (by decide) ?_
            refine x_ireturn d_Sm_airOf_45 rfl ?_ (Nat.zero_le _) (Nat.zero_le _)
            exact ⟨rfl, rfl⟩
theorem c_aboveIn (p m : Nat) (hp : p < 8) (hm : m ≤ 20) : x_M y_Sm_aboveIn [oSm, xI (p : Int), xI (m : Int)] (S0, G) (x_is (.inl (some (xI (G sm_above (8 * m + p))))) (S0, G)) := by
  refine x_of 1 rfl (Nat.le_of_ble_eq_true rfl) ?_
  show x_A y_Sm_aboveIn 0 [some oSm, some (xI (p : Int)), some (xI (m : Int)), none] [] (S0, G) 0 0 _
  refine x_iload_n d_Sm_aboveIn_0 rfl rfl ?_
  refine x_if_lt (24) d_Sm_aboveIn_1 (by decide) (fun g => ?_) (fun g => ?_)
  · omega
  · refine x_iload_n d_Sm_aboveIn_4 rfl rfl ?_
    refine x_bipush (8) d_Sm_aboveIn_5 rfl ⟨by decide, by decide⟩ ?_
    refine x_icmp_ge (24) d_Sm_aboveIn_7 (by decide) (fun g => ?_) (fun g => ?_)
    · omega
    · refine x_iload_n d_Sm_aboveIn_10 rfl rfl ?_
      refine x_if_lt (24) d_Sm_aboveIn_11 (by decide) (fun g => ?_) (fun g => ?_)
      · omega
      · refine x_iload_n d_Sm_aboveIn_14 rfl rfl ?_
        refine x_bipush (21) d_Sm_aboveIn_15 rfl ⟨by decide, by decide⟩ ?_
        refine x_icmp_ge (24) d_Sm_aboveIn_17 (by decide) (fun g => ?_) (fun g => ?_)
        · omega
        · refine x_iconst (1) d_Sm_aboveIn_20 rfl ⟨by decide, by decide⟩ ?_
          refine x_goto (25) d_Sm_aboveIn_21 (by decide) ?_
          refine x_istore_n d_Sm_aboveIn_25 rfl (by decide) ?_
          dsimp only [x_st1, x_st2, x_kill, List.set, List.getElem?_cons_zero, List.getElem?_cons_succ]
          refine x_iload_n d_Sm_aboveIn_26 rfl rfl ?_
          refine x_if_eq (44) d_Sm_aboveIn_27 (by decide) (fun g => ?_) (fun g => ?_)
          · cases g
          · refine x_aload_n d_Sm_aboveIn_30 rfl rfl ?_
            refine x_getF (kf := 2) d_Sm_aboveIn_31 rfl rfl rfl in_Sm f_Sm_9 ?_
            refine x_iload_n d_Sm_aboveIn_34 rfl rfl ?_
            refine x_bipush (8) d_Sm_aboveIn_35 rfl ⟨by decide, by decide⟩ ?_
            refine x_imulN d_Sm_aboveIn_37 (by omega) (by omega) ?_
            refine x_iload_n d_Sm_aboveIn_38 rfl rfl ?_
            refine x_iaddN d_Sm_aboveIn_39 (by omega) (by omega) ?_
            refine x_ialdN (8 * m + p) d_Sm_aboveIn_40 rfl (by omega) (by omega) ?_
            refine x_goto (45) d_Sm_aboveIn_41 (by decide) ?_
            refine x_ireturn d_Sm_aboveIn_45 rfl ?_ (Nat.zero_le _) (Nat.zero_le _)
            exact ⟨rfl, rfl⟩
theorem c_mixedIn (p m : Nat) (hp : p < 8) (hm : m ≤ 20) : x_M y_Sm_mixedIn [oSm, xI (p : Int), xI (m : Int)] (S0, G) (x_is (.inl (some (xI (G sm_mixed (8 * m + p))))) (S0, G)) := by
  refine x_of 1 rfl (Nat.le_of_ble_eq_true rfl) ?_
  show x_A y_Sm_mixedIn 0 [some oSm, some (xI (p : Int)), some (xI (m : Int)), none] [] (S0, G) 0 0 _
  refine x_iload_n d_Sm_mixedIn_0 rfl rfl ?_
  refine x_if_lt (24) d_Sm_mixedIn_1 (by decide) (fun g => ?_) (fun g => ?_)
  · omega
  · refine x_iload_n d_Sm_mixedIn_4 rfl rfl ?_
    refine x_bipush (8) d_Sm_mixedIn_5 rfl ⟨by decide, by decide⟩ ?_
    refine x_icmp_ge (24) d_Sm_mixedIn_7 (by decide) (fun g => ?_) (fun g => ?_)
    · omega
    · refine x_iload_n d_Sm_mixedIn_10 rfl rfl ?_
      refine x_if_lt (24) d_Sm_mixedIn_11 (by decide) (fun g => ?_) (fun g => ?_)
      · omega
      · refine x_iload_n d_Sm_mixedIn_14 rfl rfl ?_
        refine x_bipush (21) d_Sm_mixedIn_15 rfl ⟨by decide, by decide⟩ ?_
        refine x_icmp_ge (24) d_Sm_mixedIn_17 (by decide) (fun g => ?_) (fun g => ?_)
        · omega
        · refine x_iconst (1) d_Sm_mixedIn_20 rfl ⟨by decide, by decide⟩ ?_
          refine x_goto (25) d_Sm_mixedIn_21 (by decide) ?_
          refine x_istore_n d_Sm_mixedIn_25 rfl (by decide) ?_
          dsimp only [x_st1, x_st2, x_kill, List.set, List.getElem?_cons_zero, List.getElem?_cons_succ]
          refine x_iload_n d_Sm_mixedIn_26 rfl rfl ?_
          refine x_if_eq (44) d_Sm_mixedIn_27 (by decide) (fun g => ?_) (fun g => ?_)
          · cases g
          · refine x_aload_n d_Sm_mixedIn_30 rfl rfl ?_
            refine x_getF (kf := 3) d_Sm_mixedIn_31 rfl rfl rfl in_Sm f_Sm_15 ?_
            refine x_iload_n d_Sm_mixedIn_34 rfl rfl ?_
            refine x_bipush (8) d_Sm_mixedIn_35 rfl ⟨by decide, by decide⟩ ?_
            refine x_imulN d_Sm_mixedIn_37 (by omega) (by omega) ?_
            refine x_iload_n d_Sm_mixedIn_38 rfl rfl ?_
            refine x_iaddN d_Sm_mixedIn_39 (by omega) (by omega) ?_
            refine x_ialdN (8 * m + p) d_Sm_mixedIn_40 rfl (by omega) (by omega) ?_
            refine x_goto (45) d_Sm_mixedIn_41 (by decide) ?_
            refine x_ireturn d_Sm_mixedIn_45 rfl ?_ (Nat.zero_le _) (Nat.zero_le _)
            exact ⟨rfl, rfl⟩
theorem c_isShut (hh : Hwf h) (r : fRep h G) (p m : Nat) (hp : p < 8) (hm : m ≤ 20) : x_M y_Sm_isShut [oSm, xI (p : Int), xI (m : Int)] (S0, G) (x_is (.inl (some (xI (b2i (decide (h.1 9 0 0 < G sm_mixed (8 * m + p))))))) (S0, G)) := by
  have h9 := r.1
  refine x_of 0 rfl (Nat.le_of_ble_eq_true rfl) ?_
  show x_A y_Sm_isShut 0 [some oSm, some (xI (p : Int)), some (xI (m : Int))] [] (S0, G) 0 0 _
  refine x_aload_n d_Sm_isShut_0 rfl rfl ?_
  refine x_iload_n d_Sm_isShut_1 rfl rfl ?_
  refine x_iload_n d_Sm_isShut_2 rfl rfl ?_
  refine x_V1 d_Sm_isShut_3 e_Sm_isShut_Sm_mixedIn ⟨rfl, rfl, Nat.zero_le _, Nat.zero_le _⟩ rfl rfl rfl rfl (Nat.le_of_ble_eq_true rfl) (c_mixedIn p m hp hm) ?_
  refine x_aload_n d_Sm_isShut_6 rfl rfl ?_
  refine x_getF (kf := 0) d_Sm_isShut_7 rfl rfl rfl in_Sm f_Sm_46 ?_
  refine x_getF (kf := 9) d_Sm_isShut_10 rfl rfl rfl in_Ho f_Sm_107 ?_
  refine x_iconst (0) d_Sm_isShut_13 rfl ⟨by decide, by decide⟩ ?_
  refine x_iconst (0) d_Sm_isShut_14 rfl ⟨by decide, by decide⟩ ?_
  refine x_V1 d_Sm_isShut_15 e_Sm_isShut_Ta_at ⟨rfl, rfl, Nat.zero_le _, Nat.zero_le _⟩ rfl rfl rfl rfl (Nat.le_of_ble_eq_true rfl) (k_at hh r 9 0 0 (by decide) (by omega) (by decide) rfl rfl) ?_
  refine x_icmp_le (25) d_Sm_isShut_18 (by decide) (fun g => ?_) (fun g => ?_)
  · refine x_iconst (0) d_Sm_isShut_25 rfl ⟨by decide, by decide⟩ ?_
    refine x_zreturn d_Sm_isShut_26 rfl (by first | exact Or.inl rfl | exact Or.inr rfl | (split <;> first | exact Or.inl rfl | exact Or.inr rfl) | assumption) ?_ (Nat.zero_le _) (Nat.zero_le _)
    rw [decide_eq_false (by omega)]
    exact ⟨rfl, rfl⟩
  · refine x_iconst (1) d_Sm_isShut_21 rfl ⟨by decide, by decide⟩ ?_
    refine x_goto (26) d_Sm_isShut_22 (by decide) ?_
    refine x_zreturn d_Sm_isShut_26 rfl (by first | exact Or.inl rfl | exact Or.inr rfl | (split <;> first | exact Or.inl rfl | exact Or.inr rfl) | assumption) ?_ (Nat.zero_le _) (Nat.zero_le _)
    rw [decide_eq_true (by omega)]
    exact ⟨rfl, rfl⟩
theorem c_isMarked (hh : Hwf h) (r : fRep h G) (p m : Nat) (hp : p < 8) (hm : m ≤ 20) (hA : 0 ≤ G sm_above (8 * m + p) ∧ G sm_above (8 * m + p) ≤ 2000000) (hM : 0 ≤ G sm_mixed (8 * m + p) ∧ G sm_mixed (8 * m + p) ≤ 2000000) : x_M y_Sm_isMarked [oSm, xI (p : Int), xI (m : Int)] (S0, G) (x_is (.inl (some (xI (b2i (decide (h.1 9 0 3 ≤ G sm_above (8 * m + p) + G sm_mixed (8 * m + p))))))) (S0, G)) := by
  have h9 := r.1
  refine x_of 0 rfl (Nat.le_of_ble_eq_true rfl) ?_
  show x_A y_Sm_isMarked 0 [some oSm, some (xI (p : Int)), some (xI (m : Int))] [] (S0, G) 0 0 _
  refine x_aload_n d_Sm_isMarked_0 rfl rfl ?_
  refine x_iload_n d_Sm_isMarked_1 rfl rfl ?_
  refine x_iload_n d_Sm_isMarked_2 rfl rfl ?_
  refine x_V1 d_Sm_isMarked_3 e_Sm_isMarked_Sm_aboveIn ⟨rfl, rfl, Nat.zero_le _, Nat.zero_le _⟩ rfl rfl rfl rfl (Nat.le_of_ble_eq_true rfl) (c_aboveIn p m hp hm) ?_
  refine x_aload_n d_Sm_isMarked_6 rfl rfl ?_
  refine x_iload_n d_Sm_isMarked_7 rfl rfl ?_
  refine x_iload_n d_Sm_isMarked_8 rfl rfl ?_
  refine x_V1 d_Sm_isMarked_9 e_Sm_isMarked_Sm_mixedIn ⟨rfl, rfl, Nat.zero_le _, Nat.zero_le _⟩ rfl rfl rfl rfl (Nat.le_of_ble_eq_true rfl) (c_mixedIn p m hp hm) ?_
  refine x_iaddN d_Sm_isMarked_12 (by omega) (by omega) ?_
  refine x_aload_n d_Sm_isMarked_13 rfl rfl ?_
  refine x_getF (kf := 0) d_Sm_isMarked_14 rfl rfl rfl in_Sm f_Sm_46 ?_
  refine x_getF (kf := 9) d_Sm_isMarked_17 rfl rfl rfl in_Ho f_Sm_107 ?_
  refine x_iconst (0) d_Sm_isMarked_20 rfl ⟨by decide, by decide⟩ ?_
  refine x_iconst (3) d_Sm_isMarked_21 rfl ⟨by decide, by decide⟩ ?_
  refine x_V1 d_Sm_isMarked_22 e_Sm_isMarked_Ta_at ⟨rfl, rfl, Nat.zero_le _, Nat.zero_le _⟩ rfl rfl rfl rfl (Nat.le_of_ble_eq_true rfl) (k_at hh r 9 0 3 (by decide) (by omega) (by decide) rfl rfl) ?_
  refine x_icmp_lt (32) d_Sm_isMarked_25 (by decide) (fun g => ?_) (fun g => ?_)
  · refine x_iconst (0) d_Sm_isMarked_32 rfl ⟨by decide, by decide⟩ ?_
    refine x_zreturn d_Sm_isMarked_33 rfl (by first | exact Or.inl rfl | exact Or.inr rfl | (split <;> first | exact Or.inl rfl | exact Or.inr rfl) | assumption) ?_ (Nat.zero_le _) (Nat.zero_le _)
    rw [decide_eq_false (by omega)]
    exact ⟨rfl, rfl⟩
  · refine x_iconst (1) d_Sm_isMarked_28 rfl ⟨by decide, by decide⟩ ?_
    refine x_goto (33) d_Sm_isMarked_29 (by decide) ?_
    refine x_zreturn d_Sm_isMarked_33 rfl (by first | exact Or.inl rfl | exact Or.inr rfl | (split <;> first | exact Or.inl rfl | exact Or.inr rfl) | assumption) ?_ (Nat.zero_le _) (Nat.zero_le _)
    rw [decide_eq_true (by omega)]
    exact ⟨rfl, rfl⟩
theorem c_lostFrom (f : Nat) (hf : f < 8) : x_M y_Sm_lostFrom [oSm, xI (f : Int)] (S0, G) (x_is (.inl (some (xI (G sm_lost f)))) (S0, G)) := by
  refine x_of 0 rfl (Nat.le_of_ble_eq_true rfl) ?_
  show x_A y_Sm_lostFrom 0 [some oSm, some (xI (f : Int))] [] (S0, G) 0 0 _
  refine x_iload_n d_Sm_lostFrom_0 rfl rfl ?_
  refine x_if_lt (19) d_Sm_lostFrom_1 (by decide) (fun g => ?_) (fun g => ?_)
  · omega
  · refine x_iload_n d_Sm_lostFrom_4 rfl rfl ?_
    refine x_bipush (8) d_Sm_lostFrom_5 rfl ⟨by decide, by decide⟩ ?_
    refine x_icmp_ge (19) d_Sm_lostFrom_7 (by decide) (fun g => ?_) (fun g => ?_)
    · omega
    · refine x_aload_n d_Sm_lostFrom_10 rfl rfl ?_
      refine x_getF (kf := 6) d_Sm_lostFrom_11 rfl rfl rfl in_Sm f_Sm_24 ?_
      refine x_iload_n d_Sm_lostFrom_14 rfl rfl ?_
      refine x_ialdN (f) d_Sm_lostFrom_15 rfl (by omega) (by omega) ?_
      refine x_goto (20) d_Sm_lostFrom_16 (by decide) ?_
      refine x_ireturn d_Sm_lostFrom_20 rfl ?_ (Nat.zero_le _) (Nat.zero_le _)
      exact ⟨rfl, rfl⟩
theorem c_total (hh : Hwf h) (r : fRep h G) (m : Nat) (what : Int) (hm : m ≤ 20) (hw : 0 ≤ what ∧ what ≤ 3) (hA : ∀ p, p < 8 → 0 ≤ G sm_above (8 * m + p) ∧ G sm_above (8 * m + p) ≤ 2000000 ∧ 0 ≤ G sm_mixed (8 * m + p) ∧ G sm_mixed (8 * m + p) ≤ 2000000) :
    x_M y_Sm_total [oSm, xI (m : Int), xI what] (S0, G) (x_is (.inl (some (xI (if what < 3 then G sm_totals (3 * m + what.toNat) else su (fun p => G sm_above (8 * m + p) + G sm_mixed (8 * m + p)) (h.2 0))))) (S0, G)) := by
  have b := hh.1
  refine x_of 2 rfl (Nat.le_of_ble_eq_true rfl) ?_
  show x_A y_Sm_total 0 [some oSm, some (xI (m : Int)), some (xI what), none, none] [] (S0, G) 0 0 _
  refine x_iload_n d_Sm_total_0 rfl rfl ?_
  refine x_if_lt (10) d_Sm_total_1 (by decide) (fun g => ?_) (fun g => ?_)
  · omega
  · refine x_iload_n d_Sm_total_4 rfl rfl ?_
    refine x_bipush (21) d_Sm_total_5 rfl ⟨by decide, by decide⟩ ?_
    refine x_icmp_lt (12) d_Sm_total_7 (by decide) (fun g => ?_) (fun g => ?_)
    · refine x_iload_n d_Sm_total_12 rfl rfl ?_
      refine x_if_lt (32) d_Sm_total_13 (by decide) (fun g => ?_) (fun g => ?_)
      · omega
      · refine x_iload_n d_Sm_total_16 rfl rfl ?_
        refine x_iconst (3) d_Sm_total_17 rfl ⟨by decide, by decide⟩ ?_
        refine x_icmp_ge (32) d_Sm_total_18 (by decide) (fun g1 => ?_) (fun g1 => ?_)
        · rw [if_neg (by omega)]
          refine x_iconst (0) d_Sm_total_32 rfl ⟨by decide, by decide⟩ ?_
          refine x_istore_n d_Sm_total_33 rfl (by decide) ?_
          dsimp only [x_st1, x_st2, x_kill, List.set, List.getElem?_cons_zero, List.getElem?_cons_succ]
          refine x_iconst (0) d_Sm_total_34 rfl ⟨by decide, by decide⟩ ?_
          refine x_istore d_Sm_total_35 (by decide) ?_
          dsimp only [x_st1, x_st2, x_kill, List.set, List.getElem?_cons_zero, List.getElem?_cons_succ]
          refine x_up_to (P := fun i => x_A y_Sm_total 37 [some oSm, some (xI (m : Int)), some (xI what), some (xI (su (fun p => G sm_above (8 * m + p) + G sm_mixed (8 * m + p)) i)), some (xI (i : Int))] [] (S0, G) 0 0 (x_is (.inl (some (xI (su (fun p => G sm_above (8 * m + p) + G sm_mixed (8 * m + p)) (h.2 0))))) (S0, G))) 0 (h.2 0) (Nat.zero_le _) ?_ (fun i _ hi k => ?_)
          · refine x_iload d_Sm_total_37 rfl ?_
            refine x_aload_n d_Sm_total_39 rfl rfl ?_
            refine x_getF (kf := 0) d_Sm_total_40 rfl rfl rfl in_Sm f_Sm_46 ?_
            refine x_getF (kf := 0) d_Sm_total_43 rfl rfl rfl in_Ho f_Sm_113 ?_
            refine x_V1 d_Sm_total_46 e_Sm_total_Ta_size ⟨rfl, rfl, Nat.zero_le _, Nat.zero_le _⟩ rfl rfl rfl rfl (Nat.le_of_ble_eq_true rfl) (k_size r 0 (by decide)) ?_
            refine x_icmp_ge (76) d_Sm_total_49 (by decide) (fun c => ?_) (fun c => ?_)
            · refine x_iload_n d_Sm_total_76 rfl rfl ?_
              refine x_ireturn d_Sm_total_77 rfl ?_ (Nat.zero_le _) (Nat.zero_le _)
              exact ⟨rfl, rfl⟩
            · omega
          · refine x_iload d_Sm_total_37 rfl ?_
            refine x_aload_n d_Sm_total_39 rfl rfl ?_
            refine x_getF (kf := 0) d_Sm_total_40 rfl rfl rfl in_Sm f_Sm_46 ?_
            refine x_getF (kf := 0) d_Sm_total_43 rfl rfl rfl in_Ho f_Sm_113 ?_
            refine x_V1 d_Sm_total_46 e_Sm_total_Ta_size ⟨rfl, rfl, Nat.zero_le _, Nat.zero_le _⟩ rfl rfl rfl rfl (Nat.le_of_ble_eq_true rfl) (k_size r 0 (by decide)) ?_
            refine x_icmp_ge (76) d_Sm_total_49 (by decide) (fun c => ?_) (fun c => ?_)
            · omega
            · have b1 := su_bd (f := fun p => G sm_above (8 * m + p) + G sm_mixed (8 * m + p)) (c := 0) (d := 4000000) (n := i) (fun j hj => by have := hA j (by omega); omega)
              have b2 := hA i (by omega)
              refine x_iload_n d_Sm_total_52 rfl rfl ?_
              refine x_aload_n d_Sm_total_53 rfl rfl ?_
              refine x_iload d_Sm_total_54 rfl ?_
              refine x_iload_n d_Sm_total_56 rfl rfl ?_
              refine x_V1 d_Sm_total_57 e_Sm_total_Sm_aboveIn ⟨rfl, rfl, Nat.zero_le _, Nat.zero_le _⟩ rfl rfl rfl rfl (Nat.le_of_ble_eq_true rfl) (c_aboveIn i m (by omega) hm) ?_
              refine x_aload_n d_Sm_total_60 rfl rfl ?_
              refine x_iload d_Sm_total_61 rfl ?_
              refine x_iload_n d_Sm_total_63 rfl rfl ?_
              refine x_V1 d_Sm_total_64 e_Sm_total_Sm_mixedIn ⟨rfl, rfl, Nat.zero_le _, Nat.zero_le _⟩ rfl rfl rfl rfl (Nat.le_of_ble_eq_true rfl) (c_mixedIn i m (by omega) hm) ?_
              refine x_iaddN d_Sm_total_67 (by omega) (by omega) ?_
              refine x_iaddN d_Sm_total_68 (by omega) (by omega) ?_
              refine x_istore_n d_Sm_total_69 rfl (by decide) ?_
              dsimp only [x_st1, x_st2, x_kill, List.set, List.getElem?_cons_zero, List.getElem?_cons_succ]
              refine x_iincN d_Sm_total_70 rfl (by decide) (by omega) (by omega) ?_
              dsimp only [x_st1, x_st2, x_kill, List.set, List.getElem?_cons_zero, List.getElem?_cons_succ]
              refine x_goto (37) d_Sm_total_73 (by decide) ?_
              exact k
        · rw [if_pos (by omega)]
          refine x_aload_n d_Sm_total_21 rfl rfl ?_
          refine x_getF (kf := 5) d_Sm_total_22 rfl rfl rfl in_Sm f_Sm_21 ?_
          refine x_iload_n d_Sm_total_25 rfl rfl ?_
          refine x_iconst (3) d_Sm_total_26 rfl ⟨by decide, by decide⟩ ?_
          refine x_imulN d_Sm_total_27 (by omega) (by omega) ?_
          refine x_iload_n d_Sm_total_28 rfl rfl ?_
          refine x_iaddN d_Sm_total_29 (by omega) (by omega) ?_
          refine x_ialdN (3 * m + what.toNat) d_Sm_total_30 rfl (by omega) (by omega) ?_
          refine x_ireturn d_Sm_total_31 rfl ?_ (Nat.zero_le _) (Nat.zero_le _)
          exact ⟨rfl, rfl⟩
    · omega
theorem f_ends_c (h : HH) (f : Nat) {p : Nat} (hp : p < 31) : (x_and (x_shr (x_or (x_or (h.1 3 f 3) (x_shl 1 (h.1 1 (h.1 3 f 0).toNat 0))) (x_shl 1 (h.1 1 (h.1 3 f 0).toNat 1))) p) 1 = 1) ↔ x_and (x_shr (f_ends h f) p) 1 = 1 := by
  rw [x_bit _ hp, x_bit _ hp]
  unfold f_ends
  rw [xb_or, xb_or, xb_or, xb_or]
  generalize xb (h.1 3 f 3) p = a
  generalize xb (x_shl 1 (h.1 1 (h.1 3 f 0).toNat 0)) p = b
  generalize xb (x_shl 1 (h.1 1 (h.1 3 f 0).toNat 1)) p = c
  cases a <;> cases b <;> cases c <;> simp
theorem c_isTooMuch (hh : Hwf h) (r : fRep h G) (f m : Nat) (hf : f < h.2 3) (hm : m ≤ 20) : x_M y_Sm_isTooMuch [oSm, xI (f : Int), xI (m : Int)] (S0, G) (x_is (.inl (some (xI (b2i (f_much h (fun p => G sm_above (8 * m + p)) f))))) (S0, G)) := by
  have b := hh.1
  have bf := hh.2.2.2.2.1 f hf
  obtain ⟨w, ew⟩ : ∃ w : Nat, h.1 3 f 0 = (w : Int) := ⟨(h.1 3 f 0).toNat, by omega⟩
  have hw : w < h.2 1 := by omega
  refine x_of 4 rfl (Nat.le_of_ble_eq_true rfl) ?_
  show x_A y_Sm_isTooMuch 0 [some oSm, some (xI (f : Int)), some (xI (m : Int)), none, none, none, none] [] (S0, G) 0 0 _
  refine x_aload_n d_Sm_isTooMuch_0 rfl rfl ?_
  refine x_getF (kf := 0) d_Sm_isTooMuch_1 rfl rfl rfl in_Sm f_Sm_46 ?_
  refine x_getF (kf := 3) d_Sm_isTooMuch_4 rfl rfl rfl in_Ho f_Sm_128 ?_
  refine x_iload_n d_Sm_isTooMuch_7 rfl rfl ?_
  refine x_iconst (0) d_Sm_isTooMuch_8 rfl ⟨by decide, by decide⟩ ?_
  refine x_V1 d_Sm_isTooMuch_9 e_Sm_isTooMuch_Ta_at ⟨rfl, rfl, Nat.zero_le _, Nat.zero_le _⟩ rfl rfl rfl rfl (Nat.le_of_ble_eq_true rfl) (k_at hh r 3 f 0 (by decide) hf (by decide) rfl rfl) ?_
  rw [ew]
  refine x_istore_n d_Sm_isTooMuch_12 rfl (by decide) ?_
  dsimp only [x_st1, x_st2, x_kill, List.set, List.getElem?_cons_zero, List.getElem?_cons_succ]
  refine x_aload_n d_Sm_isTooMuch_13 rfl rfl ?_
  refine x_getF (kf := 0) d_Sm_isTooMuch_14 rfl rfl rfl in_Sm f_Sm_46 ?_
  refine x_getF (kf := 3) d_Sm_isTooMuch_17 rfl rfl rfl in_Ho f_Sm_128 ?_
  refine x_iload_n d_Sm_isTooMuch_20 rfl rfl ?_
  refine x_iconst (3) d_Sm_isTooMuch_21 rfl ⟨by decide, by decide⟩ ?_
  refine x_V1 d_Sm_isTooMuch_22 e_Sm_isTooMuch_Ta_at ⟨rfl, rfl, Nat.zero_le _, Nat.zero_le _⟩ rfl rfl rfl rfl (Nat.le_of_ble_eq_true rfl) (k_at hh r 3 f 3 (by decide) hf (by decide) rfl rfl) ?_
  refine x_iconst (1) d_Sm_isTooMuch_25 rfl ⟨by decide, by decide⟩ ?_
  refine x_aload_n d_Sm_isTooMuch_26 rfl rfl ?_
  refine x_getF (kf := 0) d_Sm_isTooMuch_27 rfl rfl rfl in_Sm f_Sm_46 ?_
  refine x_getF (kf := 1) d_Sm_isTooMuch_30 rfl rfl rfl in_Ho f_Sm_139 ?_
  refine x_iload_n d_Sm_isTooMuch_33 rfl rfl ?_
  refine x_iconst (0) d_Sm_isTooMuch_34 rfl ⟨by decide, by decide⟩ ?_
  refine x_V1 d_Sm_isTooMuch_35 e_Sm_isTooMuch_Ta_at ⟨rfl, rfl, Nat.zero_le _, Nat.zero_le _⟩ rfl rfl rfl rfl (Nat.le_of_ble_eq_true rfl) (k_at hh r 1 w 0 (by decide) hw (by decide) rfl rfl) ?_
  refine x_ishl d_Sm_isTooMuch_38 ?_
  refine x_ior d_Sm_isTooMuch_39 ?_
  refine x_iconst (1) d_Sm_isTooMuch_40 rfl ⟨by decide, by decide⟩ ?_
  refine x_aload_n d_Sm_isTooMuch_41 rfl rfl ?_
  refine x_getF (kf := 0) d_Sm_isTooMuch_42 rfl rfl rfl in_Sm f_Sm_46 ?_
  refine x_getF (kf := 1) d_Sm_isTooMuch_45 rfl rfl rfl in_Ho f_Sm_139 ?_
  refine x_iload_n d_Sm_isTooMuch_48 rfl rfl ?_
  refine x_iconst (1) d_Sm_isTooMuch_49 rfl ⟨by decide, by decide⟩ ?_
  refine x_V1 d_Sm_isTooMuch_50 e_Sm_isTooMuch_Ta_at ⟨rfl, rfl, Nat.zero_le _, Nat.zero_le _⟩ rfl rfl rfl rfl (Nat.le_of_ble_eq_true rfl) (k_at hh r 1 w 1 (by decide) hw (by decide) rfl rfl) ?_
  refine x_ishl d_Sm_isTooMuch_53 ?_
  refine x_ior d_Sm_isTooMuch_54 ?_
  refine x_istore d_Sm_isTooMuch_55 (by decide) ?_
  dsimp only [x_st1, x_st2, x_kill, List.set, List.getElem?_cons_zero, List.getElem?_cons_succ]
  refine x_aload_n d_Sm_isTooMuch_57 rfl rfl ?_
  refine x_getF (kf := 0) d_Sm_isTooMuch_58 rfl rfl rfl in_Sm f_Sm_46 ?_
  refine x_getF (kf := 3) d_Sm_isTooMuch_61 rfl rfl rfl in_Ho f_Sm_128 ?_
  refine x_iload_n d_Sm_isTooMuch_64 rfl rfl ?_
  refine x_iconst (2) d_Sm_isTooMuch_65 rfl ⟨by decide, by decide⟩ ?_
  refine x_V1 d_Sm_isTooMuch_66 e_Sm_isTooMuch_Ta_at ⟨rfl, rfl, Nat.zero_le _, Nat.zero_le _⟩ rfl rfl rfl rfl (Nat.le_of_ble_eq_true rfl) (k_at hh r 3 f 2 (by decide) hf (by decide) rfl rfl) ?_
  refine x_istore d_Sm_isTooMuch_69 (by decide) ?_
  dsimp only [x_st1, x_st2, x_kill, List.set, List.getElem?_cons_zero, List.getElem?_cons_succ]
  refine x_iconst (0) d_Sm_isTooMuch_71 rfl ⟨by decide, by decide⟩ ?_
  refine x_istore d_Sm_isTooMuch_72 (by decide) ?_
  dsimp only [x_st1, x_st2, x_kill, List.set, List.getElem?_cons_zero, List.getElem?_cons_succ]
  have ec := fun (p : Nat) (hp : p < 31) => f_ends_c h f hp
  rw [ew, Int.toNat_natCast] at ec
  generalize hE : x_or (x_or (h.1 3 f 3) (x_shl 1 (h.1 1 w 0))) (x_shl 1 (h.1 1 w 1)) = E at ec ⊢
  generalize hQ : x_is (.inl (some (xI (b2i (f_much h (fun p => G sm_above (8 * m + p)) f))))) (S0, G) = Q
  have key : f_any (f_hit h (fun p => G sm_above (8 * m + p)) f) 0 = false → x_A y_Sm_isTooMuch 74 [some oSm, some (xI (f : Int)), some (xI (m : Int)), some (xI (w : Int)), some (xI E), some (xI (h.1 3 f 2)), some (xI ((0 : Nat) : Int))] [] (S0, G) 0 0 Q := by
    refine x_up_to (P := fun i => f_any (f_hit h (fun p => G sm_above (8 * m + p)) f) i = false → x_A y_Sm_isTooMuch 74 [some oSm, some (xI (f : Int)), some (xI (m : Int)), some (xI (w : Int)), some (xI E), some (xI (h.1 3 f 2)), some (xI (i : Int))] [] (S0, G) 0 0 Q) 0 (h.2 0) (Nat.zero_le _) (fun hz => ?_) (fun i _ hi k hz => ?_)
    · refine x_iload d_Sm_isTooMuch_74 rfl ?_
      refine x_aload_n d_Sm_isTooMuch_76 rfl rfl ?_
      refine x_getF (kf := 0) d_Sm_isTooMuch_77 rfl rfl rfl in_Sm f_Sm_46 ?_
      refine x_getF (kf := 0) d_Sm_isTooMuch_80 rfl rfl rfl in_Ho f_Sm_113 ?_
      refine x_V1 d_Sm_isTooMuch_83 e_Sm_isTooMuch_Ta_size ⟨rfl, rfl, Nat.zero_le _, Nat.zero_le _⟩ rfl rfl rfl rfl (Nat.le_of_ble_eq_true rfl) (k_size r 0 (by decide)) ?_
      refine x_icmp_ge (120) d_Sm_isTooMuch_86 (by decide) (fun c => ?_) (fun c => ?_)
      · refine x_iconst (0) d_Sm_isTooMuch_120 rfl ⟨by decide, by decide⟩ ?_
        refine x_zreturn d_Sm_isTooMuch_121 rfl (by first | exact Or.inl rfl | exact Or.inr rfl | (split <;> first | exact Or.inl rfl | exact Or.inr rfl) | assumption) ?_ (Nat.zero_le _) (Nat.zero_le _)
        rw [← hQ]
        unfold f_much
        rw [hz]
        exact ⟨rfl, rfl⟩
      · omega
    · refine x_iload d_Sm_isTooMuch_74 rfl ?_
      refine x_aload_n d_Sm_isTooMuch_76 rfl rfl ?_
      refine x_getF (kf := 0) d_Sm_isTooMuch_77 rfl rfl rfl in_Sm f_Sm_46 ?_
      refine x_getF (kf := 0) d_Sm_isTooMuch_80 rfl rfl rfl in_Ho f_Sm_113 ?_
      refine x_V1 d_Sm_isTooMuch_83 e_Sm_isTooMuch_Ta_size ⟨rfl, rfl, Nat.zero_le _, Nat.zero_le _⟩ rfl rfl rfl rfl (Nat.le_of_ble_eq_true rfl) (k_size r 0 (by decide)) ?_
      refine x_icmp_ge (120) d_Sm_isTooMuch_86 (by decide) (fun c => ?_) (fun c => ?_)
      · omega
      · have e5 : f_any (f_hit h (fun p => G sm_above (8 * m + p)) f) (i + 1) = (f_any (f_hit h (fun p => G sm_above (8 * m + p)) f) i || f_hit h (fun p => G sm_above (8 * m + p)) f i) := rfl
        refine x_iload d_Sm_isTooMuch_89 rfl ?_
        refine x_iload d_Sm_isTooMuch_91 rfl ?_
        refine x_ishr d_Sm_isTooMuch_93 ?_
        refine x_iconst (1) d_Sm_isTooMuch_94 rfl ⟨by decide, by decide⟩ ?_
        refine x_iand d_Sm_isTooMuch_95 ?_
        refine x_iconst (1) d_Sm_isTooMuch_96 rfl ⟨by decide, by decide⟩ ?_
        refine x_icmp_ne (114) d_Sm_isTooMuch_97 (by decide) (fun g1 => ?_) (fun g1 => ?_)
        · rw [hz, show f_hit h (fun p => G sm_above (8 * m + p)) f i = false from by unfold f_hit; rw [decide_eq_false (fun z => g1 ((ec i (by omega)).mpr z))]; rfl] at e5
          refine x_iincN d_Sm_isTooMuch_114 rfl (by decide) (by omega) (by omega) ?_
          dsimp only [x_st1, x_st2, x_kill, List.set, List.getElem?_cons_zero, List.getElem?_cons_succ]
          refine x_goto (74) d_Sm_isTooMuch_117 (by decide) ?_
          exact k e5
        · refine x_aload_n d_Sm_isTooMuch_100 rfl rfl ?_
          refine x_iload d_Sm_isTooMuch_101 rfl ?_
          refine x_iload_n d_Sm_isTooMuch_103 rfl rfl ?_
          refine x_V1 d_Sm_isTooMuch_104 e_Sm_isTooMuch_Sm_aboveIn ⟨rfl, rfl, Nat.zero_le _, Nat.zero_le _⟩ rfl rfl rfl rfl (Nat.le_of_ble_eq_true rfl) (c_aboveIn i m (by omega) hm) ?_
          refine x_iload d_Sm_isTooMuch_107 rfl ?_
          refine x_icmp_lt (114) d_Sm_isTooMuch_109 (by decide) (fun g2 => ?_) (fun g2 => ?_)
          · rw [hz, show f_hit h (fun p => G sm_above (8 * m + p)) f i = false from by unfold f_hit; rw [Bool.and_eq_false_iff]; right; exact decide_eq_false (show ¬ h.1 3 f 2 ≤ G sm_above (8 * m + i) by omega)] at e5
            refine x_iincN d_Sm_isTooMuch_114 rfl (by decide) (by omega) (by omega) ?_
            dsimp only [x_st1, x_st2, x_kill, List.set, List.getElem?_cons_zero, List.getElem?_cons_succ]
            refine x_goto (74) d_Sm_isTooMuch_117 (by decide) ?_
            exact k e5
          · refine x_iconst (1) d_Sm_isTooMuch_112 rfl ⟨by decide, by decide⟩ ?_
            refine x_zreturn d_Sm_isTooMuch_113 rfl (by first | exact Or.inl rfl | exact Or.inr rfl | (split <;> first | exact Or.inl rfl | exact Or.inr rfl) | assumption) ?_ (Nat.zero_le _) (Nat.zero_le _)
            rw [← hQ]
            have : f_much h (fun p => G sm_above (8 * m + p)) f = true := by
              unfold f_much
              have e6 : f_hit h (fun p => G sm_above (8 * m + p)) f i = true := by
                unfold f_hit
                rw [decide_eq_true ((ec i (by omega)).mp (by omega)), decide_eq_true (show h.1 3 f 2 ≤ G sm_above (8 * m + i) by omega)]
                rfl
              have : ∀ n, i < n → f_any (f_hit h (fun p => G sm_above (8 * m + p)) f) n = true := by
                intro n hn
                induction n with
                | zero => omega
                | succ n ih =>
                  show (f_any _ n || f_hit h _ f n) = true
                  by_cases e7 : i = n
                  · subst e7; rw [e6]; simp
                  · rw [ih (by omega)]; rfl
              exact this _ hi
            rw [this]
            exact ⟨rfl, rfl⟩
  exact key rfl
/-- the fans that are lost in minute m, of the first i -/
def lsG (h : HH) (G : Nat → Nat → Int) (m i : Nat) : Nat → Nat → Int := fun a b => if a = sm_lost ∧ 0 < m ∧ b < i ∧ G sm_lost b = -1 ∧ f_much h (fun p => G sm_above (8 * (m - 1) + p)) b = true then (m : Int) else G a b
theorem lsG_o {m i a : Nat} (ha : a ≠ sm_lost) : lsG h G m i a = G a := by
  funext b
  unfold lsG
  rw [if_neg (fun z => ha z.1)]
theorem lsG_s (m i : Nat) (hm : 0 < m) : lsG h G m (i + 1) = if G sm_lost i = -1 ∧ f_much h (fun p => G sm_above (8 * (m - 1) + p)) i = true then up (lsG h G m i) sm_lost i m else lsG h G m i := by
  by_cases hc : G sm_lost i = -1 ∧ f_much h (fun p => G sm_above (8 * (m - 1) + p)) i = true
  · rw [if_pos hc]
    funext a b
    unfold up lsG
    by_cases h1 : a = sm_lost
    · subst h1
      by_cases h3 : b = i
      · subst h3
        rw [if_pos ⟨rfl, hm, Nat.lt_succ_self _, hc.1, hc.2⟩, if_pos ⟨rfl, rfl⟩]
      · rw [if_neg (show ¬ (sm_lost = sm_lost ∧ b = i) from fun z => h3 z.2)]
        by_cases h4 : b < i
        · simp only [h4, show b < i + 1 by omega]
        · simp only [h4, show ¬ b < i + 1 by omega]
    · rw [if_neg (fun z => h1 z.1), if_neg (fun z => h1 z.1), if_neg (fun z => h1 z.1)]
  · rw [if_neg hc]
    funext a b
    unfold lsG
    by_cases h3 : b = i
    · subst h3
      rw [if_neg (fun z => hc ⟨z.2.2.2.1, z.2.2.2.2⟩), if_neg (fun z => hc ⟨z.2.2.2.1, z.2.2.2.2⟩)]
    · by_cases h4 : b < i
      · simp only [h4, show b < i + 1 by omega]
      · simp only [h4, show ¬ b < i + 1 by omega]
theorem c_loseFans (hh : Hwf h) (r : fRep h G) (m : Nat) (hm : m ≤ 20) : x_M y_Sm_loseFans [oSm, xI (m : Int)] (S0, G) (x_is (.inl none) (S0, lsG h G m (h.2 3))) := by
  have b := hh.1
  refine x_of 1 rfl (Nat.le_of_ble_eq_true rfl) ?_
  show x_A y_Sm_loseFans 0 [some oSm, some (xI (m : Int)), none] [] (S0, G) 0 0 _
  generalize hQ : x_is (.inl none) (S0, lsG h G m (h.2 3)) = Q
  refine x_iconst (0) d_Sm_loseFans_0 rfl ⟨by decide, by decide⟩ ?_
  refine x_istore_n d_Sm_loseFans_1 rfl (by decide) ?_
  dsimp only [x_st1, x_st2, x_kill, List.set, List.getElem?_cons_zero, List.getElem?_cons_succ]
  by_cases hm0 : m = 0
  · subst hm0
    refine x_iload_n d_Sm_loseFans_2 rfl rfl ?_
    refine x_if_le (54) d_Sm_loseFans_3 (by decide) (fun g => ?_) (fun g => ?_)
    · refine x_return d_Sm_loseFans_54 rfl ?_ (Nat.zero_le _) (Nat.zero_le _)
      rw [← hQ]
      refine ⟨rfl, ?_⟩
      congr 1
      funext a b
      unfold lsG
      rw [if_neg (fun z => absurd z.2.1 (by omega))]
    · omega
  · have key : x_A y_Sm_loseFans 2 [some oSm, some (xI (m : Int)), some (xI ((0 : Nat) : Int))] [] (S0, lsG h G m 0) 0 0 Q := by
      refine x_up_to (P := fun i => x_A y_Sm_loseFans 2 [some oSm, some (xI (m : Int)), some (xI (i : Int))] [] (S0, lsG h G m i) 0 0 Q) 0 (h.2 3) (Nat.zero_le _) ?_ (fun i _ hi k => ?_)
      · have r2 : fRep h (lsG h G m (h.2 3)) := r.same (fun i h1 h2 => lsG_o (fun z => by simp only [sm_lost] at z; omega))
        refine x_iload_n d_Sm_loseFans_2 rfl rfl ?_
        refine x_if_le (54) d_Sm_loseFans_3 (by decide) (fun g => ?_) (fun g => ?_)
        · omega
        · refine x_iload_n d_Sm_loseFans_6 rfl rfl ?_
          refine x_aload_n d_Sm_loseFans_7 rfl rfl ?_
          refine x_getF (kf := 0) d_Sm_loseFans_8 rfl rfl rfl in_Sm f_Sm_46 ?_
          refine x_getF (kf := 3) d_Sm_loseFans_11 rfl rfl rfl in_Ho f_Sm_128 ?_
          refine x_V1 d_Sm_loseFans_14 e_Sm_loseFans_Ta_size ⟨rfl, rfl, Nat.zero_le _, Nat.zero_le _⟩ rfl rfl rfl rfl (Nat.le_of_ble_eq_true rfl) (k_size r2 3 (by decide)) ?_
          refine x_icmp_ge (54) d_Sm_loseFans_17 (by decide) (fun g => ?_) (fun g => ?_)
          · refine x_return d_Sm_loseFans_54 rfl ?_ (Nat.zero_le _) (Nat.zero_le _)
            rw [← hQ]
            exact ⟨rfl, rfl⟩
          · omega
      · have r2 : fRep h (lsG h G m i) := r.same (fun i h1 h2 => lsG_o (fun z => by simp only [sm_lost] at z; omega))
        have ea : lsG h G m i sm_above = G sm_above := lsG_o (by decide)
        have el : lsG h G m i sm_lost i = G sm_lost i := by unfold lsG; rw [if_neg (fun z => absurd z.2.2.1 (by omega))]
        rw [lsG_s m i (by omega)] at k
        revert k ea el r2
        generalize lsG h G m i = G1
        intro k r2 ea el
        refine x_iload_n d_Sm_loseFans_2 rfl rfl ?_
        refine x_if_le (54) d_Sm_loseFans_3 (by decide) (fun g => ?_) (fun g => ?_)
        · omega
        · refine x_iload_n d_Sm_loseFans_6 rfl rfl ?_
          refine x_aload_n d_Sm_loseFans_7 rfl rfl ?_
          refine x_getF (kf := 0) d_Sm_loseFans_8 rfl rfl rfl in_Sm f_Sm_46 ?_
          refine x_getF (kf := 3) d_Sm_loseFans_11 rfl rfl rfl in_Ho f_Sm_128 ?_
          refine x_V1 d_Sm_loseFans_14 e_Sm_loseFans_Ta_size ⟨rfl, rfl, Nat.zero_le _, Nat.zero_le _⟩ rfl rfl rfl rfl (Nat.le_of_ble_eq_true rfl) (k_size r2 3 (by decide)) ?_
          refine x_icmp_ge (54) d_Sm_loseFans_17 (by decide) (fun g => ?_) (fun g => ?_)
          · omega
          · refine x_aload_n d_Sm_loseFans_20 rfl rfl ?_
            refine x_getF (kf := 6) d_Sm_loseFans_21 rfl rfl rfl in_Sm f_Sm_24 ?_
            refine x_iload_n d_Sm_loseFans_24 rfl rfl ?_
            refine x_ialdN (i) d_Sm_loseFans_25 rfl (by omega) (by omega) ?_
            rw [el]
            refine x_iconst (-1) d_Sm_loseFans_26 rfl ⟨by decide, by decide⟩ ?_
            refine x_icmp_ne (48) d_Sm_loseFans_27 (by decide) (fun g2 => ?_) (fun g2 => ?_)
            · rw [if_neg (fun z => g2 z.1)] at k
              refine x_iincN d_Sm_loseFans_48 rfl (by decide) (by omega) (by omega) ?_
              dsimp only [x_st1, x_st2, x_kill, List.set, List.getElem?_cons_zero, List.getElem?_cons_succ]
              refine x_goto (2) d_Sm_loseFans_51 (by decide) ?_
              exact k
            · refine x_aload_n d_Sm_loseFans_30 rfl rfl ?_
              refine x_iload_n d_Sm_loseFans_31 rfl rfl ?_
              refine x_iload_n d_Sm_loseFans_32 rfl rfl ?_
              refine x_iconst (1) d_Sm_loseFans_33 rfl ⟨by decide, by decide⟩ ?_
              refine x_isubN d_Sm_loseFans_34 (by omega) (by omega) ?_
              rw [show (m : Int) - 1 = ((m - 1 : Nat) : Int) by omega]
              refine x_V1 d_Sm_loseFans_35 e_Sm_loseFans_Sm_isTooMuch ⟨rfl, rfl, Nat.zero_le _, Nat.zero_le _⟩ rfl rfl rfl rfl (Nat.le_of_ble_eq_true rfl) (c_isTooMuch hh r2 i (m - 1) hi (by omega)) ?_
              rw [ea]
              refine x_if_eq (48) d_Sm_loseFans_38 (by decide) (fun g3 => ?_) (fun g3 => ?_)
              · rw [if_neg (fun z => by rw [z.2] at g3; cases g3)] at k
                refine x_iincN d_Sm_loseFans_48 rfl (by decide) (by omega) (by omega) ?_
                dsimp only [x_st1, x_st2, x_kill, List.set, List.getElem?_cons_zero, List.getElem?_cons_succ]
                refine x_goto (2) d_Sm_loseFans_51 (by decide) ?_
                exact k
              · rw [if_pos ⟨by omega, b2i_t.mp g3⟩] at k
                refine x_aload_n d_Sm_loseFans_41 rfl rfl ?_
                refine x_getF (kf := 6) d_Sm_loseFans_42 rfl rfl rfl in_Sm f_Sm_24 ?_
                refine x_iload_n d_Sm_loseFans_45 rfl rfl ?_
                refine x_iload_n d_Sm_loseFans_46 rfl rfl ?_
                refine x_iastN (i) d_Sm_loseFans_47 rfl (by omega) (by omega) ?_
                refine x_iincN d_Sm_loseFans_48 rfl (by decide) (by omega) (by omega) ?_
                dsimp only [x_st1, x_st2, x_kill, List.set, List.getElem?_cons_zero, List.getElem?_cons_succ]
                refine x_goto (2) d_Sm_loseFans_51 (by decide) ?_
                exact k
    rw [show lsG h G m 0 = G from by funext a b; unfold lsG; rw [if_neg (fun z => absurd z.2.2.1 (by omega))]] at key
    exact key
end CS
