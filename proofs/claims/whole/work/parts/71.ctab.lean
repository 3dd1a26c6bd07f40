/-! the class: Table -/
def isTab (t q L : Nat) : Prop := S0[t]? = some (.inl (8, [some (xI (L : Int)), some (xR (some q)), none])) ∧ S0[q]? = some (.inr (0, 6 * L)) ∧ L ≤ 60 ∧ t ≠ q
def lim : Nat → Nat
  | 0 => 8
  | 1 => 12
  | 2 => 4
  | 3 => 8
  | 4 => 60
  | 5 => 10
  | 6 => 6
  | 7 => 10
  | 8 => 40
  | _ => 1
theorem isTab_of {T : Nat} (hT : T < 10) : isTab (6 + 2 * T) (7 + 2 * T) (lim T) := by
  match T, hT with
  | 0, _ => exact ⟨rfl, rfl, by decide, by decide⟩
  | 1, _ => exact ⟨rfl, rfl, by decide, by decide⟩
  | 2, _ => exact ⟨rfl, rfl, by decide, by decide⟩
  | 3, _ => exact ⟨rfl, rfl, by decide, by decide⟩
  | 4, _ => exact ⟨rfl, rfl, by decide, by decide⟩
  | 5, _ => exact ⟨rfl, rfl, by decide, by decide⟩
  | 6, _ => exact ⟨rfl, rfl, by decide, by decide⟩
  | 7, _ => exact ⟨rfl, rfl, by decide, by decide⟩
  | 8, _ => exact ⟨rfl, rfl, by decide, by decide⟩
  | 9, _ => exact ⟨rfl, rfl, by decide, by decide⟩
section CT
variable {t q L : Nat} {G : Nat → Nat → Int}
theorem c_size (ht : isTab t q L) : x_M y_Ta_size [xR (some t)] (S0, G) (x_is (.inl (some (xI (G t 2)))) (S0, G)) := by
  obtain ⟨h1, h2, h3, h4⟩ := ht
  refine x_of 0 rfl (Nat.le_of_ble_eq_true rfl) ?_
  show x_A y_Ta_size 0 [some (xR (some t))] [] (S0, G) 0 0 _
  refine x_aload_n d_Ta_size_0 rfl rfl ?_
  refine x_getIG (kf := 2) d_Ta_size_1 h1 rfl rfl in_Ta f_Ta_23 ?_
  refine x_ireturn d_Ta_size_4 rfl ?_ (Nat.zero_le _) (Nat.zero_le _)
  exact ⟨rfl, rfl⟩
theorem c_isFull (ht : isTab t q L) : x_M y_Ta_isFull [xR (some t)] (S0, G) (x_is (.inl (some (xI (b2i (decide ((L : Int) ≤ G t 2)))))) (S0, G)) := by
  obtain ⟨h1, h2, h3, h4⟩ := ht
  refine x_of 0 rfl (Nat.le_of_ble_eq_true rfl) ?_
  show x_A y_Ta_isFull 0 [some (xR (some t))] [] (S0, G) 0 0 _
  refine x_aload_n d_Ta_isFull_0 rfl rfl ?_
  refine x_getIG (kf := 2) d_Ta_isFull_1 h1 rfl rfl in_Ta f_Ta_23 ?_
  refine x_aload_n d_Ta_isFull_4 rfl rfl ?_
  refine x_getF (kf := 0) d_Ta_isFull_5 h1 rfl rfl in_Ta f_Ta_13 ?_
  refine x_icmp_lt (15) d_Ta_isFull_8 (by decide) (fun g => ?_) (fun g => ?_)
  · refine x_iconst (0) d_Ta_isFull_15 rfl ⟨by decide, by decide⟩ ?_
    refine x_zreturn d_Ta_isFull_16 rfl (by first | exact Or.inl rfl | exact Or.inr rfl | (split <;> first | exact Or.inl rfl | exact Or.inr rfl) | assumption) ?_ (Nat.zero_le _) (Nat.zero_le _)
    rw [decide_eq_false (by omega)]
    exact ⟨rfl, rfl⟩
  · refine x_iconst (1) d_Ta_isFull_11 rfl ⟨by decide, by decide⟩ ?_
    refine x_goto (16) d_Ta_isFull_12 (by decide) ?_
    refine x_zreturn d_Ta_isFull_16 rfl (by first | exact Or.inl rfl | exact Or.inr rfl | (split <;> first | exact Or.inl rfl | exact Or.inr rfl) | assumption) ?_ (Nat.zero_le _) (Nat.zero_le _)
    rw [decide_eq_true (by omega)]
    exact ⟨rfl, rfl⟩
theorem c_has (ht : isTab t q L) (r : Int) : x_M y_Ta_has [xR (some t), xI r] (S0, G) (x_is (.inl (some (xI (b2i (decide (0 ≤ r ∧ r < G t 2)))))) (S0, G)) := by
  obtain ⟨h1, h2, h3, h4⟩ := ht
  refine x_of 0 rfl (Nat.le_of_ble_eq_true rfl) ?_
  show x_A y_Ta_has 0 [some (xR (some t)), some (xI r)] [] (S0, G) 0 0 _
  refine x_iload_n d_Ta_has_0 rfl rfl ?_
  refine x_if_lt (16) d_Ta_has_1 (by decide) (fun g => ?_) (fun g => ?_)
  · refine x_iconst (0) d_Ta_has_16 rfl ⟨by decide, by decide⟩ ?_
    refine x_zreturn d_Ta_has_17 rfl (by first | exact Or.inl rfl | exact Or.inr rfl | (split <;> first | exact Or.inl rfl | exact Or.inr rfl) | assumption) ?_ (Nat.zero_le _) (Nat.zero_le _)
    rw [decide_eq_false (by omega)]
    exact ⟨rfl, rfl⟩
  · refine x_iload_n d_Ta_has_4 rfl rfl ?_
    refine x_aload_n d_Ta_has_5 rfl rfl ?_
    refine x_getIG (kf := 2) d_Ta_has_6 h1 rfl rfl in_Ta f_Ta_23 ?_
    refine x_icmp_ge (16) d_Ta_has_9 (by decide) (fun g2 => ?_) (fun g2 => ?_)
    · refine x_iconst (0) d_Ta_has_16 rfl ⟨by decide, by decide⟩ ?_
      refine x_zreturn d_Ta_has_17 rfl (by first | exact Or.inl rfl | exact Or.inr rfl | (split <;> first | exact Or.inl rfl | exact Or.inr rfl) | assumption) ?_ (Nat.zero_le _) (Nat.zero_le _)
      rw [decide_eq_false (by omega)]
      exact ⟨rfl, rfl⟩
    · refine x_iconst (1) d_Ta_has_12 rfl ⟨by decide, by decide⟩ ?_
      refine x_goto (17) d_Ta_has_13 (by decide) ?_
      refine x_zreturn d_Ta_has_17 rfl (by first | exact Or.inl rfl | exact Or.inr rfl | (split <;> first | exact Or.inl rfl | exact Or.inr rfl) | assumption) ?_ (Nat.zero_le _) (Nat.zero_le _)
      rw [decide_eq_true (by omega)]
      exact ⟨rfl, rfl⟩
theorem c_at (ht : isTab t q L) (r c : Int) : x_M y_Ta_at [xR (some t), xI r, xI c] (S0, G) (x_is (.inl (some (xI (if 0 ≤ r ∧ r < L ∧ 0 ≤ c ∧ c < 6 then G q (r * 6 + c).toNat else 0)))) (S0, G)) := by
  obtain ⟨h1, h2, h3, h4⟩ := ht
  refine x_of 0 rfl (Nat.le_of_ble_eq_true rfl) ?_
  show x_A y_Ta_at 0 [some (xR (some t)), some (xI r), some (xI c)] [] (S0, G) 0 0 _
  refine x_iload_n d_Ta_at_0 rfl rfl ?_
  refine x_if_lt (22) d_Ta_at_1 (by decide) (fun g1 => ?_) (fun g1 => ?_)
  · refine x_iconst (0) d_Ta_at_22 rfl ⟨by decide, by decide⟩ ?_
    refine x_ireturn d_Ta_at_23 rfl ?_ (Nat.zero_le _) (Nat.zero_le _)
    rw [if_neg (by omega)]
    exact ⟨rfl, rfl⟩
  · refine x_iload_n d_Ta_at_4 rfl rfl ?_
    refine x_aload_n d_Ta_at_5 rfl rfl ?_
    refine x_getF (kf := 0) d_Ta_at_6 h1 rfl rfl in_Ta f_Ta_13 ?_
    refine x_icmp_ge (22) d_Ta_at_9 (by decide) (fun g2 => ?_) (fun g2 => ?_)
    · refine x_iconst (0) d_Ta_at_22 rfl ⟨by decide, by decide⟩ ?_
      refine x_ireturn d_Ta_at_23 rfl ?_ (Nat.zero_le _) (Nat.zero_le _)
      rw [if_neg (by omega)]
      exact ⟨rfl, rfl⟩
    · refine x_iload_n d_Ta_at_12 rfl rfl ?_
      refine x_if_lt (22) d_Ta_at_13 (by decide) (fun g3 => ?_) (fun g3 => ?_)
      · refine x_iconst (0) d_Ta_at_22 rfl ⟨by decide, by decide⟩ ?_
        refine x_ireturn d_Ta_at_23 rfl ?_ (Nat.zero_le _) (Nat.zero_le _)
        rw [if_neg (by omega)]
        exact ⟨rfl, rfl⟩
      · refine x_iload_n d_Ta_at_16 rfl rfl ?_
        refine x_bipush (6) d_Ta_at_17 rfl ⟨by decide, by decide⟩ ?_
        refine x_icmp_lt (24) d_Ta_at_19 (by decide) (fun g4 => ?_) (fun g4 => ?_)
        · refine x_aload_n d_Ta_at_24 rfl rfl ?_
          refine x_getF (kf := 1) d_Ta_at_25 h1 rfl rfl in_Ta f_Ta_19 ?_
          refine x_iload_n d_Ta_at_28 rfl rfl ?_
          refine x_bipush (6) d_Ta_at_29 rfl ⟨by decide, by decide⟩ ?_
          refine x_imulN d_Ta_at_31 (by omega) (by omega) ?_
          refine x_iload_n d_Ta_at_32 rfl rfl ?_
          refine x_iaddN d_Ta_at_33 (by omega) (by omega) ?_
          refine x_iaload d_Ta_at_34 h2 (by omega) (by omega) ?_
          refine x_ireturn d_Ta_at_35 rfl ?_ (Nat.zero_le _) (Nat.zero_le _)
          rw [if_pos (by omega)]
          exact ⟨rfl, rfl⟩
        · refine x_iconst (0) d_Ta_at_22 rfl ⟨by decide, by decide⟩ ?_
          refine x_ireturn d_Ta_at_23 rfl ?_ (Nat.zero_le _) (Nat.zero_le _)
          rw [if_neg (by omega)]
          exact ⟨rfl, rfl⟩
theorem c_put (ht : isTab t q L) (r c v : Int) : x_M y_Ta_put [xR (some t), xI r, xI c, xI v] (S0, G) (x_is (.inl none) (S0, if 0 ≤ r ∧ r < L ∧ 0 ≤ c ∧ c < 6 then up G q (r * 6 + c).toNat v else G)) := by
  obtain ⟨h1, h2, h3, h4⟩ := ht
  refine x_of 0 rfl (Nat.le_of_ble_eq_true rfl) ?_
  show x_A y_Ta_put 0 [some (xR (some t)), some (xI r), some (xI c), some (xI v)] [] (S0, G) 0 0 _
  refine x_iload_n d_Ta_put_0 rfl rfl ?_
  refine x_if_lt (34) d_Ta_put_1 (by decide) (fun g1 => ?_) (fun g1 => ?_)
  · refine x_return d_Ta_put_34 rfl ?_ (Nat.zero_le _) (Nat.zero_le _)
    rw [if_neg (by omega)]
    exact ⟨rfl, rfl⟩
  · refine x_iload_n d_Ta_put_4 rfl rfl ?_
    refine x_aload_n d_Ta_put_5 rfl rfl ?_
    refine x_getF (kf := 0) d_Ta_put_6 h1 rfl rfl in_Ta f_Ta_13 ?_
    refine x_icmp_ge (34) d_Ta_put_9 (by decide) (fun g2 => ?_) (fun g2 => ?_)
    · refine x_return d_Ta_put_34 rfl ?_ (Nat.zero_le _) (Nat.zero_le _)
      rw [if_neg (by omega)]
      exact ⟨rfl, rfl⟩
    · refine x_iload_n d_Ta_put_12 rfl rfl ?_
      refine x_if_lt (34) d_Ta_put_13 (by decide) (fun g3 => ?_) (fun g3 => ?_)
      · refine x_return d_Ta_put_34 rfl ?_ (Nat.zero_le _) (Nat.zero_le _)
        rw [if_neg (by omega)]
        exact ⟨rfl, rfl⟩
      · refine x_iload_n d_Ta_put_16 rfl rfl ?_
        refine x_bipush (6) d_Ta_put_17 rfl ⟨by decide, by decide⟩ ?_
        refine x_icmp_ge (34) d_Ta_put_19 (by decide) (fun g4 => ?_) (fun g4 => ?_)
        · refine x_return d_Ta_put_34 rfl ?_ (Nat.zero_le _) (Nat.zero_le _)
          rw [if_neg (by omega)]
          exact ⟨rfl, rfl⟩
        · refine x_aload_n d_Ta_put_22 rfl rfl ?_
          refine x_getF (kf := 1) d_Ta_put_23 h1 rfl rfl in_Ta f_Ta_19 ?_
          refine x_iload_n d_Ta_put_26 rfl rfl ?_
          refine x_bipush (6) d_Ta_put_27 rfl ⟨by decide, by decide⟩ ?_
          refine x_imulN d_Ta_put_29 (by omega) (by omega) ?_
          refine x_iload_n d_Ta_put_30 rfl rfl ?_
          refine x_iaddN d_Ta_put_31 (by omega) (by omega) ?_
          refine x_iload_n d_Ta_put_32 rfl rfl ?_
          refine x_iastore d_Ta_put_33 h2 (by omega) (by omega) ?_
          refine x_return d_Ta_put_34 rfl ?_ (Nat.zero_le _) (Nat.zero_le _)
          rw [if_pos (by omega)]
          exact ⟨rfl, rfl⟩
/-- a row of six written -/
def v6 (a b c d e f : Int) : Nat → Int
  | 0 => a
  | 1 => b
  | 2 => c
  | 3 => d
  | 4 => e
  | _ => f
def putRow (G : Nat → Nat → Int) (q s : Nat) (v : Nat → Int) : Nat → Nat → Int := fun i j => if i = q ∧ 6 * s ≤ j ∧ j < 6 * s + 6 then v (j - 6 * s) else G i j
theorem putRow_o {G : Nat → Nat → Int} {q s i : Nat} {v : Nat → Int} (h : i ≠ q) : putRow G q s v i = G i := by
  funext j
  unfold putRow
  rw [if_neg (by omega)]
theorem up6 (G : Nat → Nat → Int) (q s : Nat) (a b c d e f : Int) : up (up (up (up (up (up G q (6 * s) a) q (6 * s + 1) b) q (6 * s + 2) c) q (6 * s + 3) d) q (6 * s + 4) e) q (6 * s + 5) f = putRow G q s (v6 a b c d e f) := by
  funext i j
  unfold putRow up
  by_cases hi : i = q
  · subst hi
    by_cases h : 6 * s ≤ j ∧ j < 6 * s + 6
    · rw [if_pos (show i = i ∧ 6 * s ≤ j ∧ j < 6 * s + 6 from ⟨rfl, h⟩)]
      rcases (by omega : j = 6 * s ∨ j = 6 * s + 1 ∨ j = 6 * s + 2 ∨ j = 6 * s + 3 ∨ j = 6 * s + 4 ∨ j = 6 * s + 5) with e | e | e | e | e | e <;> subst e <;> simp [v6]
    · rw [if_neg (by omega), if_neg (by omega), if_neg (by omega), if_neg (by omega), if_neg (by omega), if_neg (by omega), if_neg (by omega)]
  · rw [if_neg (by omega), if_neg (by omega), if_neg (by omega), if_neg (by omega), if_neg (by omega), if_neg (by omega), if_neg (by omega)]
theorem c_put' (ht : isTab t q L) {s : Nat} (hs : s < L) {k : Nat} (hk : k < 6) {r c : Int} (hr : r = s) (hc : c = k) (v : Int) : x_M y_Ta_put [xR (some t), xI r, xI c, xI v] (S0, G) (x_is (.inl none) (S0, up G q (6 * s + k) v)) := by
  subst hr hc
  have := c_put (G := G) ht (s : Int) (k : Int) v
  rw [if_pos (by omega), show ((s : Int) * 6 + (k : Int)).toNat = 6 * s + k by omega] at this
  exact this
theorem c_draft (ht : isTab t q L) {s : Nat} (hs : s < L) (hG : G t 2 = s) (a b c d e f : Int) : x_M y_Ta_draft [xR (some t), xI a, xI b, xI c, xI d, xI e, xI f] (S0, G) (x_is (.inl none) (S0, putRow G q s (v6 a b c d e f))) := by
  have ht' := ht
  obtain ⟨h1, h2, h3, h4⟩ := ht
  refine x_of 0 rfl (Nat.le_of_ble_eq_true rfl) ?_
  show x_A y_Ta_draft 0 [some (xR (some t)), some (xI a), some (xI b), some (xI c), some (xI d), some (xI e), some (xI f)] [] (S0, G) 0 0 _
  refine x_aload_n d_Ta_draft_0 rfl rfl ?_
  refine x_aload_n d_Ta_draft_1 rfl rfl ?_
  refine x_getIG (kf := 2) d_Ta_draft_2 h1 rfl rfl in_Ta f_Ta_23 ?_
  refine x_iconst (0) d_Ta_draft_5 rfl ⟨by decide, by decide⟩ ?_
  refine x_iload_n d_Ta_draft_6 rfl rfl ?_
  refine x_V0 d_Ta_draft_7 e_Ta_draft_Ta_put ⟨rfl, rfl, Nat.zero_le _, Nat.zero_le _⟩ h1 rfl rfl rfl (Nat.le_of_ble_eq_true rfl) (c_put' ht' hs (k := 0) (by omega) hG rfl a) ?_
  refine x_aload_n d_Ta_draft_10 rfl rfl ?_
  refine x_aload_n d_Ta_draft_11 rfl rfl ?_
  refine x_getIG (kf := 2) d_Ta_draft_12 h1 rfl rfl in_Ta f_Ta_23 ?_
  refine x_iconst (1) d_Ta_draft_15 rfl ⟨by decide, by decide⟩ ?_
  refine x_iload_n d_Ta_draft_16 rfl rfl ?_
  refine x_V0 d_Ta_draft_17 e_Ta_draft_Ta_put ⟨rfl, rfl, Nat.zero_le _, Nat.zero_le _⟩ h1 rfl rfl rfl (Nat.le_of_ble_eq_true rfl) (c_put' ht' hs (k := 1) (by omega) (by rw [up_cell h4]; exact hG) rfl b) ?_
  refine x_aload_n d_Ta_draft_20 rfl rfl ?_
  refine x_aload_n d_Ta_draft_21 rfl rfl ?_
  refine x_getIG (kf := 2) d_Ta_draft_22 h1 rfl rfl in_Ta f_Ta_23 ?_
  refine x_iconst (2) d_Ta_draft_25 rfl ⟨by decide, by decide⟩ ?_
  refine x_iload_n d_Ta_draft_26 rfl rfl ?_
  refine x_V0 d_Ta_draft_27 e_Ta_draft_Ta_put ⟨rfl, rfl, Nat.zero_le _, Nat.zero_le _⟩ h1 rfl rfl rfl (Nat.le_of_ble_eq_true rfl) (c_put' ht' hs (k := 2) (by omega) (by rw [up_cell h4, up_cell h4]; exact hG) rfl c) ?_
  refine x_aload_n d_Ta_draft_30 rfl rfl ?_
  refine x_aload_n d_Ta_draft_31 rfl rfl ?_
  refine x_getIG (kf := 2) d_Ta_draft_32 h1 rfl rfl in_Ta f_Ta_23 ?_
  refine x_iconst (3) d_Ta_draft_35 rfl ⟨by decide, by decide⟩ ?_
  refine x_iload d_Ta_draft_36 rfl ?_
  refine x_V0 d_Ta_draft_38 e_Ta_draft_Ta_put ⟨rfl, rfl, Nat.zero_le _, Nat.zero_le _⟩ h1 rfl rfl rfl (Nat.le_of_ble_eq_true rfl) (c_put' ht' hs (k := 3) (by omega) (by rw [up_cell h4, up_cell h4, up_cell h4]; exact hG) rfl d) ?_
  refine x_aload_n d_Ta_draft_41 rfl rfl ?_
  refine x_aload_n d_Ta_draft_42 rfl rfl ?_
  refine x_getIG (kf := 2) d_Ta_draft_43 h1 rfl rfl in_Ta f_Ta_23 ?_
  refine x_iconst (4) d_Ta_draft_46 rfl ⟨by decide, by decide⟩ ?_
  refine x_iload d_Ta_draft_47 rfl ?_
  refine x_V0 d_Ta_draft_49 e_Ta_draft_Ta_put ⟨rfl, rfl, Nat.zero_le _, Nat.zero_le _⟩ h1 rfl rfl rfl (Nat.le_of_ble_eq_true rfl) (c_put' ht' hs (k := 4) (by omega) (by rw [up_cell h4, up_cell h4, up_cell h4, up_cell h4]; exact hG) rfl e) ?_
  refine x_aload_n d_Ta_draft_52 rfl rfl ?_
  refine x_aload_n d_Ta_draft_53 rfl rfl ?_
  refine x_getIG (kf := 2) d_Ta_draft_54 h1 rfl rfl in_Ta f_Ta_23 ?_
  refine x_iconst (5) d_Ta_draft_57 rfl ⟨by decide, by decide⟩ ?_
  refine x_iload d_Ta_draft_58 rfl ?_
  refine x_V0 d_Ta_draft_60 e_Ta_draft_Ta_put ⟨rfl, rfl, Nat.zero_le _, Nat.zero_le _⟩ h1 rfl rfl rfl (Nat.le_of_ble_eq_true rfl) (c_put' ht' hs (k := 5) (by omega) (by rw [up_cell h4, up_cell h4, up_cell h4, up_cell h4, up_cell h4]; exact hG) rfl f) ?_
  refine x_return d_Ta_draft_63 rfl ?_ (Nat.zero_le _) (Nat.zero_le _)
  exact ⟨rfl, by rw [← up6]; rfl⟩
theorem c_grow (ht : isTab t q L) (hG : 0 ≤ G t 2 ∧ G t 2 < L) : x_M y_Ta_grow [xR (some t)] (S0, G) (x_is (.inl none) (S0, up G t 2 (G t 2 + 1))) := by
  obtain ⟨h1, h2, h3, h4⟩ := ht
  refine x_of 0 rfl (Nat.le_of_ble_eq_true rfl) ?_
  show x_A y_Ta_grow 0 [some (xR (some t))] [] (S0, G) 0 0 _
  refine x_aload_n d_Ta_grow_0 rfl rfl ?_
  refine x_getIG (kf := 2) d_Ta_grow_1 h1 rfl rfl in_Ta f_Ta_23 ?_
  refine x_aload_n d_Ta_grow_4 rfl rfl ?_
  refine x_getF (kf := 0) d_Ta_grow_5 h1 rfl rfl in_Ta f_Ta_13 ?_
  refine x_icmp_ge (21) d_Ta_grow_8 (by decide) (fun g => ?_) (fun g => ?_)
  · omega
  · refine x_aload_n d_Ta_grow_11 rfl rfl ?_
    refine x_dup d_Ta_grow_12 rfl ?_
    refine x_getIG (kf := 2) d_Ta_grow_13 h1 rfl rfl in_Ta f_Ta_23 ?_
    refine x_iconst (1) d_Ta_grow_16 rfl ⟨by decide, by decide⟩ ?_
    refine x_iaddN d_Ta_grow_17 (by omega) (by omega) ?_
    refine x_putIG (kf := 2) tyX8 d_Ta_grow_18 h1 rfl rfl in_Ta f_Ta_23 tyX8_ok nmX8 (by decide +kernel) rfl ?_
    refine x_return d_Ta_grow_21 rfl ?_ (Nat.zero_le _) (Nat.zero_le _)
    exact ⟨rfl, rfl⟩
theorem c_shrink (ht : isTab t q L) (hG : 0 < G t 2 ∧ G t 2 ≤ L) : x_M y_Ta_shrink [xR (some t)] (S0, G) (x_is (.inl none) (S0, up G t 2 (G t 2 - 1))) := by
  obtain ⟨h1, h2, h3, h4⟩ := ht
  refine x_of 0 rfl (Nat.le_of_ble_eq_true rfl) ?_
  show x_A y_Ta_shrink 0 [some (xR (some t))] [] (S0, G) 0 0 _
  refine x_aload_n d_Ta_shrink_0 rfl rfl ?_
  refine x_getIG (kf := 2) d_Ta_shrink_1 h1 rfl rfl in_Ta f_Ta_23 ?_
  refine x_if_le (17) d_Ta_shrink_4 (by decide) (fun g => ?_) (fun g => ?_)
  · omega
  · refine x_aload_n d_Ta_shrink_7 rfl rfl ?_
    refine x_dup d_Ta_shrink_8 rfl ?_
    refine x_getIG (kf := 2) d_Ta_shrink_9 h1 rfl rfl in_Ta f_Ta_23 ?_
    refine x_iconst (1) d_Ta_shrink_12 rfl ⟨by decide, by decide⟩ ?_
    refine x_isubN d_Ta_shrink_13 (by omega) (by omega) ?_
    refine x_putIG (kf := 2) tyX8 d_Ta_shrink_14 h1 rfl rfl in_Ta f_Ta_23 tyX8_ok nmX8 (by decide +kernel) rfl ?_
    refine x_return d_Ta_shrink_17 rfl ?_ (Nat.zero_le _) (Nat.zero_le _)
    exact ⟨rfl, rfl⟩
end CT
/-- the class's memory holds the house: rows of table T begin at the cell 7 + 2 T, its size is at 6 + 2 T -/
def fRep (h : HH) (G : Nat → Nat → Int) : Prop := h.2 9 = 1 ∧ ∀ T, T < 10 → G (6 + 2 * T) 2 = h.2 T ∧ ∀ r, r < h.2 T → ∀ c, c < 6 → G (7 + 2 * T) (6 * r + c) = h.1 T r c
theorem fRep.same {h : HH} {G G' : Nat → Nat → Int} (r : fRep h G) (e : ∀ i, 6 ≤ i → i < 26 → G' i = G i) : fRep h G' :=
  ⟨r.1, fun T hT => by rw [e (6 + 2 * T) (by omega) (by omega), e (7 + 2 * T) (by omega) (by omega)]; exact r.2 T hT⟩
theorem Hwf.lim {h : HH} (hh : Hwf h) (r : h.2 9 = 1) {T : Nat} (hT : T < 10) : h.2 T ≤ lim T := by
  obtain ⟨b0, b1, b2, b3, b4, b5, b6, b7, b8⟩ := hh.1
  match T, hT with
  | 0, _ => exact b0
  | 1, _ => exact b1
  | 2, _ => exact b2
  | 3, _ => exact b3
  | 4, _ => exact b4
  | 5, _ => exact b5
  | 6, _ => exact b6
  | 7, _ => exact b7
  | 8, _ => exact b8
  | 9, _ => show h.2 9 ≤ 1; omega
section CR
variable {h : HH} {G : Nat → Nat → Int}
theorem k_size (r : fRep h G) (T : Nat) (hT : T < 10) : x_M y_Ta_size [xR (some (6 + 2 * T))] (S0, G) (x_is (.inl (some (xI (h.2 T : Int)))) (S0, G)) := by
  have := c_size (G := G) (isTab_of hT)
  rw [(r.2 T hT).1] at this
  exact this
theorem k_has (r : fRep h G) (T : Nat) (hT : T < 10) (a : Int) : x_M y_Ta_has [xR (some (6 + 2 * T)), xI a] (S0, G) (x_is (.inl (some (xI (b2i (decide (0 ≤ a ∧ a < h.2 T)))))) (S0, G)) := by
  have := c_has (G := G) (isTab_of hT) a
  rw [(r.2 T hT).1] at this
  exact this
theorem k_at (hh : Hwf h) (r : fRep h G) (T row col : Nat) (hT : T < 10) (hr : row < h.2 T) (hc : col < 6) {a b : Int} (ha : a = row) (hb : b = col) : x_M y_Ta_at [xR (some (6 + 2 * T)), xI a, xI b] (S0, G) (x_is (.inl (some (xI (h.1 T row col)))) (S0, G)) := by
  subst ha hb
  have := c_at (G := G) (isTab_of hT) (row : Int) (col : Int)
  have := hh.lim r.1 hT
  rw [if_pos (by omega), show ((row : Int) * 6 + (col : Int)).toNat = 6 * row + col by omega, (r.2 T hT).2 row hr col hc] at *
  assumption
end CR
