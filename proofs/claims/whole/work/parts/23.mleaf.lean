/-! Math, and the reference's leaves -/
theorem s_min (σ : XM) (a b : Int) : x_M y_JM_min [xI a, xI b] σ (x_is (.inl (some (xI (min a b)))) σ) := by
  refine x_ofJ 0 pf_min (Nat.le_of_ble_eq_true rfl) ?_
  show x_A y_JM_min 0 [some (xI a), some (xI b)] [] σ 0 0 _
  refine x_iload_n d_JM_min_0 rfl rfl ?_
  refine x_iload_n d_JM_min_1 rfl rfl ?_
  refine x_icmp_gt (9) d_JM_min_2 (by decide) (fun h => ?_) (fun h => ?_)
  · refine x_iload_n d_JM_min_9 rfl rfl ?_
    refine x_ireturn d_JM_min_10 rfl ?_ (Nat.zero_le _) (Nat.zero_le _)
    rw [Int.min_eq_right (by omega)]; exact ⟨rfl, rfl⟩
  · refine x_iload_n d_JM_min_5 rfl rfl ?_
    refine x_goto (10) d_JM_min_6 (by decide) ?_
    refine x_ireturn d_JM_min_10 rfl ?_ (Nat.zero_le _) (Nat.zero_le _)
    rw [Int.min_eq_left (by omega)]; exact ⟨rfl, rfl⟩
theorem s_max (σ : XM) (a b : Int) : x_M y_JM_max [xI a, xI b] σ (x_is (.inl (some (xI (max a b)))) σ) := by
  refine x_ofJ 0 pf_max (Nat.le_of_ble_eq_true rfl) ?_
  show x_A y_JM_max 0 [some (xI a), some (xI b)] [] σ 0 0 _
  refine x_iload_n d_JM_max_0 rfl rfl ?_
  refine x_iload_n d_JM_max_1 rfl rfl ?_
  refine x_icmp_lt (9) d_JM_max_2 (by decide) (fun h => ?_) (fun h => ?_)
  · refine x_iload_n d_JM_max_9 rfl rfl ?_
    refine x_ireturn d_JM_max_10 rfl ?_ (Nat.zero_le _) (Nat.zero_le _)
    rw [Int.max_eq_right (by omega)]; exact ⟨rfl, rfl⟩
  · refine x_iload_n d_JM_max_5 rfl rfl ?_
    refine x_goto (10) d_JM_max_6 (by decide) ?_
    refine x_ireturn d_JM_max_10 rfl ?_ (Nat.zero_le _) (Nat.zero_le _)
    rw [Int.max_eq_left (by omega)]; exact ⟨rfl, rfl⟩
theorem s_abs (σ : XM) (a : Int) (ha : -2147483648 < a ∧ a < 2147483648) : x_M y_JM_abs [xI a] σ (x_is (.inl (some (xI (if a < 0 then -a else a)))) σ) := by
  refine x_ofJ 0 pf_abs (Nat.le_of_ble_eq_true rfl) ?_
  show x_A y_JM_abs 0 [some (xI a)] [] σ 0 0 _
  refine x_iload_n d_JM_abs_0 rfl rfl ?_
  refine x_if_ge (9) d_JM_abs_1 (by decide) (fun h => ?_) (fun h => ?_)
  · refine x_iload_n d_JM_abs_9 rfl rfl ?_
    refine x_ireturn d_JM_abs_10 rfl ?_ (Nat.zero_le _) (Nat.zero_le _)
    rw [if_neg (by omega)]; exact ⟨rfl, rfl⟩
  · refine x_iload_n d_JM_abs_4 rfl rfl ?_
    refine x_inegN d_JM_abs_5 (by omega) (by omega) ?_
    refine x_goto (10) d_JM_abs_6 (by decide) ?_
    refine x_ireturn d_JM_abs_10 rfl ?_ (Nat.zero_le _) (Nat.zero_le _)
    rw [if_pos (by omega)]; exact ⟨rfl, rfl⟩
abbrev oM : XV := xR (some o_M)
def f_at (h : HH) (p : Int) (w : Nat) : Bool := decide (h.1 1 w 0 = p) || decide (h.1 1 w 1 = p)
def f_oth (h : HH) (p : Int) (w : Nat) : Int := if h.1 1 w 0 = p then h.1 1 w 1 else h.1 1 w 0
def b2i (b : Bool) : Int := if b then 1 else 0
theorem s_isAt {h : HH} {G : Nat → Nat → Int} (hh : Hwf h) (r : mRep h G) (p : Int) (w : Nat) (hw : w < h.2 1) : x_M y_M_isAt [oM, xI p, xI (w : Int)] (S0, G) (x_is (.inl (some (xI (b2i (f_at h p w))))) (S0, G)) := by
  have b := hh.1
  obtain ⟨e1, e2, -⟩ := r.2.2.1 w hw
  refine x_of 0 rfl (Nat.le_of_ble_eq_true rfl) ?_
  show x_A y_M_isAt 0 [some oM, some (xI p), some (xI (w : Int))] [] (S0, G) 0 0 _
  refine x_aload_n d_M_isAt_0 rfl rfl ?_
  refine x_getF (kf := 18) d_M_isAt_1 rfl rfl rfl in_M f_M_32 ?_
  refine x_iload_n d_M_isAt_4 rfl rfl ?_
  refine x_ialdN (w) d_M_isAt_5 rfl (by omega) (by omega) ?_
  refine x_iload_n d_M_isAt_6 rfl rfl ?_
  refine x_icmp_eq (20) d_M_isAt_7 (by decide) (fun c => ?_) (fun c => ?_)
  · refine x_iconst (1) d_M_isAt_20 rfl ⟨by decide, by decide⟩ ?_
    refine x_goto (25) d_M_isAt_21 (by decide) ?_
    refine x_zreturn d_M_isAt_25 rfl (by first | exact Or.inl rfl | exact Or.inr rfl | (split <;> first | exact Or.inl rfl | exact Or.inr rfl) | assumption) ?_ (Nat.zero_le _) (Nat.zero_le _)
    have : f_at h p w = true := by simp [f_at, ← e1, c]
    rw [this]; exact ⟨rfl, rfl⟩
  · refine x_aload_n d_M_isAt_10 rfl rfl ?_
    refine x_getF (kf := 19) d_M_isAt_11 rfl rfl rfl in_M f_M_35 ?_
    refine x_iload_n d_M_isAt_14 rfl rfl ?_
    refine x_ialdN (w) d_M_isAt_15 rfl (by omega) (by omega) ?_
    refine x_iload_n d_M_isAt_16 rfl rfl ?_
    refine x_icmp_ne (24) d_M_isAt_17 (by decide) (fun c2 => ?_) (fun c2 => ?_)
    · refine x_iconst (0) d_M_isAt_24 rfl ⟨by decide, by decide⟩ ?_
      refine x_zreturn d_M_isAt_25 rfl (by first | exact Or.inl rfl | exact Or.inr rfl | (split <;> first | exact Or.inl rfl | exact Or.inr rfl) | assumption) ?_ (Nat.zero_le _) (Nat.zero_le _)
      have : f_at h p w = false := by simp [f_at, ← e1, ← e2, c, c2]
      rw [this]; exact ⟨rfl, rfl⟩
    · refine x_iconst (1) d_M_isAt_20 rfl ⟨by decide, by decide⟩ ?_
      refine x_goto (25) d_M_isAt_21 (by decide) ?_
      refine x_zreturn d_M_isAt_25 rfl (by first | exact Or.inl rfl | exact Or.inr rfl | (split <;> first | exact Or.inl rfl | exact Or.inr rfl) | assumption) ?_ (Nat.zero_le _) (Nat.zero_le _)
      have : f_at h p w = true := by simp [f_at, ← e2, c2]
      rw [this]; exact ⟨rfl, rfl⟩
theorem s_otherEnd {h : HH} {G : Nat → Nat → Int} (hh : Hwf h) (r : mRep h G) (p : Int) (w : Nat) (hw : w < h.2 1) : x_M y_M_otherEnd [oM, xI p, xI (w : Int)] (S0, G) (x_is (.inl (some (xI (f_oth h p w)))) (S0, G)) := by
  have b := hh.1
  obtain ⟨e1, e2, -⟩ := r.2.2.1 w hw
  refine x_of 0 rfl (Nat.le_of_ble_eq_true rfl) ?_
  show x_A y_M_otherEnd 0 [some oM, some (xI p), some (xI (w : Int))] [] (S0, G) 0 0 _
  refine x_aload_n d_M_otherEnd_0 rfl rfl ?_
  refine x_getF (kf := 18) d_M_otherEnd_1 rfl rfl rfl in_M f_M_32 ?_
  refine x_iload_n d_M_otherEnd_4 rfl rfl ?_
  refine x_ialdN (w) d_M_otherEnd_5 rfl (by omega) (by omega) ?_
  refine x_iload_n d_M_otherEnd_6 rfl rfl ?_
  refine x_icmp_ne (19) d_M_otherEnd_7 (by decide) (fun c => ?_) (fun c => ?_)
  · refine x_aload_n d_M_otherEnd_19 rfl rfl ?_
    refine x_getF (kf := 18) d_M_otherEnd_20 rfl rfl rfl in_M f_M_32 ?_
    refine x_iload_n d_M_otherEnd_23 rfl rfl ?_
    refine x_ialdN (w) d_M_otherEnd_24 rfl (by omega) (by omega) ?_
    refine x_ireturn d_M_otherEnd_25 rfl ?_ (Nat.zero_le _) (Nat.zero_le _)
    have : f_oth h p w = G m_wA w := by unfold f_oth; rw [← e1, ← e2, if_neg c]
    rw [this]; exact ⟨rfl, rfl⟩
  · refine x_aload_n d_M_otherEnd_10 rfl rfl ?_
    refine x_getF (kf := 19) d_M_otherEnd_11 rfl rfl rfl in_M f_M_35 ?_
    refine x_iload_n d_M_otherEnd_14 rfl rfl ?_
    refine x_ialdN (w) d_M_otherEnd_15 rfl (by omega) (by omega) ?_
    refine x_goto (25) d_M_otherEnd_16 (by decide) ?_
    refine x_ireturn d_M_otherEnd_25 rfl ?_ (Nat.zero_le _) (Nat.zero_le _)
    have : f_oth h p w = G m_wB w := by unfold f_oth; rw [← e1, ← e2, if_pos c]
    rw [this]; exact ⟨rfl, rfl⟩
def f_tow (h : HH) (a : Int) (p : Int) (w : Nat) : Int := if h.1 1 w 1 = p then a else -a
theorem s_towards {h : HH} {G : Nat → Nat → Int} (hh : Hwf h) (r : mRep h G) (p : Int) (w m : Nat) (hw : w < h.2 1) (hm : m ≤ 20) (ha : -12 ≤ G m_air (12 * m + w) ∧ G m_air (12 * m + w) ≤ 12) : x_M y_M_towards [oM, xI p, xI (w : Int), xI (m : Int)] (S0, G) (x_is (.inl (some (xI (f_tow h (G m_air (12 * m + w)) p w)))) (S0, G)) := by
  have b := hh.1
  obtain ⟨e1, e2, -⟩ := r.2.2.1 w hw
  refine x_of 0 rfl (Nat.le_of_ble_eq_true rfl) ?_
  show x_A y_M_towards 0 [some oM, some (xI p), some (xI (w : Int)), some (xI (m : Int))] [] (S0, G) 0 0 _
  refine x_aload_n d_M_towards_0 rfl rfl ?_
  refine x_getF (kf := 19) d_M_towards_1 rfl rfl rfl in_M f_M_35 ?_
  refine x_iload_n d_M_towards_4 rfl rfl ?_
  refine x_ialdN (w) d_M_towards_5 rfl (by omega) (by omega) ?_
  refine x_iload_n d_M_towards_6 rfl rfl ?_
  refine x_icmp_ne (24) d_M_towards_7 (by decide) (fun c => ?_) (fun c => ?_)
  · refine x_aload_n d_M_towards_24 rfl rfl ?_
    refine x_getF (kf := 55) d_M_towards_25 rfl rfl rfl in_M f_M_135 ?_
    refine x_bipush (12) d_M_towards_28 rfl ⟨by decide, by decide⟩ ?_
    refine x_iload_n d_M_towards_30 rfl rfl ?_
    refine x_imulN d_M_towards_31 (by omega) (by omega) ?_
    refine x_iload_n d_M_towards_32 rfl rfl ?_
    refine x_iaddN d_M_towards_33 (by omega) (by omega) ?_
    refine x_ialdN (12 * m + w) d_M_towards_34 rfl (by omega) (by omega) ?_
    refine x_inegN d_M_towards_35 (by omega) (by omega) ?_
    refine x_ireturn d_M_towards_36 rfl ?_ (Nat.zero_le _) (Nat.zero_le _)
    have : f_tow h (G m_air (12 * m + w)) p w = -G m_air (12 * m + w) := by unfold f_tow; rw [← e2, if_neg c]
    rw [this]; exact ⟨rfl, rfl⟩
  · refine x_aload_n d_M_towards_10 rfl rfl ?_
    refine x_getF (kf := 55) d_M_towards_11 rfl rfl rfl in_M f_M_135 ?_
    refine x_bipush (12) d_M_towards_14 rfl ⟨by decide, by decide⟩ ?_
    refine x_iload_n d_M_towards_16 rfl rfl ?_
    refine x_imulN d_M_towards_17 (by omega) (by omega) ?_
    refine x_iload_n d_M_towards_18 rfl rfl ?_
    refine x_iaddN d_M_towards_19 (by omega) (by omega) ?_
    refine x_ialdN (12 * m + w) d_M_towards_20 rfl (by omega) (by omega) ?_
    refine x_goto (36) d_M_towards_21 (by decide) ?_
    refine x_ireturn d_M_towards_36 rfl ?_ (Nat.zero_le _) (Nat.zero_le _)
    have : f_tow h (G m_air (12 * m + w)) p w = G m_air (12 * m + w) := by unfold f_tow; rw [← e2, if_pos c]
    rw [this]; exact ⟨rfl, rfl⟩
theorem s_isShut {h : HH} {G : Nat → Nat → Int} (r : mRep h G) (p m : Nat) (hp : p < 8) (hm : m ≤ 20) : x_M y_M_isShut [oM, xI (p : Int), xI (m : Int)] (S0, G) (x_is (.inl (some (xI (b2i (decide (h.1 9 0 0 < G m_mixed (8 * m + p))))))) (S0, G)) := by
  have e1 := r.2.2.2.2.2.2.2.2.2.2.1
  refine x_of 0 rfl (Nat.le_of_ble_eq_true rfl) ?_
  show x_A y_M_isShut 0 [some oM, some (xI (p : Int)), some (xI (m : Int))] [] (S0, G) 0 0 _
  refine x_aload_n d_M_isShut_0 rfl rfl ?_
  refine x_getF (kf := 54) d_M_isShut_1 rfl rfl rfl in_M f_M_132 ?_
  refine x_bipush (8) d_M_isShut_4 rfl ⟨by decide, by decide⟩ ?_
  refine x_iload_n d_M_isShut_6 rfl rfl ?_
  refine x_imulN d_M_isShut_7 (by omega) (by omega) ?_
  refine x_iload_n d_M_isShut_8 rfl rfl ?_
  refine x_iaddN d_M_isShut_9 (by omega) (by omega) ?_
  refine x_ialdN (8 * m + p) d_M_isShut_10 rfl (by omega) (by omega) ?_
  refine x_aload_n d_M_isShut_11 rfl rfl ?_
  refine x_getIG (kf := 10) d_M_isShut_12 rfl rfl rfl in_M f_M_7 ?_
  refine x_icmp_le (22) d_M_isShut_15 (by decide) (fun c => ?_) (fun c => ?_)
  · refine x_iconst (0) d_M_isShut_22 rfl ⟨by decide, by decide⟩ ?_
    refine x_zreturn d_M_isShut_23 rfl (by first | exact Or.inl rfl | exact Or.inr rfl | (split <;> first | exact Or.inl rfl | exact Or.inr rfl) | assumption) ?_ (Nat.zero_le _) (Nat.zero_le _)
    rw [← e1, decide_eq_false (by omega)]; exact ⟨rfl, rfl⟩
  · refine x_iconst (1) d_M_isShut_18 rfl ⟨by decide, by decide⟩ ?_
    refine x_goto (23) d_M_isShut_19 (by decide) ?_
    refine x_zreturn d_M_isShut_23 rfl (by first | exact Or.inl rfl | exact Or.inr rfl | (split <;> first | exact Or.inl rfl | exact Or.inr rfl) | assumption) ?_ (Nat.zero_le _) (Nat.zero_le _)
    rw [← e1, decide_eq_true (by omega)]; exact ⟨rfl, rfl⟩
def f_gives (h : HH) (f : Int) (m : Int) : Int := if f = -1 ∨ m < h.1 2 f.toNat 1 ∨ h.1 2 f.toNat 2 ≤ m then 0 else min (h.1 2 f.toNat 5) (h.1 2 f.toNat 3 + h.1 2 f.toNat 4 * (m - h.1 2 f.toNat 1))
theorem s_gives {h : HH} {G : Nat → Nat → Int} (hh : Hwf h) (r : mRep h G) (f : Int) (m : Nat) (hf : -1 ≤ f ∧ f < h.2 2) (hm : m ≤ 20) : x_M y_M_gives [oM, xI f, xI (m : Int)] (S0, G) (x_is (.inl (some (xI (f_gives h f m)))) (S0, G)) := by
  have b := hh.1
  refine x_of 0 rfl (Nat.le_of_ble_eq_true rfl) ?_
  show x_A y_M_gives 0 [some oM, some (xI f), some (xI (m : Int))] [] (S0, G) 0 0 _
  refine x_iload_n d_M_gives_0 rfl rfl ?_
  refine x_iconst (-1) d_M_gives_1 rfl ⟨by decide, by decide⟩ ?_
  refine x_icmp_eq (25) d_M_gives_2 (by decide) (fun c => ?_) (fun c => ?_)
  · refine x_iconst (0) d_M_gives_25 rfl ⟨by decide, by decide⟩ ?_
    refine x_ireturn d_M_gives_26 rfl ?_ (Nat.zero_le _) (Nat.zero_le _)
    unfold f_gives
    rw [if_pos (Or.inl c)]; exact ⟨rfl, rfl⟩
  · obtain ⟨q, hq⟩ : ∃ q : Nat, f = q := ⟨f.toNat, by omega⟩
    subst hq
    have hq : q < h.2 2 := by omega
    obtain ⟨-, e1, e2, e3, e4, e5⟩ := r.2.2.2.1 q hq
    have g := hh.2.2.2.1 q hq
    rw [← e1, ← e2, ← e3, ← e4, ← e5] at g
    have hu : f_gives h q m = if (m : Int) < G m_fFrom q ∨ G m_fTo q ≤ m then 0 else min (G m_fTop q) (G m_fFirst q + G m_fGrows q * (m - G m_fFrom q)) := by
      unfold f_gives
      rw [Int.toNat_natCast, ← e1, ← e2, ← e3, ← e4, ← e5]
      simp only [show ((q : Int) = -1) = False from by simp, false_or]
    rw [hu]
    refine x_iload_n d_M_gives_5 rfl rfl ?_
    refine x_aload_n d_M_gives_6 rfl rfl ?_
    refine x_getF (kf := 24) d_M_gives_7 rfl rfl rfl in_M f_M_50 ?_
    refine x_iload_n d_M_gives_10 rfl rfl ?_
    refine x_ialdN (q) d_M_gives_11 rfl (by omega) (by omega) ?_
    refine x_icmp_lt (25) d_M_gives_12 (by decide) (fun c1 => ?_) (fun c1 => ?_)
    · refine x_iconst (0) d_M_gives_25 rfl ⟨by decide, by decide⟩ ?_
      refine x_ireturn d_M_gives_26 rfl ?_ (Nat.zero_le _) (Nat.zero_le _)
      rw [if_pos (Or.inl c1)]; exact ⟨rfl, rfl⟩
    · refine x_iload_n d_M_gives_15 rfl rfl ?_
      refine x_aload_n d_M_gives_16 rfl rfl ?_
      refine x_getF (kf := 25) d_M_gives_17 rfl rfl rfl in_M f_M_53 ?_
      refine x_iload_n d_M_gives_20 rfl rfl ?_
      refine x_ialdN (q) d_M_gives_21 rfl (by omega) (by omega) ?_
      refine x_icmp_lt (27) d_M_gives_22 (by decide) (fun c2 => ?_) (fun c2 => ?_)
      · refine x_aload_n d_M_gives_27 rfl rfl ?_
        refine x_getF (kf := 28) d_M_gives_28 rfl rfl rfl in_M f_M_62 ?_
        refine x_iload_n d_M_gives_31 rfl rfl ?_
        refine x_ialdN (q) d_M_gives_32 rfl (by omega) (by omega) ?_
        refine x_aload_n d_M_gives_33 rfl rfl ?_
        refine x_getF (kf := 26) d_M_gives_34 rfl rfl rfl in_M f_M_56 ?_
        refine x_iload_n d_M_gives_37 rfl rfl ?_
        refine x_ialdN (q) d_M_gives_38 rfl (by omega) (by omega) ?_
        refine x_aload_n d_M_gives_39 rfl rfl ?_
        refine x_getF (kf := 27) d_M_gives_40 rfl rfl rfl in_M f_M_59 ?_
        refine x_iload_n d_M_gives_43 rfl rfl ?_
        refine x_ialdN (q) d_M_gives_44 rfl (by omega) (by omega) ?_
        refine x_iload_n d_M_gives_45 rfl rfl ?_
        refine x_aload_n d_M_gives_46 rfl rfl ?_
        refine x_getF (kf := 24) d_M_gives_47 rfl rfl rfl in_M f_M_50 ?_
        refine x_iload_n d_M_gives_50 rfl rfl ?_
        refine x_ialdN (q) d_M_gives_51 rfl (by omega) (by omega) ?_
        refine x_isubN d_M_gives_52 (by omega) (by omega) ?_
        have hb1 : 0 ≤ G m_fGrows q * ((m : Int) - G m_fFrom q) := Int.mul_nonneg (by omega) (by omega)
        have hb2 : G m_fGrows q * ((m : Int) - G m_fFrom q) ≤ 100000 * 20 := Int.mul_le_mul (by omega) (by omega) (by omega) (by omega)
        refine x_imulN d_M_gives_53 (by omega) (by omega) ?_
        refine x_iaddN d_M_gives_54 (by omega) (by omega) ?_
        refine x_S1 d_M_gives_55 e_M_gives_JM_min ⟨rfl, rfl, Nat.zero_le _, Nat.zero_le _⟩ rfl rfl (Nat.le_of_ble_eq_true rfl) (s_min _ _ _) ?_
        refine x_ireturn d_M_gives_58 rfl ?_ (Nat.zero_le _) (Nat.zero_le _)
        rw [if_neg (by omega)]; exact ⟨rfl, rfl⟩
      · refine x_iconst (0) d_M_gives_25 rfl ⟨by decide, by decide⟩ ?_
        refine x_ireturn d_M_gives_26 rfl ?_ (Nat.zero_le _) (Nat.zero_le _)
        rw [if_pos (Or.inr (by omega))]; exact ⟨rfl, rfl⟩
