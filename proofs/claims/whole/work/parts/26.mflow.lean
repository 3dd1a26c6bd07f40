/-! the reference: fans are lost, air -/
theorem up_up (G : Nat → Nat → Int) (i j : Nat) (z : Int) : up (up G i j z) i j z = up G i j z := by
  funext a b; unfold up; split <;> rfl
theorem s_loses {h : HH} {G : Nat → Nat → Int} (hh : Hwf h) (r : mRep h G) (f m : Nat) (hf : f < h.2 3) (hm : 1 ≤ m ∧ m ≤ 20) : x_M y_M_loses [oM, xI (f : Int), xI (m : Int)] (S0, G) (x_is (.inl none) (S0, if f_much h (fun p => G m_above (8 * (m - 1) + p)) f = true then up G m_lostAt f m else G)) := by
  have b := hh.1
  have e0 := r.1
  obtain ⟨e1, -, e3, e4⟩ := r.2.2.2.2.1 f hf
  have g := hh.2.2.2.2.1 f hf
  obtain ⟨w, ew⟩ : ∃ w : Nat, h.1 3 f 0 = w := ⟨(h.1 3 f 0).toNat, by omega⟩
  have hw : w < h.2 1 := by omega
  obtain ⟨e5, e6, -⟩ := r.2.2.1 w hw
  refine x_of 2 rfl (Nat.le_of_ble_eq_true rfl) ?_
  show x_A y_M_loses 0 [some oM, some (xI (f : Int)), some (xI (m : Int)), none, none] [] (S0, G) 0 0 _
  refine x_iconst (1) d_M_loses_0 rfl ⟨by decide, by decide⟩ ?_
  refine x_aload_n d_M_loses_1 rfl rfl ?_
  refine x_getF (kf := 18) d_M_loses_2 rfl rfl rfl in_M f_M_32 ?_
  refine x_aload_n d_M_loses_5 rfl rfl ?_
  refine x_getF (kf := 29) d_M_loses_6 rfl rfl rfl in_M f_M_65 ?_
  refine x_iload_n d_M_loses_9 rfl rfl ?_
  refine x_ialdN (f) d_M_loses_10 rfl (by omega) (by omega) ?_
  refine x_ialdN (w) d_M_loses_11 rfl (by omega) (by omega) ?_
  refine x_ishl d_M_loses_12 ?_
  refine x_iconst (1) d_M_loses_13 rfl ⟨by decide, by decide⟩ ?_
  refine x_aload_n d_M_loses_14 rfl rfl ?_
  refine x_getF (kf := 19) d_M_loses_15 rfl rfl rfl in_M f_M_35 ?_
  refine x_aload_n d_M_loses_18 rfl rfl ?_
  refine x_getF (kf := 29) d_M_loses_19 rfl rfl rfl in_M f_M_65 ?_
  refine x_iload_n d_M_loses_22 rfl rfl ?_
  refine x_ialdN (f) d_M_loses_23 rfl (by omega) (by omega) ?_
  refine x_ialdN (w) d_M_loses_24 rfl (by omega) (by omega) ?_
  refine x_ishl d_M_loses_25 ?_
  refine x_ior d_M_loses_26 ?_
  refine x_aload_n d_M_loses_27 rfl rfl ?_
  refine x_getF (kf := 32) d_M_loses_28 rfl rfl rfl in_M f_M_74 ?_
  refine x_iload_n d_M_loses_31 rfl rfl ?_
  refine x_ialdN (f) d_M_loses_32 rfl (by omega) (by omega) ?_
  have ee : x_or (x_or (x_shl 1 (G m_wA w)) (x_shl 1 (G m_wB w))) (G m_nCable f) = f_ends h f := by
    unfold f_ends; rw [ew, Int.toNat_natCast, e5, e6, e4]
  refine x_ior d_M_loses_33 ?_
  rw [ee]
  refine x_istore_n d_M_loses_34 rfl (by decide) ?_
  dsimp only [x_st1, x_st2, x_kill, List.set, List.getElem?_cons_zero, List.getElem?_cons_succ]
  refine x_iconst (0) d_M_loses_35 rfl ⟨by decide, by decide⟩ ?_
  refine x_istore d_M_loses_36 (by decide) ?_
  dsimp only [x_st1, x_st2, x_kill, List.set, List.getElem?_cons_zero, List.getElem?_cons_succ]
  generalize hab : (fun p => G m_above (8 * (m - 1) + p)) = ab
  refine x_up_to (P := fun i => x_A y_M_loses 38 [some oM, some (xI (f : Int)), some (xI (m : Int)), some (xI (f_ends h f)), some (xI (i : Int))] [] (S0, if f_any (f_hit h ab f) i = true then up G m_lostAt f m else G) 0 0 (x_is (.inl none) (S0, if f_much h ab f = true then up G m_lostAt f m else G))) 0 (h.2 0) (Nat.zero_le _) ?_ (fun i _ hi k => ?_)
  · have e9 : (if f_any (f_hit h ab f) (h.2 0) = true then up G m_lostAt f m else G) o_M 1 = h.2 0 := by split <;> exact e0.1
    generalize hG : (if f_any (f_hit h ab f) (h.2 0) = true then up G m_lostAt f (m : Int) else G) = G2 at e9
    have hG3 : (if f_much h ab f = true then up G m_lostAt f (m : Int) else G) = G2 := hG
    rw [hG3]
    refine x_iload d_M_loses_38 rfl ?_
    refine x_aload_n d_M_loses_40 rfl rfl ?_
    refine x_getIG (kf := 1) d_M_loses_41 rfl rfl rfl in_M f_M_228 ?_
    refine x_icmp_ge (93) d_M_loses_44 (by decide) (fun c => ?_) (fun c => ?_)
    · refine x_return d_M_loses_93 rfl ?_ (Nat.zero_le _) (Nat.zero_le _)
      exact ⟨rfl, rfl⟩
    · omega
  · have e9 : (if f_any (f_hit h ab f) i = true then up G m_lostAt f m else G) o_M 1 = h.2 0 := by split <;> exact e0.1
    have e10 : (if f_any (f_hit h ab f) i = true then up G m_lostAt f m else G) m_above (8 * (m - 1) + i) = ab i := by rw [← hab]; split <;> rfl
    have e11 : (if f_any (f_hit h ab f) i = true then up G m_lostAt f m else G) m_nBears f = h.1 3 f 2 := by rw [← e3]; split <;> rfl
    have hy : f_any (f_hit h ab f) (i + 1) = (f_any (f_hit h ab f) i || f_hit h ab f i) := rfl
    rw [hy] at k
    have no : f_hit h ab f i = false → x_A y_M_loses 87 [some oM, some (xI (f : Int)), some (xI (m : Int)), some (xI (f_ends h f)), some (xI (i : Int))] [] (S0, if f_any (f_hit h ab f) i = true then up G m_lostAt f m else G) 0 0 (x_is (.inl none) (S0, if f_much h ab f = true then up G m_lostAt f m else G)) := by
      intro hn
      rw [hn, Bool.or_false] at k
      refine x_iincN d_M_loses_87 rfl (by decide) (by omega) (by omega) ?_
      dsimp only [x_st1, x_st2, x_kill, List.set, List.getElem?_cons_zero, List.getElem?_cons_succ]
      refine x_goto (38) d_M_loses_90 (by decide) ?_
      exact k
    generalize hG : (if f_any (f_hit h ab f) i = true then up G m_lostAt f (m : Int) else G) = G2 at e9 e10 e11 no
    refine x_iload d_M_loses_38 rfl ?_
    refine x_aload_n d_M_loses_40 rfl rfl ?_
    refine x_getIG (kf := 1) d_M_loses_41 rfl rfl rfl in_M f_M_228 ?_
    refine x_icmp_ge (93) d_M_loses_44 (by decide) (fun c => ?_) (fun c => ?_)
    · omega
    · refine x_iload_n d_M_loses_47 rfl rfl ?_
      refine x_iload d_M_loses_48 rfl ?_
      refine x_ishr d_M_loses_50 ?_
      refine x_iconst (1) d_M_loses_51 rfl ⟨by decide, by decide⟩ ?_
      refine x_iand d_M_loses_52 ?_
      refine x_iconst (1) d_M_loses_53 rfl ⟨by decide, by decide⟩ ?_
      refine x_icmp_ne (87) d_M_loses_54 (by decide) (fun c1 => ?_) (fun c1 => ?_)
      · exact no (by unfold f_hit; rw [decide_eq_false c1]; rfl)
      · refine x_aload_n d_M_loses_57 rfl rfl ?_
        refine x_getF (kf := 53) d_M_loses_58 rfl rfl rfl in_M f_M_129 ?_
        refine x_bipush (8) d_M_loses_61 rfl ⟨by decide, by decide⟩ ?_
        refine x_iload_n d_M_loses_63 rfl rfl ?_
        refine x_iconst (1) d_M_loses_64 rfl ⟨by decide, by decide⟩ ?_
        refine x_isubN d_M_loses_65 (by omega) (by omega) ?_
        refine x_imulN d_M_loses_66 (by omega) (by omega) ?_
        refine x_iload d_M_loses_67 rfl ?_
        refine x_iaddN d_M_loses_69 (by omega) (by omega) ?_
        refine x_ialdN (8 * (m - 1) + i) d_M_loses_70 rfl (by omega) (by omega) ?_
        refine x_aload_n d_M_loses_71 rfl rfl ?_
        refine x_getF (kf := 31) d_M_loses_72 rfl rfl rfl in_M f_M_71 ?_
        refine x_iload_n d_M_loses_75 rfl rfl ?_
        refine x_ialdN (f) d_M_loses_76 rfl (by omega) (by omega) ?_
        rw [e10, e11]
        refine x_icmp_lt (87) d_M_loses_77 (by decide) (fun c2 => ?_) (fun c2 => ?_)
        · exact no (by unfold f_hit; rw [decide_eq_false (p := h.1 3 f 2 ≤ ab i) (by omega), Bool.and_false])
        · refine x_aload_n d_M_loses_80 rfl rfl ?_
          refine x_getF (kf := 56) d_M_loses_81 rfl rfl rfl in_M f_M_138 ?_
          refine x_iload_n d_M_loses_84 rfl rfl ?_
          refine x_iload_n d_M_loses_85 rfl rfl ?_
          refine x_iastN (f) d_M_loses_86 rfl (by omega) (by omega) ?_
          have hyes : f_hit h ab f i = true := by unfold f_hit; rw [decide_eq_true c1, decide_eq_true (p := h.1 3 f 2 ≤ ab i) (by omega)]; rfl
          rw [hyes, Bool.or_true, if_pos rfl] at k
          have : up G2 m_lostAt f m = up G m_lostAt f m := by
            rw [← hG]; split
            · exact up_up _ _ _ _
            · rfl
          rw [this]
          refine x_iincN d_M_loses_87 rfl (by decide) (by omega) (by omega) ?_
          dsimp only [x_st1, x_st2, x_kill, List.set, List.getElem?_cons_zero, List.getElem?_cons_succ]
          refine x_goto (38) d_M_loses_90 (by decide) ?_
          exact k
theorem s_blows {h : HH} {G : Nat → Nat → Int} (hh : Hwf h) (r : mRep h G) (pl : Int) (m : Nat) (hm : m ≤ 20) : x_M y_M_blows [oM, xI pl, xI (m : Int)] (S0, G) (x_is (.inl none) (S0, fun a b => if a = m_air ∧ 12 * m ≤ b ∧ b < 12 * m + h.2 1 then f_air h (G m_lostAt) pl m (b - 12 * m) else G a b)) := by
  have b := hh.1
  have e0 := r.1
  refine x_of 3 rfl (Nat.le_of_ble_eq_true rfl) ?_
  show x_A y_M_blows 0 [some oM, some (xI pl), some (xI (m : Int)), none, none, none] [] (S0, G) 0 0 _
  refine x_iconst (0) d_M_blows_0 rfl ⟨by decide, by decide⟩ ?_
  refine x_istore_n d_M_blows_1 rfl (by decide) ?_
  dsimp only [x_st1, x_st2, x_kill, List.set, List.getElem?_cons_zero, List.getElem?_cons_succ]
  have frame : ∀ i : Nat, (∀ k, 1 ≤ k → k ≤ 14 → (fun a b => if a = m_air ∧ 12 * m ≤ b ∧ b < 12 * m + i then f_air h (G m_lostAt) pl m (b - 12 * m) else G a b) o_M k = G o_M k) ∧ ∀ c, c ≠ m_air → (fun a b => if a = m_air ∧ 12 * m ≤ b ∧ b < 12 * m + i then f_air h (G m_lostAt) pl m (b - 12 * m) else G a b) c = G c := by
    intro i
    refine ⟨fun k _ _ => rfl, fun c hc => ?_⟩
    funext b
    dsimp only
    rw [if_neg (fun q => hc q.1)]
  have e00 : G = fun a b => if a = m_air ∧ 12 * m ≤ b ∧ b < 12 * m + 0 then f_air h (G m_lostAt) pl m (b - 12 * m) else G a b := by
    funext a b
    rw [if_neg (by omega)]
  refine x_sub (lv' := [some oM, some (xI pl), some (xI (m : Int)), some (xI 0), none, none]) (fun j v hj => hj) ?_
  generalize hQ : (x_is (.inl none) (S0, fun a b => if a = m_air ∧ 12 * m ≤ b ∧ b < 12 * m + h.2 1 then f_air h (G m_lostAt) pl m (b - 12 * m) else G a b)) = Q
  have main : x_A y_M_blows 2 [some oM, some (xI pl), some (xI (m : Int)), some (xI ((0 : Nat) : Int)), none, none] [] (S0, fun a b => if a = m_air ∧ 12 * m ≤ b ∧ b < 12 * m + 0 then f_air h (G m_lostAt) pl m (b - 12 * m) else G a b) 0 0 Q := by
    refine x_up_to (P := fun i => x_A y_M_blows 2 [some oM, some (xI pl), some (xI (m : Int)), some (xI (i : Int)), none, none] [] (S0, fun a b => if a = m_air ∧ 12 * m ≤ b ∧ b < 12 * m + i then f_air h (G m_lostAt) pl m (b - 12 * m) else G a b) 0 0 Q) 0 (h.2 1) (Nat.zero_le _) ?_ (fun w _ hw k => ?_)
    · obtain ⟨f1, f2⟩ := frame (h.2 1)
      rw [← hQ]
      generalize hG : (fun a b => if a = m_air ∧ 12 * m ≤ b ∧ b < 12 * m + h.2 1 then f_air h (G m_lostAt) pl m (b - 12 * m) else G a b) = G2 at f1 f2
      have g2 := f1 2 (by omega) (by omega)
      refine x_iload_n d_M_blows_2 rfl rfl ?_
      refine x_aload_n d_M_blows_3 rfl rfl ?_
      refine x_getIG (kf := 2) d_M_blows_4 rfl rfl rfl in_M f_M_250 ?_
      refine x_icmp_ge (108) d_M_blows_7 (by decide) (fun c => ?_) (fun c => ?_)
      · refine x_return d_M_blows_108 rfl ?_ (Nat.zero_le _) (Nat.zero_le _)
        exact ⟨rfl, rfl⟩
      · omega
    · obtain ⟨f1, f2⟩ := frame w
      have step : ∀ G2 : Nat → Nat → Int, G2 = (fun a b => if a = m_air ∧ 12 * m ≤ b ∧ b < 12 * m + w then f_air h (G m_lostAt) pl m (b - 12 * m) else G a b) → up G2 m_air (12 * m + w) (f_air h (G m_lostAt) pl m w) = fun a b => if a = m_air ∧ 12 * m ≤ b ∧ b < 12 * m + (w + 1) then f_air h (G m_lostAt) pl m (b - 12 * m) else G a b := by
        intro G2 hG2
        funext a b
        rw [hG2]
        unfold up
        by_cases q1 : a = m_air ∧ b = 12 * m + w
        · rw [if_pos q1, if_pos ⟨q1.1, by omega, by omega⟩, q1.2, Nat.add_sub_cancel_left]
        · rw [if_neg q1]
          dsimp only
          by_cases q2 : a = m_air ∧ 12 * m ≤ b ∧ b < 12 * m + w
          · rw [if_pos q2, if_pos ⟨q2.1, q2.2.1, by omega⟩]
          · rw [if_neg q2, if_neg (fun q3 => q1 ⟨q3.1, by omega⟩)]
      generalize hG : (fun a b => if a = m_air ∧ 12 * m ≤ b ∧ b < 12 * m + w then f_air h (G m_lostAt) pl m (b - 12 * m) else G a b) = G2 at f1 f2
      have step := step G2 hG.symm
      have r2 : mRep h G2 := r.same f1 (fun c h1 h2 => f2 c (by intro q; subst q; exact absurd h2 (by decide)))
      have e2 := r2.1
      obtain ⟨-, -, -, -, e5⟩ := r2.2.2.1 w hw
      refine x_iload_n d_M_blows_2 rfl rfl ?_
      refine x_aload_n d_M_blows_3 rfl rfl ?_
      refine x_getIG (kf := 2) d_M_blows_4 rfl rfl rfl in_M f_M_250 ?_
      refine x_icmp_ge (108) d_M_blows_7 (by decide) (fun c => ?_) (fun c => ?_)
      · omega
      · refine x_aload_n d_M_blows_10 rfl rfl ?_
        refine x_getF (kf := 22) d_M_blows_11 rfl rfl rfl in_M f_M_44 ?_
        refine x_iload_n d_M_blows_14 rfl rfl ?_
        refine x_ialdN (w) d_M_blows_15 rfl (by omega) (by omega) ?_
        rw [e5]
        refine x_istore d_M_blows_16 (by decide) ?_
        dsimp only [x_st1, x_st2, x_kill, List.set, List.getElem?_cons_zero, List.getElem?_cons_succ]
        refine x_iconst (0) d_M_blows_18 rfl ⟨by decide, by decide⟩ ?_
        refine x_istore d_M_blows_19 (by decide) ?_
        dsimp only [x_st1, x_st2, x_kill, List.set, List.getElem?_cons_zero, List.getElem?_cons_succ]
        refine x_up_to (P := fun f => x_A y_M_blows 21 [some oM, some (xI pl), some (xI (m : Int)), some (xI (w : Int)), some (xI (f_airS h (G m_lostAt) pl m w f)), some (xI (f : Int))] [] (S0, G2) 0 0 Q) 0 (h.2 3) (Nat.zero_le _) ?_ (fun f _ hf kf => ?_)
        · refine x_iload d_M_blows_21 rfl ?_
          refine x_aload_n d_M_blows_23 rfl rfl ?_
          refine x_getIG (kf := 4) d_M_blows_24 rfl rfl rfl in_M f_M_256 ?_
          refine x_icmp_ge (79) d_M_blows_27 (by decide) (fun c1 => ?_) (fun c1 => ?_)
          · refine x_aload_n d_M_blows_79 rfl rfl ?_
            refine x_getF (kf := 55) d_M_blows_80 rfl rfl rfl in_M f_M_135 ?_
            refine x_bipush (12) d_M_blows_83 rfl ⟨by decide, by decide⟩ ?_
            refine x_iload_n d_M_blows_85 rfl rfl ?_
            refine x_imulN d_M_blows_86 (by omega) (by omega) ?_
            refine x_iload_n d_M_blows_87 rfl rfl ?_
            refine x_iaddN d_M_blows_88 (by omega) (by omega) ?_
            refine x_bipush (-12) d_M_blows_89 rfl ⟨by decide, by decide⟩ ?_
            refine x_bipush (12) d_M_blows_91 rfl ⟨by decide, by decide⟩ ?_
            refine x_iload d_M_blows_93 rfl ?_
            refine x_S1 d_M_blows_95 e_M_blows_JM_min ⟨rfl, rfl, Nat.zero_le _, Nat.zero_le _⟩ rfl rfl (Nat.le_of_ble_eq_true rfl) (s_min _ _ _) ?_
            refine x_S1 d_M_blows_98 e_M_blows_JM_max ⟨rfl, rfl, Nat.zero_le _, Nat.zero_le _⟩ rfl rfl (Nat.le_of_ble_eq_true rfl) (s_max _ _ _) ?_
            refine x_iastN (12 * m + w) d_M_blows_101 rfl (by omega) (by omega) ?_
            rw [show max (-12 : Int) (min 12 (f_airS h (G m_lostAt) pl m w (h.2 3))) = f_air h (G m_lostAt) pl m w from rfl, step]
            refine x_iincN d_M_blows_102 rfl (by decide) (by omega) (by omega) ?_
            dsimp only [x_st1, x_st2, x_kill, List.set, List.getElem?_cons_zero, List.getElem?_cons_succ]
            refine x_goto (2) d_M_blows_105 (by decide) ?_
            exact x_sub (fun j v hj => by
              match j, hj with
              | 0, hj => exact hj
              | 1, hj => exact hj
              | 2, hj => exact hj
              | 3, hj => exact hj
              | 4, hj => cases hj
              | 5, hj => cases hj
              | j + 6, hj => cases hj) k
          · omega
        · obtain ⟨e6, e7, -⟩ := r2.2.2.2.2.1 f hf
          have g := hh.2.2.2.2.1 f hf
          have bd := f_airS_bd hh (G m_lostAt) pl m hw (f := f) (by omega)
          have ib := f_isBy_bd hh pl f m
          have k1 : -6 ≤ h.1 3 f 1 * f_isBy h pl f m ∧ h.1 3 f 1 * f_isBy h pl f m ≤ 6 := by
            rcases (by omega : f_isBy h pl f m = -1 ∨ f_isBy h pl f m = 0 ∨ f_isBy h pl f m = 1) with e | e | e <;> rw [e] <;> omega
          have el : G2 m_lostAt f = G m_lostAt f := by rw [f2 m_lostAt (by decide)]
          refine x_iload d_M_blows_21 rfl ?_
          refine x_aload_n d_M_blows_23 rfl rfl ?_
          refine x_getIG (kf := 4) d_M_blows_24 rfl rfl rfl in_M f_M_256 ?_
          refine x_icmp_ge (79) d_M_blows_27 (by decide) (fun c1 => ?_) (fun c1 => ?_)
          · omega
          · have no : ¬ (h.1 3 f 0 = w ∧ G m_lostAt f = -1) → x_A y_M_blows 73 [some oM, some (xI pl), some (xI (m : Int)), some (xI (w : Int)), some (xI (f_airS h (G m_lostAt) pl m w f)), some (xI (f : Int))] [] (S0, G2) 0 0 Q := by
              intro hn
              have e9 : f_airS h (G m_lostAt) pl m w (f + 1) = f_airS h (G m_lostAt) pl m w f + 0 := by
                show _ + (if _ then _ else _) = _
                rw [if_neg hn]
              rw [e9, Int.add_zero] at kf
              refine x_iincN d_M_blows_73 rfl (by decide) (by omega) (by omega) ?_
              dsimp only [x_st1, x_st2, x_kill, List.set, List.getElem?_cons_zero, List.getElem?_cons_succ]
              refine x_goto (21) d_M_blows_76 (by decide) ?_
              exact kf
            refine x_aload_n d_M_blows_30 rfl rfl ?_
            refine x_getF (kf := 29) d_M_blows_31 rfl rfl rfl in_M f_M_65 ?_
            refine x_iload d_M_blows_34 rfl ?_
            refine x_ialdN (f) d_M_blows_36 rfl (by omega) (by omega) ?_
            refine x_iload_n d_M_blows_37 rfl rfl ?_
            refine x_icmp_ne (73) d_M_blows_38 (by decide) (fun c2 => ?_) (fun c2 => ?_)
            · exact no (fun q => c2 (e6.trans q.1))
            · refine x_aload_n d_M_blows_41 rfl rfl ?_
              refine x_getF (kf := 56) d_M_blows_42 rfl rfl rfl in_M f_M_138 ?_
              refine x_iload d_M_blows_45 rfl ?_
              refine x_ialdN (f) d_M_blows_47 rfl (by omega) (by omega) ?_
              refine x_iconst (-1) d_M_blows_48 rfl ⟨by decide, by decide⟩ ?_
              refine x_icmp_ne (73) d_M_blows_49 (by decide) (fun c3 => ?_) (fun c3 => ?_)
              · exact no (fun q => c3 (el.trans q.2))
              · refine x_iload d_M_blows_52 rfl ?_
                refine x_aload_n d_M_blows_54 rfl rfl ?_
                refine x_getF (kf := 30) d_M_blows_55 rfl rfl rfl in_M f_M_68 ?_
                refine x_iload d_M_blows_58 rfl ?_
                refine x_ialdN (f) d_M_blows_60 rfl (by omega) (by omega) ?_
                rw [e7]
                refine x_aload_n d_M_blows_61 rfl rfl ?_
                refine x_iload_n d_M_blows_62 rfl rfl ?_
                refine x_iload d_M_blows_63 rfl ?_
                refine x_iload_n d_M_blows_65 rfl rfl ?_
                refine x_V1 d_M_blows_66 e_M_blows_M_isBy ⟨rfl, rfl, Nat.zero_le _, Nat.zero_le _⟩ rfl rfl rfl rfl (Nat.le_of_ble_eq_true rfl) (s_isBy hh r2 _ _ _) ?_
                refine x_imulN d_M_blows_69 (by omega) (by omega) ?_
                refine x_iaddN d_M_blows_70 (by omega) (by omega) ?_
                refine x_istore d_M_blows_71 (by decide) ?_
                dsimp only [x_st1, x_st2, x_kill, List.set, List.getElem?_cons_zero, List.getElem?_cons_succ]
                have e9 : f_airS h (G m_lostAt) pl m w (f + 1) = f_airS h (G m_lostAt) pl m w f + h.1 3 f 1 * f_isBy h pl f m := by
                  show _ + (if _ then _ else _) = _
                  rw [if_pos ⟨e6.symm.trans c2, el.symm.trans c3⟩]
                rw [e9] at kf
                refine x_iincN d_M_blows_73 rfl (by decide) (by omega) (by omega) ?_
                dsimp only [x_st1, x_st2, x_kill, List.set, List.getElem?_cons_zero, List.getElem?_cons_succ]
                refine x_goto (21) d_M_blows_76 (by decide) ?_
                exact kf
  rw [← e00] at main
  exact main
