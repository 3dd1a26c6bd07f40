/-! the class: a crew -/
abbrev oCr : XV := xR (some o_Cr)
def cm (sh : Nat → Nat → Bool) (p m : Nat) : Int := if sh m p = true then 2 else 0
theorem cm_bd (sh : Nat → Nat → Bool) (p m : Nat) : 0 ≤ cm sh p m ∧ cm sh p m ≤ 2 := by
  unfold cm; split <;> omega
def lT (h : HH) (g : Nat → Nat → Int) (m p : Nat) : Nat → Int
  | 0 => if 0 < m then g (m - 1) p + 1 else 1000000
  | w + 1 => if f_at h p w = true ∧ h.1 1 w 2 ≤ m then min (lT h g m p w) (g ((m : Int) - h.1 1 w 2).toNat (f_oth h p w).toNat + h.1 1 w 2) else lT h g m p w
def lB (h : HH) (sh : Nat → Nat → Bool) (g : Nat → Nat → Int) (m p : Nat) : Nat → Int
  | 0 => if m < 20 then g (m + 1) p + 1 + cm sh p (m + 1) else 1000000
  | w + 1 => if f_at h p w = true ∧ (m : Int) + h.1 1 w 2 ≤ 20 then min (lB h sh g m p w) (g ((m : Int) + h.1 1 w 2).toNat (f_oth h p w).toNat + h.1 1 w 2 + cm sh (f_oth h p w).toNat ((m : Int) + h.1 1 w 2).toNat) else lB h sh g m p w
def t_in (h : HH) (m p : Nat) : Int := if m = 0 ∧ 0 < h.1 0 p 1 then 0 else 1000000
/-- the least air there, the least air back -/
def isTh (h : HH) (sh : Nat → Nat → Bool) (g : Nat → Nat → Int) : Prop := ∀ m, m ≤ 20 → ∀ p, p < h.2 0 → g m p = min (t_in h m p) (lT h g m p (h.2 1) + cm sh p m)
def isBk (h : HH) (sh : Nat → Nat → Bool) (g : Nat → Nat → Int) : Prop := ∀ m, m ≤ 20 → ∀ p, p < h.2 0 → g m p = if 0 < h.1 0 p 1 then 0 else min (lB h sh g m p (h.2 1)) 1000000
theorem lT_cg {h : HH} (hh : Hwf h) {g g' : Nat → Nat → Int} {m p : Nat} (hp : p < h.2 0) (e : ∀ m' q, m' < m → q < h.2 0 → g m' q = g' m' q) {n : Nat} (hn : n ≤ h.2 1) : lT h g m p n = lT h g' m p n := by
  induction n with
  | zero =>
    unfold lT
    split
    · rw [e (m - 1) p (by omega) hp]
    · rfl
  | succ w ih =>
    have b := hh.2.2.1 w (by omega)
    have bo := f_oth_bd hh (p : Int) (w := w) (by omega)
    unfold lT
    rw [ih (by omega)]
    split
    · next c => rw [e _ _ (by omega) (by omega)]
    · rfl
theorem lB_cg {h : HH} (hh : Hwf h) {sh : Nat → Nat → Bool} {g g' : Nat → Nat → Int} {m p : Nat} (hp : p < h.2 0) (e : ∀ m' q, m < m' → m' ≤ 20 → q < h.2 0 → g m' q = g' m' q) {n : Nat} (hn : n ≤ h.2 1) : lB h sh g m p n = lB h sh g' m p n := by
  induction n with
  | zero =>
    unfold lB
    split
    · rw [e (m + 1) p (by omega) (by omega) hp]
    · rfl
  | succ w ih =>
    have b := hh.2.2.1 w (by omega)
    have bo := f_oth_bd hh (p : Int) (w := w) (by omega)
    unfold lB
    rw [ih (by omega)]
    split
    · next c => rw [e _ _ (by omega) (by omega) (by omega)]
    · rfl
theorem lT_bd {h : HH} (hh : Hwf h) {g : Nat → Nat → Int} {m p : Nat} (hp : p < h.2 0) (hm : m ≤ 20) (e : ∀ m' q, m' ≤ 20 → q < 8 → 0 ≤ g m' q ∧ g m' q ≤ 1000000) {n : Nat} (hn : n ≤ h.2 1) : 0 ≤ lT h g m p n ∧ lT h g m p n ≤ 1000001 := by
  have b0 := hh.1
  induction n with
  | zero =>
    have := e (m - 1) p (by omega) (by omega)
    unfold lT
    split <;> omega
  | succ w ih =>
    have b := hh.2.2.1 w (by omega)
    have bo := f_oth_bd hh (p : Int) (w := w) (by omega)
    have ih := ih (by omega)
    unfold lT
    split
    · next c =>
      have := e ((m : Int) - h.1 1 w 2).toNat (f_oth h p w).toNat (by omega) (by omega)
      omega
    · exact ih
theorem lB_bd {h : HH} (hh : Hwf h) {sh : Nat → Nat → Bool} {g : Nat → Nat → Int} {m p : Nat} (hp : p < h.2 0) (hm : m ≤ 20) (e : ∀ m' q, m' ≤ 20 → q < 8 → 0 ≤ g m' q ∧ g m' q ≤ 1000000) {n : Nat} (hn : n ≤ h.2 1) : 0 ≤ lB h sh g m p n ∧ lB h sh g m p n ≤ 1000003 := by
  have b0 := hh.1
  induction n with
  | zero =>
    unfold lB
    split
    · have := e (m + 1) p (by omega) (by omega)
      have := cm_bd sh p (m + 1)
      omega
    · omega
  | succ w ih =>
    have b := hh.2.2.1 w (by omega)
    have bo := f_oth_bd hh (p : Int) (w := w) (by omega)
    have ih := ih (by omega)
    unfold lB
    split
    · next c =>
      have := e ((m : Int) + h.1 1 w 2).toNat (f_oth h p w).toNat (by omega) (by omega)
      have := cm_bd sh (f_oth h p w).toNat ((m : Int) + h.1 1 w 2).toNat
      omega
    · exact ih
theorem isTh.uniq {h : HH} (hh : Hwf h) {sh : Nat → Nat → Bool} {g g' : Nat → Nat → Int} (x : isTh h sh g) (y : isTh h sh g') {m : Nat} (hm : m ≤ 20) : ∀ p, p < h.2 0 → g m p = g' m p := by
  induction m using Nat.strongRecOn with
  | ind m ih =>
    intro p hp
    rw [x m hm p hp, y m hm p hp, lT_cg hh hp (fun m' q h1 h2 => ih m' h1 (by omega) q h2) (Nat.le_refl _)]
theorem c_spot (σ : XM) (a b : Int) (ha : 0 ≤ a ∧ a < 8) (hb : 0 ≤ b ∧ b ≤ 20) : x_M y_F_spot [xI a, xI b] σ (x_is (.inl (some (xI (b * 8 + a)))) σ) := by
  refine x_of 0 rfl (Nat.le_of_ble_eq_true rfl) ?_
  show x_A y_F_spot 0 [some (xI a), some (xI b)] [] σ 0 0 _
  refine x_iload_n d_F_spot_0 rfl rfl ?_
  refine x_bipush (8) d_F_spot_1 rfl ⟨by decide, by decide⟩ ?_
  refine x_imulN d_F_spot_3 (by omega) (by omega) ?_
  refine x_iload_n d_F_spot_4 rfl rfl ?_
  refine x_iaddN d_F_spot_5 (by omega) (by omega) ?_
  refine x_ireturn d_F_spot_6 rfl ?_ (Nat.le_of_ble_eq_true rfl) (Nat.le_of_ble_eq_true rfl)
  exact ⟨rfl, rfl⟩
section CCr
variable {h : HH} {G : Nat → Nat → Int}
def shS (h : HH) (G : Nat → Nat → Int) : Nat → Nat → Bool := fun m p => decide (h.1 9 0 0 < G sm_mixed (8 * m + p))
theorem c_comes (hh : Hwf h) (r : fRep h G) (p m : Nat) (hp : p < 8) (hm : m ≤ 20) {a b : Int} (ha : a = p) (hb : b = m) : x_M y_Cr_comes [oCr, xI a, xI b] (S0, G) (x_is (.inl (some (xI (cm (shS h G) p m)))) (S0, G)) := by
  subst ha hb
  refine x_of 0 rfl (Nat.le_of_ble_eq_true rfl) ?_
  show x_A y_Cr_comes 0 [some oCr, some (xI (p : Int)), some (xI (m : Int))] [] (S0, G) 0 0 _
  refine x_aload_n d_Cr_comes_0 rfl rfl ?_
  refine x_getF (kf := 1) d_Cr_comes_1 rfl rfl rfl in_Cr f_Cr_22 ?_
  refine x_iload_n d_Cr_comes_4 rfl rfl ?_
  refine x_iload_n d_Cr_comes_5 rfl rfl ?_
  refine x_V1 d_Cr_comes_6 e_Cr_comes_Sm_isShut ⟨rfl, rfl, Nat.zero_le _, Nat.zero_le _⟩ rfl rfl rfl rfl (Nat.le_of_ble_eq_true rfl) (c_isShut hh r p m hp hm) ?_
  unfold cm shS
  by_cases c : h.1 9 0 0 < G sm_mixed (8 * m + p)
  · rw [decide_eq_true c]
    refine x_if_eq (16) d_Cr_comes_9 (by decide) (fun g => ?_) (fun g => ?_)
    · cases g
    · refine x_iconst (2) d_Cr_comes_12 rfl ⟨by decide, by decide⟩ ?_
      refine x_goto (17) d_Cr_comes_13 (by decide) ?_
      refine x_ireturn d_Cr_comes_17 rfl ?_ (Nat.zero_le _) (Nat.zero_le _)
      exact ⟨rfl, rfl⟩
  · rw [decide_eq_false c]
    refine x_if_eq (16) d_Cr_comes_9 (by decide) (fun g => ?_) (fun g => ?_)
    · refine x_iconst (0) d_Cr_comes_16 rfl ⟨by decide, by decide⟩ ?_
      refine x_ireturn d_Cr_comes_17 rfl ?_ (Nat.zero_le _) (Nat.zero_le _)
      exact ⟨rfl, rfl⟩
    · exact absurd rfl g
def g8 (G : Nat → Nat → Int) (i : Nat) : Nat → Nat → Int := fun m p => G i (8 * m + p)
theorem c_leastThere (hh : Hwf h) (r : fRep h G) (p m : Nat) (hp : p < h.2 0) (hm : m ≤ 20) (e : ∀ m' q, m' ≤ 20 → q < 8 → 0 ≤ g8 G cr_there m' q ∧ g8 G cr_there m' q ≤ 1000000) : x_M y_Cr_leastThere [oCr, xI (p : Int), xI (m : Int)] (S0, G) (x_is (.inl (some (xI (lT h (g8 G cr_there) m p (h.2 1) + cm (shS h G) p m)))) (S0, G)) := by
  have b0 := hh.1
  refine x_of 4 rfl (Nat.le_of_ble_eq_true rfl) ?_
  show x_A y_Cr_leastThere 0 [some oCr, some (xI (p : Int)), some (xI (m : Int)), none, none, none, none] [] (S0, G) 0 0 _
  generalize hQ : x_is (.inl (some (xI (lT h (g8 G cr_there) m p (h.2 1) + cm (shS h G) p m)))) (S0, G) = Q
  have loop : x_A y_Cr_leastThere 27 [some oCr, some (xI (p : Int)), some (xI (m : Int)), some (xI (lT h (g8 G cr_there) m p 0)), some (xI ((0 : Nat) : Int)), none, none] [] (S0, G) 0 0 Q := by
    refine x_up_to (P := fun w => ∀ z5 z6, x_A y_Cr_leastThere 27 [some oCr, some (xI (p : Int)), some (xI (m : Int)), some (xI (lT h (g8 G cr_there) m p w)), some (xI (w : Int)), z5, z6] [] (S0, G) 0 0 Q) 0 (h.2 1) (Nat.zero_le _) (fun z5 z6 => ?_) (fun w _ hw k z5 z6 => ?_) none none
    · have bl := lT_bd hh hp hm e (n := h.2 1) (Nat.le_refl _)
      have bc := cm_bd (shS h G) p m
      refine x_iload d_Cr_leastThere_27 rfl ?_
      refine x_aload_n d_Cr_leastThere_29 rfl rfl ?_
      refine x_getF (kf := 0) d_Cr_leastThere_30 rfl rfl rfl in_Cr f_Cr_18 ?_
      refine x_getF (kf := 1) d_Cr_leastThere_33 rfl rfl rfl in_Ho f_Cr_70 ?_
      refine x_V1 d_Cr_leastThere_36 e_Cr_leastThere_Ta_size ⟨rfl, rfl, Nat.zero_le _, Nat.zero_le _⟩ rfl rfl rfl rfl (Nat.le_of_ble_eq_true rfl) (k_size r 1 (by decide)) ?_
      refine x_icmp_ge (114) d_Cr_leastThere_39 (by decide) (fun g => ?_) (fun g => ?_)
      · refine x_iload_n d_Cr_leastThere_114 rfl rfl ?_
        refine x_aload_n d_Cr_leastThere_115 rfl rfl ?_
        refine x_iload_n d_Cr_leastThere_116 rfl rfl ?_
        refine x_iload_n d_Cr_leastThere_117 rfl rfl ?_
        refine x_V1 d_Cr_leastThere_118 e_Cr_leastThere_Cr_comes ⟨rfl, rfl, Nat.zero_le _, Nat.zero_le _⟩ rfl rfl rfl rfl (Nat.le_of_ble_eq_true rfl) (c_comes hh r p m (by omega) hm rfl rfl) ?_
        refine x_iaddN d_Cr_leastThere_121 (by omega) (by omega) ?_
        refine x_ireturn d_Cr_leastThere_122 rfl ?_ (Nat.zero_le _) (Nat.zero_le _)
        rw [← hQ]
        exact ⟨rfl, rfl⟩
      · omega
    · have bl := lT_bd hh hp hm e (n := w) (by omega)
      have b := hh.2.2.1 w hw
      have bo := f_oth_bd hh (p : Int) hw
      have e1 : lT h (g8 G cr_there) m p (w + 1) = if f_at h p w = true ∧ h.1 1 w 2 ≤ m then min (lT h (g8 G cr_there) m p w) (g8 G cr_there ((m : Int) - h.1 1 w 2).toNat (f_oth h p w).toNat + h.1 1 w 2) else lT h (g8 G cr_there) m p w := rfl
      rw [e1] at k
      generalize lT h (g8 G cr_there) m p w = s at *
      refine x_iload d_Cr_leastThere_27 rfl ?_
      refine x_aload_n d_Cr_leastThere_29 rfl rfl ?_
      refine x_getF (kf := 0) d_Cr_leastThere_30 rfl rfl rfl in_Cr f_Cr_18 ?_
      refine x_getF (kf := 1) d_Cr_leastThere_33 rfl rfl rfl in_Ho f_Cr_70 ?_
      refine x_V1 d_Cr_leastThere_36 e_Cr_leastThere_Ta_size ⟨rfl, rfl, Nat.zero_le _, Nat.zero_le _⟩ rfl rfl rfl rfl (Nat.le_of_ble_eq_true rfl) (k_size r 1 (by decide)) ?_
      refine x_icmp_ge (114) d_Cr_leastThere_39 (by decide) (fun g => ?_) (fun g => ?_)
      · omega
      · refine x_aload_n d_Cr_leastThere_42 rfl rfl ?_
        refine x_getF (kf := 0) d_Cr_leastThere_43 rfl rfl rfl in_Cr f_Cr_18 ?_
        refine x_iload d_Cr_leastThere_46 rfl ?_
        refine x_iload_n d_Cr_leastThere_48 rfl rfl ?_
        refine x_V1 d_Cr_leastThere_49 e_Cr_leastThere_Ho_otherEnd ⟨rfl, rfl, Nat.zero_le _, Nat.zero_le _⟩ rfl rfl rfl rfl (Nat.le_of_ble_eq_true rfl) (c_otherEnd hh r w hw (p : Int)) ?_
        refine x_istore d_Cr_leastThere_52 (by decide) ?_
        dsimp only [x_st1, x_st2, x_kill, List.set, List.getElem?_cons_zero, List.getElem?_cons_succ]
        refine x_aload_n d_Cr_leastThere_54 rfl rfl ?_
        refine x_getF (kf := 0) d_Cr_leastThere_55 rfl rfl rfl in_Cr f_Cr_18 ?_
        refine x_getF (kf := 1) d_Cr_leastThere_58 rfl rfl rfl in_Ho f_Cr_70 ?_
        refine x_iload d_Cr_leastThere_61 rfl ?_
        refine x_iconst (2) d_Cr_leastThere_63 rfl ⟨by decide, by decide⟩ ?_
        refine x_V1 d_Cr_leastThere_64 e_Cr_leastThere_Ta_at ⟨rfl, rfl, Nat.zero_le _, Nat.zero_le _⟩ rfl rfl rfl rfl (Nat.le_of_ble_eq_true rfl) (k_at hh r 1 w 2 (by decide) hw (by decide) rfl rfl) ?_
        refine x_istore d_Cr_leastThere_67 (by decide) ?_
        dsimp only [x_st1, x_st2, x_kill, List.set, List.getElem?_cons_zero, List.getElem?_cons_succ]
        refine x_iload d_Cr_leastThere_69 rfl ?_
        refine x_iconst (-1) d_Cr_leastThere_71 rfl ⟨by decide, by decide⟩ ?_
        by_cases c1 : f_at h p w = true
        · rw [show f_end h (p : Int) w = f_oth h p w from if_pos c1]
          refine x_icmp_eq (108) d_Cr_leastThere_72 (by decide) (fun g1 => ?_) (fun g1 => ?_)
          · omega
          · refine x_iload d_Cr_leastThere_75 rfl ?_
            refine x_if_le (108) d_Cr_leastThere_77 (by decide) (fun g2 => ?_) (fun g2 => ?_)
            · omega
            · refine x_iload d_Cr_leastThere_80 rfl ?_
              refine x_iload_n d_Cr_leastThere_82 rfl rfl ?_
              refine x_icmp_gt (108) d_Cr_leastThere_83 (by decide) (fun g3 => ?_) (fun g3 => ?_)
              · rw [if_neg (by omega)] at k
                refine x_iincN d_Cr_leastThere_108 rfl (by decide) (by omega) (by omega) ?_
                dsimp only [x_st1, x_st2, x_kill, List.set, List.getElem?_cons_zero, List.getElem?_cons_succ]
                refine x_goto (27) d_Cr_leastThere_111 (by decide) ?_
                exact k _ _
              · rw [if_pos ⟨c1, by omega⟩] at k
                have bb := e ((m : Int) - h.1 1 w 2).toNat (f_oth h p w).toNat (by omega) (by omega)
                unfold g8 at k bb
                refine x_iload_n d_Cr_leastThere_86 rfl rfl ?_
                refine x_aload_n d_Cr_leastThere_87 rfl rfl ?_
                refine x_getF (kf := 2) d_Cr_leastThere_88 rfl rfl rfl in_Cr f_Cr_9 ?_
                refine x_iload d_Cr_leastThere_91 rfl ?_
                refine x_iload_n d_Cr_leastThere_93 rfl rfl ?_
                refine x_iload d_Cr_leastThere_94 rfl ?_
                refine x_isubN d_Cr_leastThere_96 (by omega) (by omega) ?_
                refine x_SN1 d_Cr_leastThere_97 e_Cr_leastThere_F_spot ⟨rfl, rfl, Nat.zero_le _, Nat.zero_le _⟩ rfl rfl (Nat.le_of_ble_eq_true rfl) (c_spot _ _ _ (by omega) (by omega)) ?_
                refine x_ialdN ((8 * ((m : Int) - h.1 1 w 2).toNat + (f_oth h p w).toNat)) d_Cr_leastThere_100 rfl (by omega) (by omega) ?_
                generalize G cr_there (8 * ((m : Int) - h.1 1 w 2).toNat + (f_oth h p w).toNat) = t at *
                refine x_iload d_Cr_leastThere_101 rfl ?_
                refine x_iaddN d_Cr_leastThere_103 (by omega) (by omega) ?_
                refine x_S1 d_Cr_leastThere_104 e_Cr_leastThere_JM_min ⟨rfl, rfl, Nat.zero_le _, Nat.zero_le _⟩ rfl rfl (Nat.le_of_ble_eq_true rfl) (s_min _ _ _) ?_
                refine x_istore_n d_Cr_leastThere_107 rfl (by decide) ?_
                dsimp only [x_st1, x_st2, x_kill, List.set, List.getElem?_cons_zero, List.getElem?_cons_succ]
                refine x_iincN d_Cr_leastThere_108 rfl (by decide) (by omega) (by omega) ?_
                dsimp only [x_st1, x_st2, x_kill, List.set, List.getElem?_cons_zero, List.getElem?_cons_succ]
                refine x_goto (27) d_Cr_leastThere_111 (by decide) ?_
                exact k _ _
        · rw [show f_end h (p : Int) w = -1 from if_neg c1]
          rw [if_neg (fun z => c1 z.1)] at k
          refine x_icmp_eq (108) d_Cr_leastThere_72 (by decide) (fun g1 => ?_) (fun g1 => ?_)
          · refine x_iincN d_Cr_leastThere_108 rfl (by decide) (by omega) (by omega) ?_
            dsimp only [x_st1, x_st2, x_kill, List.set, List.getElem?_cons_zero, List.getElem?_cons_succ]
            refine x_goto (27) d_Cr_leastThere_111 (by decide) ?_
            exact k _ _
          · exact absurd rfl g1
  have e0 : lT h (g8 G cr_there) m p 0 = if 0 < m then g8 G cr_there (m - 1) p + 1 else 1000000 := rfl
  refine x_iload_n d_Cr_leastThere_0 rfl rfl ?_
  refine x_if_le (21) d_Cr_leastThere_1 (by decide) (fun g => ?_) (fun g => ?_)
  · rw [if_neg (by omega)] at e0
    refine x_ldc (1000000) d_Cr_leastThere_21 k_Cr_48 ⟨by decide, by decide⟩ ?_
    refine x_istore_n d_Cr_leastThere_23 rfl (by decide) ?_
    dsimp only [x_st1, x_st2, x_kill, List.set, List.getElem?_cons_zero, List.getElem?_cons_succ]
    refine x_iconst (0) d_Cr_leastThere_24 rfl ⟨by decide, by decide⟩ ?_
    refine x_istore d_Cr_leastThere_25 (by decide) ?_
    dsimp only [x_st1, x_st2, x_kill, List.set, List.getElem?_cons_zero, List.getElem?_cons_succ]
    rw [e0] at loop
    exact loop
  · rw [if_pos (by omega)] at e0
    have bb := e (m - 1) p (by omega) (by omega)
    rw [e0] at loop
    unfold g8 at loop bb
    refine x_aload_n d_Cr_leastThere_4 rfl rfl ?_
    refine x_getF (kf := 2) d_Cr_leastThere_5 rfl rfl rfl in_Cr f_Cr_9 ?_
    refine x_iload_n d_Cr_leastThere_8 rfl rfl ?_
    refine x_iload_n d_Cr_leastThere_9 rfl rfl ?_
    refine x_iconst (1) d_Cr_leastThere_10 rfl ⟨by decide, by decide⟩ ?_
    refine x_isubN d_Cr_leastThere_11 (by omega) (by omega) ?_
    refine x_SN1 d_Cr_leastThere_12 e_Cr_leastThere_F_spot ⟨rfl, rfl, Nat.zero_le _, Nat.zero_le _⟩ rfl rfl (Nat.le_of_ble_eq_true rfl) (c_spot _ _ _ (by omega) (by omega)) ?_
    refine x_ialdN ((8 * (m - 1) + p)) d_Cr_leastThere_15 rfl (by omega) (by omega) ?_
    generalize G cr_there (8 * (m - 1) + p) = t at *
    refine x_iconst (1) d_Cr_leastThere_16 rfl ⟨by decide, by decide⟩ ?_
    refine x_iaddN d_Cr_leastThere_17 (by omega) (by omega) ?_
    refine x_goto (23) d_Cr_leastThere_18 (by decide) ?_
    refine x_istore_n d_Cr_leastThere_23 rfl (by decide) ?_
    dsimp only [x_st1, x_st2, x_kill, List.set, List.getElem?_cons_zero, List.getElem?_cons_succ]
    refine x_iconst (0) d_Cr_leastThere_24 rfl ⟨by decide, by decide⟩ ?_
    refine x_istore d_Cr_leastThere_25 (by decide) ?_
    dsimp only [x_st1, x_st2, x_kill, List.set, List.getElem?_cons_zero, List.getElem?_cons_succ]
    exact loop
theorem c_leastBack (hh : Hwf h) (r : fRep h G) (p m : Nat) (hp : p < h.2 0) (hm : m ≤ 20) (e : ∀ m' q, m' ≤ 20 → q < 8 → 0 ≤ g8 G cr_back m' q ∧ g8 G cr_back m' q ≤ 1000000) : x_M y_Cr_leastBack [oCr, xI (p : Int), xI (m : Int)] (S0, G) (x_is (.inl (some (xI (min (lB h (shS h G) (g8 G cr_back) m p (h.2 1)) 1000000)))) (S0, G)) := by
  have b0 := hh.1
  refine x_of 5 rfl (Nat.le_of_ble_eq_true rfl) ?_
  show x_A y_Cr_leastBack 0 [some oCr, some (xI (p : Int)), some (xI (m : Int)), none, none, none, none, none] [] (S0, G) 0 0 _
  generalize hQ : x_is (.inl (some (xI (min (lB h (shS h G) (g8 G cr_back) m p (h.2 1)) 1000000)))) (S0, G) = Q
  have loop : x_A y_Cr_leastBack 36 [some oCr, some (xI (p : Int)), some (xI (m : Int)), some (xI (lB h (shS h G) (g8 G cr_back) m p 0)), some (xI ((0 : Nat) : Int)), none, none, none] [] (S0, G) 0 0 Q := by
    refine x_up_to (P := fun w => ∀ z5 z6 z7, x_A y_Cr_leastBack 36 [some oCr, some (xI (p : Int)), some (xI (m : Int)), some (xI (lB h (shS h G) (g8 G cr_back) m p w)), some (xI (w : Int)), z5, z6, z7] [] (S0, G) 0 0 Q) 0 (h.2 1) (Nat.zero_le _) (fun z5 z6 z7 => ?_) (fun w _ hw k z5 z6 z7 => ?_) none none none
    · refine x_iload d_Cr_leastBack_36 rfl ?_
      refine x_aload_n d_Cr_leastBack_38 rfl rfl ?_
      refine x_getF (kf := 0) d_Cr_leastBack_39 rfl rfl rfl in_Cr f_Cr_18 ?_
      refine x_getF (kf := 1) d_Cr_leastBack_42 rfl rfl rfl in_Ho f_Cr_70 ?_
      refine x_V1 d_Cr_leastBack_45 e_Cr_leastBack_Ta_size ⟨rfl, rfl, Nat.zero_le _, Nat.zero_le _⟩ rfl rfl rfl rfl (Nat.le_of_ble_eq_true rfl) (k_size r 1 (by decide)) ?_
      refine x_icmp_ge (141) d_Cr_leastBack_48 (by decide) (fun g => ?_) (fun g => ?_)
      · refine x_iload_n d_Cr_leastBack_141 rfl rfl ?_
        refine x_ldc (1000000) d_Cr_leastBack_142 k_Cr_48 ⟨by decide, by decide⟩ ?_
        refine x_S1 d_Cr_leastBack_144 e_Cr_leastBack_JM_min ⟨rfl, rfl, Nat.zero_le _, Nat.zero_le _⟩ rfl rfl (Nat.le_of_ble_eq_true rfl) (s_min _ _ _) ?_
        refine x_ireturn d_Cr_leastBack_147 rfl ?_ (Nat.zero_le _) (Nat.zero_le _)
        rw [← hQ]
        exact ⟨rfl, rfl⟩
      · omega
    · have bl := lB_bd hh hp hm e (n := w) (sh := shS h G) (by omega)
      have b := hh.2.2.1 w hw
      have bo := f_oth_bd hh (p : Int) hw
      have e1 : lB h (shS h G) (g8 G cr_back) m p (w + 1) = if f_at h p w = true ∧ (m : Int) + h.1 1 w 2 ≤ 20 then min (lB h (shS h G) (g8 G cr_back) m p w) (g8 G cr_back ((m : Int) + h.1 1 w 2).toNat (f_oth h p w).toNat + h.1 1 w 2 + cm (shS h G) (f_oth h p w).toNat ((m : Int) + h.1 1 w 2).toNat) else lB h (shS h G) (g8 G cr_back) m p w := rfl
      rw [e1] at k
      generalize lB h (shS h G) (g8 G cr_back) m p w = s at *
      refine x_iload d_Cr_leastBack_36 rfl ?_
      refine x_aload_n d_Cr_leastBack_38 rfl rfl ?_
      refine x_getF (kf := 0) d_Cr_leastBack_39 rfl rfl rfl in_Cr f_Cr_18 ?_
      refine x_getF (kf := 1) d_Cr_leastBack_42 rfl rfl rfl in_Ho f_Cr_70 ?_
      refine x_V1 d_Cr_leastBack_45 e_Cr_leastBack_Ta_size ⟨rfl, rfl, Nat.zero_le _, Nat.zero_le _⟩ rfl rfl rfl rfl (Nat.le_of_ble_eq_true rfl) (k_size r 1 (by decide)) ?_
      refine x_icmp_ge (141) d_Cr_leastBack_48 (by decide) (fun g => ?_) (fun g => ?_)
      · omega
      · refine x_aload_n d_Cr_leastBack_51 rfl rfl ?_
        refine x_getF (kf := 0) d_Cr_leastBack_52 rfl rfl rfl in_Cr f_Cr_18 ?_
        refine x_iload d_Cr_leastBack_55 rfl ?_
        refine x_iload_n d_Cr_leastBack_57 rfl rfl ?_
        refine x_V1 d_Cr_leastBack_58 e_Cr_leastBack_Ho_otherEnd ⟨rfl, rfl, Nat.zero_le _, Nat.zero_le _⟩ rfl rfl rfl rfl (Nat.le_of_ble_eq_true rfl) (c_otherEnd hh r w hw (p : Int)) ?_
        refine x_istore d_Cr_leastBack_61 (by decide) ?_
        dsimp only [x_st1, x_st2, x_kill, List.set, List.getElem?_cons_zero, List.getElem?_cons_succ]
        refine x_aload_n d_Cr_leastBack_63 rfl rfl ?_
        refine x_getF (kf := 0) d_Cr_leastBack_64 rfl rfl rfl in_Cr f_Cr_18 ?_
        refine x_getF (kf := 1) d_Cr_leastBack_67 rfl rfl rfl in_Ho f_Cr_70 ?_
        refine x_iload d_Cr_leastBack_70 rfl ?_
        refine x_iconst (2) d_Cr_leastBack_72 rfl ⟨by decide, by decide⟩ ?_
        refine x_V1 d_Cr_leastBack_73 e_Cr_leastBack_Ta_at ⟨rfl, rfl, Nat.zero_le _, Nat.zero_le _⟩ rfl rfl rfl rfl (Nat.le_of_ble_eq_true rfl) (k_at hh r 1 w 2 (by decide) hw (by decide) rfl rfl) ?_
        refine x_istore d_Cr_leastBack_76 (by decide) ?_
        dsimp only [x_st1, x_st2, x_kill, List.set, List.getElem?_cons_zero, List.getElem?_cons_succ]
        refine x_iload d_Cr_leastBack_78 rfl ?_
        refine x_iconst (-1) d_Cr_leastBack_80 rfl ⟨by decide, by decide⟩ ?_
        by_cases c1 : f_at h p w = true
        · rw [show f_end h (p : Int) w = f_oth h p w from if_pos c1]
          refine x_icmp_eq (135) d_Cr_leastBack_81 (by decide) (fun g1 => ?_) (fun g1 => ?_)
          · omega
          · refine x_iload d_Cr_leastBack_84 rfl ?_
            refine x_if_le (135) d_Cr_leastBack_86 (by decide) (fun g2 => ?_) (fun g2 => ?_)
            · omega
            · refine x_iload_n d_Cr_leastBack_89 rfl rfl ?_
              refine x_iload d_Cr_leastBack_90 rfl ?_
              refine x_iaddN d_Cr_leastBack_92 (by omega) (by omega) ?_
              refine x_bipush (20) d_Cr_leastBack_93 rfl ⟨by decide, by decide⟩ ?_
              refine x_icmp_gt (135) d_Cr_leastBack_95 (by decide) (fun g3 => ?_) (fun g3 => ?_)
              · rw [if_neg (by omega)] at k
                refine x_iincN d_Cr_leastBack_135 rfl (by decide) (by omega) (by omega) ?_
                dsimp only [x_st1, x_st2, x_kill, List.set, List.getElem?_cons_zero, List.getElem?_cons_succ]
                refine x_goto (36) d_Cr_leastBack_138 (by decide) ?_
                exact k _ _ _
              · rw [if_pos ⟨c1, by omega⟩] at k
                have bb := e ((m : Int) + h.1 1 w 2).toNat (f_oth h p w).toNat (by omega) (by omega)
                have bc := cm_bd (shS h G) (f_oth h p w).toNat ((m : Int) + h.1 1 w 2).toNat
                have cc := c_comes hh r (f_oth h p w).toNat ((m : Int) + h.1 1 w 2).toNat (by omega) (by omega) (a := f_oth h p w) (b := (m : Int) + h.1 1 w 2) (by omega) (by omega)
                unfold g8 at k bb
                refine x_aload_n d_Cr_leastBack_98 rfl rfl ?_
                refine x_getF (kf := 3) d_Cr_leastBack_99 rfl rfl rfl in_Cr f_Cr_15 ?_
                refine x_iload d_Cr_leastBack_102 rfl ?_
                refine x_iload_n d_Cr_leastBack_104 rfl rfl ?_
                refine x_iload d_Cr_leastBack_105 rfl ?_
                refine x_iaddN d_Cr_leastBack_107 (by omega) (by omega) ?_
                refine x_SN1 d_Cr_leastBack_108 e_Cr_leastBack_F_spot ⟨rfl, rfl, Nat.zero_le _, Nat.zero_le _⟩ rfl rfl (Nat.le_of_ble_eq_true rfl) (c_spot _ _ _ (by omega) (by omega)) ?_
                refine x_ialdN ((8 * ((m : Int) + h.1 1 w 2).toNat + (f_oth h p w).toNat)) d_Cr_leastBack_111 rfl (by omega) (by omega) ?_
                generalize G cr_back (8 * ((m : Int) + h.1 1 w 2).toNat + (f_oth h p w).toNat) = t at *
                refine x_iload d_Cr_leastBack_112 rfl ?_
                refine x_iaddN d_Cr_leastBack_114 (by omega) (by omega) ?_
                refine x_aload_n d_Cr_leastBack_115 rfl rfl ?_
                refine x_iload d_Cr_leastBack_116 rfl ?_
                refine x_iload_n d_Cr_leastBack_118 rfl rfl ?_
                refine x_iload d_Cr_leastBack_119 rfl ?_
                refine x_iaddN d_Cr_leastBack_121 (by omega) (by omega) ?_
                refine x_V1 d_Cr_leastBack_122 e_Cr_leastBack_Cr_comes ⟨rfl, rfl, Nat.zero_le _, Nat.zero_le _⟩ rfl rfl rfl rfl (Nat.le_of_ble_eq_true rfl) (cc) ?_
                refine x_iaddN d_Cr_leastBack_125 (by omega) (by omega) ?_
                refine x_istore d_Cr_leastBack_126 (by decide) ?_
                dsimp only [x_st1, x_st2, x_kill, List.set, List.getElem?_cons_zero, List.getElem?_cons_succ]
                refine x_iload_n d_Cr_leastBack_128 rfl rfl ?_
                refine x_iload d_Cr_leastBack_129 rfl ?_
                refine x_S1 d_Cr_leastBack_131 e_Cr_leastBack_JM_min ⟨rfl, rfl, Nat.zero_le _, Nat.zero_le _⟩ rfl rfl (Nat.le_of_ble_eq_true rfl) (s_min _ _ _) ?_
                refine x_istore_n d_Cr_leastBack_134 rfl (by decide) ?_
                dsimp only [x_st1, x_st2, x_kill, List.set, List.getElem?_cons_zero, List.getElem?_cons_succ]
                refine x_iincN d_Cr_leastBack_135 rfl (by decide) (by omega) (by omega) ?_
                dsimp only [x_st1, x_st2, x_kill, List.set, List.getElem?_cons_zero, List.getElem?_cons_succ]
                refine x_goto (36) d_Cr_leastBack_138 (by decide) ?_
                exact k _ _ _
        · rw [show f_end h (p : Int) w = -1 from if_neg c1]
          rw [if_neg (fun z => c1 z.1)] at k
          refine x_icmp_eq (135) d_Cr_leastBack_81 (by decide) (fun g1 => ?_) (fun g1 => ?_)
          · refine x_iincN d_Cr_leastBack_135 rfl (by decide) (by omega) (by omega) ?_
            dsimp only [x_st1, x_st2, x_kill, List.set, List.getElem?_cons_zero, List.getElem?_cons_succ]
            refine x_goto (36) d_Cr_leastBack_138 (by decide) ?_
            exact k _ _ _
          · exact absurd rfl g1
  have e0 : lB h (shS h G) (g8 G cr_back) m p 0 = if m < 20 then g8 G cr_back (m + 1) p + 1 + cm (shS h G) p (m + 1) else 1000000 := rfl
  refine x_ldc (1000000) d_Cr_leastBack_0 k_Cr_48 ⟨by decide, by decide⟩ ?_
  refine x_istore_n d_Cr_leastBack_2 rfl (by decide) ?_
  dsimp only [x_st1, x_st2, x_kill, List.set, List.getElem?_cons_zero, List.getElem?_cons_succ]
  refine x_iload_n d_Cr_leastBack_3 rfl rfl ?_
  refine x_bipush (20) d_Cr_leastBack_4 rfl ⟨by decide, by decide⟩ ?_
  refine x_icmp_ge (33) d_Cr_leastBack_6 (by decide) (fun g => ?_) (fun g => ?_)
  · rw [if_neg (by omega)] at e0
    rw [e0] at loop
    refine x_iconst (0) d_Cr_leastBack_33 rfl ⟨by decide, by decide⟩ ?_
    refine x_istore d_Cr_leastBack_34 (by decide) ?_
    dsimp only [x_st1, x_st2, x_kill, List.set, List.getElem?_cons_zero, List.getElem?_cons_succ]
    exact loop
  · rw [if_pos (by omega)] at e0
    have bb := e (m + 1) p (by omega) (by omega)
    have bc := cm_bd (shS h G) p (m + 1)
    have cc := c_comes hh r p (m + 1) (by omega) (by omega) (a := (p : Int)) (b := (m : Int) + 1) rfl (by omega)
    rw [e0] at loop
    unfold g8 at loop bb
    refine x_aload_n d_Cr_leastBack_9 rfl rfl ?_
    refine x_getF (kf := 3) d_Cr_leastBack_10 rfl rfl rfl in_Cr f_Cr_15 ?_
    refine x_iload_n d_Cr_leastBack_13 rfl rfl ?_
    refine x_iload_n d_Cr_leastBack_14 rfl rfl ?_
    refine x_iconst (1) d_Cr_leastBack_15 rfl ⟨by decide, by decide⟩ ?_
    refine x_iaddN d_Cr_leastBack_16 (by omega) (by omega) ?_
    refine x_SN1 d_Cr_leastBack_17 e_Cr_leastBack_F_spot ⟨rfl, rfl, Nat.zero_le _, Nat.zero_le _⟩ rfl rfl (Nat.le_of_ble_eq_true rfl) (c_spot _ _ _ (by omega) (by omega)) ?_
    refine x_ialdN ((8 * (m + 1) + p)) d_Cr_leastBack_20 rfl (by omega) (by omega) ?_
    generalize G cr_back (8 * (m + 1) + p) = t at *
    refine x_iconst (1) d_Cr_leastBack_21 rfl ⟨by decide, by decide⟩ ?_
    refine x_iaddN d_Cr_leastBack_22 (by omega) (by omega) ?_
    refine x_aload_n d_Cr_leastBack_23 rfl rfl ?_
    refine x_iload_n d_Cr_leastBack_24 rfl rfl ?_
    refine x_iload_n d_Cr_leastBack_25 rfl rfl ?_
    refine x_iconst (1) d_Cr_leastBack_26 rfl ⟨by decide, by decide⟩ ?_
    refine x_iaddN d_Cr_leastBack_27 (by omega) (by omega) ?_
    refine x_V1 d_Cr_leastBack_28 e_Cr_leastBack_Cr_comes ⟨rfl, rfl, Nat.zero_le _, Nat.zero_le _⟩ rfl rfl rfl rfl (Nat.le_of_ble_eq_true rfl) (cc) ?_
    refine x_iaddN d_Cr_leastBack_31 (by omega) (by omega) ?_
    refine x_istore_n d_Cr_leastBack_32 rfl (by decide) ?_
    dsimp only [x_st1, x_st2, x_kill, List.set, List.getElem?_cons_zero, List.getElem?_cons_succ]
    refine x_iconst (0) d_Cr_leastBack_33 rfl ⟨by decide, by decide⟩ ?_
    refine x_istore d_Cr_leastBack_34 (by decide) ?_
    dsimp only [x_st1, x_st2, x_kill, List.set, List.getElem?_cons_zero, List.getElem?_cons_succ]
    exact loop
end CCr
