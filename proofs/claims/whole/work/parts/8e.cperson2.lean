/-! the class: a person's choice -/
section CPe2
variable {h : HH} {G : Nat → Nat → Int}
theorem pR.mono {mix B B' : Int} {cl z : T3} (a : pR mix B cl z) (hB : B ≤ B') : pR mix B' cl z := by
  rcases a with a | ⟨a1, a2, a3⟩
  · exact Or.inl a
  · exact Or.inr ⟨a1, by omega, a3⟩
theorem pF.rep {i : Nat} {G' : Nat → Nat → Int} (f : pF i G G') (r : fRep h G) : fRep h G' := r.same (fun j _ h2 => f.1 j (by simp only [pe_doses]; omega) (by simp only [pe_outs]; omega) (by simp only [pe_deeds]; omega))
abbrev imp : T3 := (1000000000000, 21, -1)
def mCh (h : HH) (D : Nat → T3) (B : Int) (p m : Nat) (G : Nat → Nat → Int) : Option XV → XM → Prop := fun v τ => ∃ z, mPt (8 * m + p) z G v τ ∧ pR 0 (B + 2000000) z (a_go h D (decide (h.1 9 0 0 < G sm_mixed (8 * m + p))) (G sm_mixed (8 * m + p)) p m)
theorem c_choose (hh : Hwf h) (r : fRep h G) (D : Nat → T3) (B : Int) (p m : Nat) (hp : p < h.2 0) (hm : m ≤ 20) (hB : 0 ≤ B ∧ B ≤ 40000000) (hD : ∀ n q, m < n → n ≤ 20 → q < h.2 0 → pR 0 B (p3 G (8 * n + q)) (D (8 * n + q))) (hx : 0 ≤ G sm_mixed (8 * m + p) ∧ G sm_mixed (8 * m + p) ≤ 2000000) : x_M y_Pe_choose [oPe, xI (p : Int), xI (m : Int), xI (f_made h (h.2 6))] (S0, G) (fun r τ => ∃ v, r = .inl v ∧ mCh h D B p m G v τ) := by
  have b0 := hh.1
  refine x_of 3 rfl (Nat.le_of_ble_eq_true rfl) ?_
  show x_A y_Pe_choose 0 [some oPe, some (xI (p : Int)), some (xI (m : Int)), some (xI (f_made h (h.2 6))), none, none, none] [] (S0, G) 0 0 _
  generalize hQ : (fun (r : XRes) (τ : XM) => ∃ v, r = .inl v ∧ mCh h D B p m G v τ) = Q
  obtain ⟨i, hi⟩ : ∃ i : Nat, i = 8 * m + p := ⟨_, rfl⟩
  obtain ⟨mix, hmix⟩ : ∃ z : Int, z = G sm_mixed (8 * m + p) := ⟨_, rfl⟩
  obtain ⟨sh, hsh⟩ : ∃ z : Bool, z = decide (h.1 9 0 0 < G sm_mixed (8 * m + p)) := ⟨_, rfl⟩
  rw [← hmix] at hx
  have fin : ∀ G' z, pF i G G' → p3 G' i = z → pR 0 (B + 2000000) z (a_go h D sh mix p m) → Q (.inl none) (S0, G') := by
    intro G' z f1 f2 f3
    rw [← hQ]
    refine ⟨_, rfl, z, ⟨rfl, G', rfl, ?_, ?_⟩, ?_⟩
    · rw [← hi]; exact f1
    · rw [← hi]; exact f2
    · rw [← hsh, ← hmix]; exact f3
  -- the tail
  have tail : sh = false → ∀ G' z5 z6, pF i G G' → pR mix B (p3 G' i) (if m = 20 then imp else a_wy h D mix p m (h.2 1)) → x_A y_Pe_choose 147 [some oPe, some (xI (p : Int)), some (xI (m : Int)), some (xI (f_made h (h.2 6))), some (xI (i : Int)), z5, z6] [] (S0, G') 0 0 Q := by
    intro hs G' z5 z6 f k
    have ego : a_go h D sh mix p m = if m = 20 then imp else a_wy h D mix p m (h.2 1) := by
      unfold a_go
      rw [hs]
      by_cases e : m = 20
      · rw [if_pos e, if_pos (Or.inr e)]
      · rw [if_neg e, if_neg (fun q => q.elim (fun q => by cases q) e)]
    rw [← ego] at k
    refine x_aload_n d_Pe_choose_147 rfl rfl ?_
    refine x_getF (kf := 2) d_Pe_choose_148 rfl rfl rfl in_Pe f_Pe_9 ?_
    refine x_iload d_Pe_choose_151 rfl ?_
    refine x_ialdN (i) d_Pe_choose_153 rfl (by omega) (by omega) ?_
    refine x_iconst (-1) d_Pe_choose_154 rfl ⟨by decide, by decide⟩ ?_
    refine x_icmp_eq (177) d_Pe_choose_155 (by decide) (fun g => ?_) (fun g => ?_)
    · refine x_return d_Pe_choose_177 rfl ?_ (Nat.zero_le _) (Nat.zero_le _)
      refine fin G' _ f rfl ?_
      rcases k with ⟨k1, k2⟩ | ⟨k1, k2, k3⟩
      · exact Or.inl ⟨k1, k2⟩
      · exact absurd g (by show ¬ (p3 G' i).1 = -1; omega)
    · have cx := c_mixedIn (G := G') p m (by omega) hm
      rw [f.1 sm_mixed (by decide) (by decide) (by decide), ← hmix] at cx
      rcases k with ⟨k1, k2⟩ | ⟨k1, k2, k3⟩
      · exact absurd k2 g
      · have k1' : 0 ≤ G' pe_doses i := k1
        have k2' : G' pe_doses i ≤ B := k2
        have q := pF.one i G' (G' pe_doses i + mix)
        refine x_aload_n d_Pe_choose_158 rfl rfl ?_
        refine x_getF (kf := 2) d_Pe_choose_159 rfl rfl rfl in_Pe f_Pe_9 ?_
        refine x_iload d_Pe_choose_162 rfl ?_
        refine x_dup2 d_Pe_choose_164 rfl rfl ?_
        refine x_ialdN (i) d_Pe_choose_165 rfl (by omega) (by omega) ?_
        refine x_aload_n d_Pe_choose_166 rfl rfl ?_
        refine x_getF (kf := 1) d_Pe_choose_167 rfl rfl rfl in_Pe f_Pe_25 ?_
        refine x_iload_n d_Pe_choose_170 rfl rfl ?_
        refine x_iload_n d_Pe_choose_171 rfl rfl ?_
        refine x_V1 d_Pe_choose_172 e_Pe_choose_Sm_mixedIn ⟨rfl, rfl, Nat.zero_le _, Nat.zero_le _⟩ rfl rfl rfl rfl (Nat.le_of_ble_eq_true rfl) (cx) ?_
        refine x_iaddN d_Pe_choose_175 (by omega) (by omega) ?_
        refine x_iastN (i) d_Pe_choose_176 rfl (by omega) (by omega) ?_
        refine x_return d_Pe_choose_177 rfl ?_ (Nat.zero_le _) (Nat.zero_le _)
        refine fin _ _ (f.tr q.1) q.2 (Or.inr ⟨?_, ?_, ?_⟩)
        · show 0 ≤ G' pe_doses i + mix; omega
        · show G' pe_doses i + mix ≤ B + 2000000; omega
        · rw [k3]
          show (mix + G' pe_doses i, _, _) = ((0 + (G' pe_doses i + mix) : Int), _, _)
          rw [show mix + G' pe_doses i = 0 + (G' pe_doses i + mix) by omega]
  -- the ways
  have ways : sh = false → ∀ G', pF i G G' → pR mix B (p3 G' i) (if m = 20 then imp else a_st h D mix p m) → x_A y_Pe_choose 83 [some oPe, some (xI (p : Int)), some (xI (m : Int)), some (xI (f_made h (h.2 6))), some (xI (i : Int)), none, none] [] (S0, G') 0 0 Q := by
    intro hs G' f k
    refine x_iconst (0) d_Pe_choose_83 rfl ⟨by decide, by decide⟩ ?_
    refine x_istore d_Pe_choose_84 (by decide) ?_
    dsimp only [x_st1, x_st2, x_kill, List.set, List.getElem?_cons_zero, List.getElem?_cons_succ]
    refine x_up_to (P := fun w => ∀ G' z6, pF i G G' → pR mix B (p3 G' i) (if m = 20 then imp else a_wy h D mix p m w) → x_A y_Pe_choose 86 [some oPe, some (xI (p : Int)), some (xI (m : Int)), some (xI (f_made h (h.2 6))), some (xI (i : Int)), some (xI (w : Int)), z6] [] (S0, G') 0 0 Q) 0 (h.2 1) (Nat.zero_le _) (fun G' z6 f k => ?_) (fun w _ hw kk G' z6 f k => ?_) G' none f k
    · have r1 := f.rep r
      refine x_iload d_Pe_choose_86 rfl ?_
      refine x_aload_n d_Pe_choose_88 rfl rfl ?_
      refine x_getF (kf := 0) d_Pe_choose_89 rfl rfl rfl in_Pe f_Pe_21 ?_
      refine x_getF (kf := 1) d_Pe_choose_92 rfl rfl rfl in_Ho f_Pe_78 ?_
      refine x_V1 d_Pe_choose_95 e_Pe_choose_Ta_size ⟨rfl, rfl, Nat.zero_le _, Nat.zero_le _⟩ rfl rfl rfl rfl (Nat.le_of_ble_eq_true rfl) (k_size r1 1 (by decide)) ?_
      refine x_icmp_ge (147) d_Pe_choose_98 (by decide) (fun g => ?_) (fun g => ?_)
      · exact tail hs _ _ _ f k
      · omega
    · have r1 := f.rep r
      have b := hh.2.2.1 w hw
      have bo := f_oth_bd hh (p : Int) hw
      have bw := w_wk hh hw
      have ea : a_wy h D mix p m (w + 1) = if f_at h p w = true ∧ (m : Int) + h.1 1 w 2 * h.1 9 0 1 ≤ 20 then a_try (a_wy h D mix p m w) (2 + w) (mix + (D (a_ix h p m w)).1) (D (a_ix h p m w)).2.1 else a_wy h D mix p m w := rfl
      rw [ea] at kk
      refine x_iload d_Pe_choose_86 rfl ?_
      refine x_aload_n d_Pe_choose_88 rfl rfl ?_
      refine x_getF (kf := 0) d_Pe_choose_89 rfl rfl rfl in_Pe f_Pe_21 ?_
      refine x_getF (kf := 1) d_Pe_choose_92 rfl rfl rfl in_Ho f_Pe_78 ?_
      refine x_V1 d_Pe_choose_95 e_Pe_choose_Ta_size ⟨rfl, rfl, Nat.zero_le _, Nat.zero_le _⟩ rfl rfl rfl rfl (Nat.le_of_ble_eq_true rfl) (k_size r1 1 (by decide)) ?_
      refine x_icmp_ge (147) d_Pe_choose_98 (by decide) (fun g => ?_) (fun g => ?_)
      · omega
      · refine x_aload_n d_Pe_choose_101 rfl rfl ?_
        refine x_getF (kf := 0) d_Pe_choose_102 rfl rfl rfl in_Pe f_Pe_21 ?_
        refine x_iload d_Pe_choose_105 rfl ?_
        refine x_iload_n d_Pe_choose_107 rfl rfl ?_
        refine x_V1 d_Pe_choose_108 e_Pe_choose_Ho_otherEnd ⟨rfl, rfl, Nat.zero_le _, Nat.zero_le _⟩ rfl rfl rfl rfl (Nat.le_of_ble_eq_true rfl) (c_otherEnd hh r1 w hw (p : Int)) ?_
        refine x_istore d_Pe_choose_111 (by decide) ?_
        dsimp only [x_st1, x_st2, x_kill, List.set, List.getElem?_cons_zero, List.getElem?_cons_succ]
        refine x_iload d_Pe_choose_113 rfl ?_
        refine x_iconst (-1) d_Pe_choose_115 rfl ⟨by decide, by decide⟩ ?_
        by_cases c1 : f_at h p w = true
        · rw [show f_end h (p : Int) w = f_oth h p w from if_pos c1]
          refine x_icmp_eq (141) d_Pe_choose_116 (by decide) (fun g1 => ?_) (fun g1 => ?_)
          · omega
          · refine x_aload_n d_Pe_choose_119 rfl rfl ?_
            refine x_iload d_Pe_choose_120 rfl ?_
            refine x_iload d_Pe_choose_122 rfl ?_
            refine x_iload_n d_Pe_choose_124 rfl rfl ?_
            refine x_aload_n d_Pe_choose_125 rfl rfl ?_
            refine x_iconst (2) d_Pe_choose_126 rfl ⟨by decide, by decide⟩ ?_
            refine x_iload d_Pe_choose_127 rfl ?_
            refine x_iaddN d_Pe_choose_129 (by omega) (by omega) ?_
            refine x_V1 d_Pe_choose_130 e_Pe_choose_Pe_takes ⟨rfl, rfl, Nat.zero_le _, Nat.zero_le _⟩ rfl rfl rfl rfl (Nat.le_of_ble_eq_true rfl) (c_takes hh r1 w hw rfl) ?_
            have eix : a_ix h p m w = 8 * ((m : Int) + h.1 1 w 2 * h.1 9 0 1).toNat + (f_oth h p w).toNat := rfl
            rw [eix] at kk
            generalize h.1 1 w 2 * h.1 9 0 1 = tk at *
            refine x_iaddN d_Pe_choose_133 (by omega) (by omega) ?_
            refine x_iconst (2) d_Pe_choose_134 rfl ⟨by decide, by decide⟩ ?_
            refine x_iload d_Pe_choose_135 rfl ?_
            refine x_iaddN d_Pe_choose_137 (by omega) (by omega) ?_
            refine x_VQ d_Pe_choose_138 e_Pe_choose_Pe_tryDeed ⟨rfl, rfl, Nat.zero_le _, Nat.zero_le _⟩ rfl rfl rfl rfl (Nat.le_of_ble_eq_true rfl) (c_tryDeed (G := G') (i := i) (by omega) (f_oth h p w) ((m : Int) + tk) (2 + (w : Int))) (fun v τ H => ?_)
            obtain ⟨rfl, G2, rfl, f2, e2⟩ := H
            show x_A y_Pe_choose 141 [some oPe, some (xI (p : Int)), some (xI (m : Int)), some (xI (f_made h (h.2 6))), some (xI (i : Int)), some (xI (w : Int)), some (xI (f_oth h p w))] [] (S0, G2) 0 0 Q
            refine x_iincN d_Pe_choose_141 rfl (by decide) (by omega) (by omega) ?_
            dsimp only [x_st1, x_st2, x_kill, List.set, List.getElem?_cons_zero, List.getElem?_cons_succ]
            refine x_goto (86) d_Pe_choose_144 (by decide) ?_
            refine kk G2 _ (f.tr f2) ?_
            rw [e2]
            unfold p_do
            by_cases c2 : (m : Int) + tk ≤ 20
            · rw [if_pos (by omega), if_neg (by omega), if_pos ⟨c1, c2⟩]
              rw [if_neg (by omega)] at k
              have hd := hD ((m : Int) + tk).toNat (f_oth h p w).toNat (by omega) (by omega) (by omega)
              rw [← f.2 (8 * ((m : Int) + tk).toNat + (f_oth h p w).toNat) (by omega)] at hd
              exact k.step hx (by omega) hd
            · rw [if_neg (by omega)]
              by_cases e : m = 20
              · rw [if_pos e]; rw [if_pos e] at k; exact k
              · rw [if_neg e, if_neg (fun z => c2 z.2)]; rw [if_neg e] at k; exact k
        · rw [show f_end h (p : Int) w = -1 from if_neg c1]
          rw [if_neg (show ¬ (f_at h p w = true ∧ (m : Int) + h.1 1 w 2 * h.1 9 0 1 ≤ 20) from fun z => c1 z.1)] at kk
          refine x_icmp_eq (141) d_Pe_choose_116 (by decide) (fun g1 => ?_) (fun g1 => ?_)
          · refine x_iincN d_Pe_choose_141 rfl (by decide) (by omega) (by omega) ?_
            dsimp only [x_st1, x_st2, x_kill, List.set, List.getElem?_cons_zero, List.getElem?_cons_succ]
            refine x_goto (86) d_Pe_choose_144 (by decide) ?_
            exact kk _ _ f k
          · exact absurd rfl g1
  -- stay
  have stay : sh = false → ∀ G', pF i G G' → pR mix B (p3 G' i) (if m = 20 then imp else if 0 < f_wide h p (f_made h (h.2 6)) (h.2 6) then a_try imp 0 mix ((m : Int) + 1) else imp) → x_A y_Pe_choose 72 [some oPe, some (xI (p : Int)), some (xI (m : Int)), some (xI (f_made h (h.2 6))), some (xI (i : Int)), none, none] [] (S0, G') 0 0 Q := by
    intro hs G' f k
    refine x_aload_n d_Pe_choose_72 rfl rfl ?_
    refine x_iload d_Pe_choose_73 rfl ?_
    refine x_iload_n d_Pe_choose_75 rfl rfl ?_
    refine x_iload_n d_Pe_choose_76 rfl rfl ?_
    refine x_iconst (1) d_Pe_choose_77 rfl ⟨by decide, by decide⟩ ?_
    refine x_iaddN d_Pe_choose_78 (by omega) (by omega) ?_
    refine x_iconst (1) d_Pe_choose_79 rfl ⟨by decide, by decide⟩ ?_
    refine x_VQ d_Pe_choose_80 e_Pe_choose_Pe_tryDeed ⟨rfl, rfl, Nat.zero_le _, Nat.zero_le _⟩ rfl rfl rfl rfl (Nat.le_of_ble_eq_true rfl) (c_tryDeed (G := G') (i := i) (by omega) (p : Int) ((m : Int) + 1) 1) (fun v τ H => ?_)
    obtain ⟨rfl, G2, rfl, f2, e2⟩ := H
    refine ways hs G2 (f.tr f2) ?_
    rw [e2]
    unfold p_do
    by_cases e : m = 20
    · rw [if_neg (by omega), if_pos e]
      rw [if_pos e] at k
      exact k
    · rw [if_pos (by omega), if_neg e]
      rw [if_neg e] at k
      have hd := hD (m + 1) p (by omega) (by omega) hp
      rw [← f.2 (8 * (m + 1) + p) (by omega)] at hd
      have e8 : 8 * ((m : Int) + 1).toNat + ((p : Int)).toNat = 8 * (m + 1) + p := by omega
      have e9 : 8 * (m + 1) + p = 8 * m + p + 8 := by omega
      rw [e8, e9]
      rw [e9] at hd
      exact k.step hx (by omega) hd
  have q1 := pF.one i G (-1)
  have r1 := q1.1.rep r
  have csh := c_isShut hh r1 p m (by omega) hm
  rw [q1.1.1 sm_mixed (by decide) (by decide) (by decide), ← hsh] at csh
  have first : (p3 (up G pe_doses i (-1)) i).1 = -1 := by rw [q1.2]
  generalize hG1 : up G pe_doses i (-1) = G1 at *
  refine x_iload_n d_Pe_choose_0 rfl rfl ?_
  refine x_iload_n d_Pe_choose_1 rfl rfl ?_
  refine x_SN1 d_Pe_choose_2 e_Pe_choose_F_spot ⟨rfl, rfl, Nat.zero_le _, Nat.zero_le _⟩ rfl rfl (Nat.le_of_ble_eq_true rfl) (c_spot _ _ _ (by omega) (by omega)) ?_
  rw [show (m : Int) * 8 + (p : Int) = (i : Int) by omega]
  refine x_istore d_Pe_choose_5 (by decide) ?_
  dsimp only [x_st1, x_st2, x_kill, List.set, List.getElem?_cons_zero, List.getElem?_cons_succ]
  refine x_aload_n d_Pe_choose_7 rfl rfl ?_
  refine x_getF (kf := 2) d_Pe_choose_8 rfl rfl rfl in_Pe f_Pe_9 ?_
  refine x_iload d_Pe_choose_11 rfl ?_
  refine x_iconst (-1) d_Pe_choose_13 rfl ⟨by decide, by decide⟩ ?_
  refine x_iastN (i) d_Pe_choose_14 rfl (by omega) (by omega) ?_
  rw [hG1]
  refine x_aload_n d_Pe_choose_15 rfl rfl ?_
  refine x_getF (kf := 1) d_Pe_choose_16 rfl rfl rfl in_Pe f_Pe_25 ?_
  refine x_iload_n d_Pe_choose_19 rfl rfl ?_
  refine x_iload_n d_Pe_choose_20 rfl rfl ?_
  refine x_V1 d_Pe_choose_21 e_Pe_choose_Sm_isShut ⟨rfl, rfl, Nat.zero_le _, Nat.zero_le _⟩ rfl rfl rfl rfl (Nat.le_of_ble_eq_true rfl) (csh) ?_
  cases hs : sh with
  | true =>
    refine x_if_eq (28) d_Pe_choose_24 (by decide) (fun g => ?_) (fun g => ?_)
    · cases g
    · refine x_return d_Pe_choose_27 rfl ?_ (Nat.zero_le _) (Nat.zero_le _)
      refine fin _ _ q1.1 rfl (Or.inl ⟨?_, first⟩)
      unfold a_go
      exact if_pos (Or.inl hs)
  | false =>
    refine x_if_eq (28) d_Pe_choose_24 (by decide) (fun g => ?_) (fun g => ?_)
    · refine x_iload_n d_Pe_choose_28 rfl rfl ?_
      refine x_bipush (20) d_Pe_choose_29 rfl ⟨by decide, by decide⟩ ?_
      refine x_icmp_ge (72) d_Pe_choose_31 (by decide) (fun g2 => ?_) (fun g2 => ?_)
      · refine stay hs G1 q1.1 (Or.inl ⟨if_pos (by omega), first⟩)
      · refine x_aload_n d_Pe_choose_34 rfl rfl ?_
        refine x_getF (kf := 0) d_Pe_choose_35 rfl rfl rfl in_Pe f_Pe_21 ?_
        refine x_iload_n d_Pe_choose_38 rfl rfl ?_
        refine x_iload_n d_Pe_choose_39 rfl rfl ?_
        refine x_V1 d_Pe_choose_40 e_Pe_choose_Ho_exitWidth ⟨rfl, rfl, Nat.zero_le _, Nat.zero_le _⟩ rfl rfl rfl rfl (Nat.le_of_ble_eq_true rfl) (c_exitWidth hh r1 p hp _) ?_
        refine x_if_le (72) d_Pe_choose_43 (by decide) (fun g3 => ?_) (fun g3 => ?_)
        · refine stay hs G1 q1.1 (Or.inl ⟨?_, first⟩)
          rw [if_neg (by omega), if_neg (by omega)]
        · have qp := pF.put i G1 0 ((m : Int) + 1) 0
          refine x_aload_n d_Pe_choose_46 rfl rfl ?_
          refine x_getF (kf := 2) d_Pe_choose_47 rfl rfl rfl in_Pe f_Pe_9 ?_
          refine x_iload d_Pe_choose_50 rfl ?_
          refine x_iconst (0) d_Pe_choose_52 rfl ⟨by decide, by decide⟩ ?_
          refine x_iastN (i) d_Pe_choose_53 rfl (by omega) (by omega) ?_
          refine x_aload_n d_Pe_choose_54 rfl rfl ?_
          refine x_getF (kf := 3) d_Pe_choose_55 rfl rfl rfl in_Pe f_Pe_15 ?_
          refine x_iload d_Pe_choose_58 rfl ?_
          refine x_iload_n d_Pe_choose_60 rfl rfl ?_
          refine x_iconst (1) d_Pe_choose_61 rfl ⟨by decide, by decide⟩ ?_
          refine x_iaddN d_Pe_choose_62 (by omega) (by omega) ?_
          refine x_iastN (i) d_Pe_choose_63 rfl (by omega) (by omega) ?_
          refine x_aload_n d_Pe_choose_64 rfl rfl ?_
          refine x_getF (kf := 4) d_Pe_choose_65 rfl rfl rfl in_Pe f_Pe_18 ?_
          refine x_iload d_Pe_choose_68 rfl ?_
          refine x_iconst (0) d_Pe_choose_70 rfl ⟨by decide, by decide⟩ ?_
          refine x_iastN (i) d_Pe_choose_71 rfl (by omega) (by omega) ?_
          refine stay hs _ (q1.1.tr qp.1) ?_
          rw [qp.2, if_neg (by omega), if_pos (by omega)]
          refine Or.inr ⟨Int.le_refl 0, by show (0 : Int) ≤ B; omega, ?_⟩
          unfold a_try
          rw [if_neg (by show ¬ ((1000000000000 : Int) < mix ∨ (mix = (1000000000000 : Int) ∧ (21 : Int) ≤ (m : Int) + 1)); omega)]
          show (mix, (m : Int) + 1, (0 : Int)) = (mix + 0, (m : Int) + 1, (0 : Int))
          rw [Int.add_zero]
    · exact absurd rfl g
end CPe2
