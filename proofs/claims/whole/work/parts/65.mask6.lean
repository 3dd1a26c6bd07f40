/-! the reference: worth -/
def c_wor (h : HH) (G : Nat → Nat → Int) (a b k f by' row : Int) : Int := if f_wi f (-1) (h.2 2 - 1) = 0 ∨ f_wi row 0 3 = 0 then 1 else if f_co a b k = 0 ∨ f_wi by' 0 20 = 0 then 2 else if G m_rSort row.toNat = -1 then 3 else if G m_rMany row.toNat ≤ by' then 4 else 0
/-- the side that lies in a row -/
def f_rS (G : Nat → Nat → Int) (row n : Nat) : Bool := xb (w32 (x_land (G m_numbers (30 * row + n / 16)) 65535)) (n % 16)
def mWor (h : HH) (G : Nat → Nat → Int) (a b k f by' row : Int) : Option XV → XM → Prop := fun v τ => ∃ V, mAns G (c_wor h G a b k f by' row) V v τ ∧ (c_wor h G a b k f by' row ≠ 0 → V = 0) ∧ (c_wor h G a b k f by' row = 0 → ∃ S : Nat → Bool, (∀ n, n / 16 ≤ by'.toNat → S n = f_rS G row.toNat n) ∧ (((∃ m p, p < h.2 0 ∧ f_bad h S by'.toNat m p) ∧ V = -1) ∨ ((∀ m p, p < h.2 0 → ¬ f_bad h S by'.toNat m p) ∧ V = f_wv h S (fun m p => decide (h.1 9 0 0 < (if m ≤ 20 ∧ p < 8 then (sk h (a, b, k, f) m).2.1 p else h.1 9 0 0))) by'.toNat)))
theorem f_wv_sh {h : HH} {S : Nat → Bool} {s1 s2 : Nat → Nat → Bool} {by' : Nat} (e : ∀ m p, m ≤ by' → p < h.2 0 → s1 m p = s2 m p) : f_wv h S s1 by' = f_wv h S s2 by' := by
  unfold f_wv
  congr 1
  refine su_congr (fun m hm => su_congr (fun p hp => ?_))
  unfold f_wp
  rw [e m p (by omega) hp]
theorem s_worth {h : HH} {G : Nat → Nat → Int} (hh : Hwf h) (r0 : mRep h G) (a b k f by' row : Int) : x_M y_M_worth [oM, xI a, xI b, xI k, xI f, xI by', xI row] (S0, G) (fun r τ => ∃ v, r = .inl v ∧ mWor h G a b k f by' row v τ) := by
  have bb := hh.1
  have r := r0.th 0
  refine x_of 1 rfl (Nat.le_of_ble_eq_true rfl) ?_
  show x_A y_M_worth 0 [some oM, some (xI a), some (xI b), some (xI k), some (xI f), some (xI by'), some (xI row), none] [] (S0, G) 0 0 _
  generalize hQ : (fun (r : XRes) (τ : XM) => ∃ v, r = .inl v ∧ mWor h G a b k f by' row v τ) = Q
  have no : ∀ c : Int, c ≠ 0 → c_wor h G a b k f by' row = c → Q (.inl (some (xI 0))) (S0, up (up G o_M 0 0) o_M 0 c) := by
    intro c h1 h2
    rw [← hQ]
    exact ⟨_, rfl, 0, mAns.no 0 h2, fun _ => rfl, fun z => absurd (h2.symm.trans z) h1⟩
  have one : (f_wi f (-1) (h.2 2 - 1) = 0 ∨ f_wi row 0 3 = 0) → x_A y_M_worth 22 [some oM, some (xI a), some (xI b), some (xI k), some (xI f), some (xI by'), some (xI row), none] [] (S0, up G o_M 0 0) 0 0 Q := by
    intro z
    refine x_aload_n d_M_worth_22 rfl rfl ?_
    refine x_iconst (1) d_M_worth_23 rfl ⟨by decide, by decide⟩ ?_
    refine x_V1 d_M_worth_24 e_M_worth_M_fails ⟨rfl, rfl, Nat.zero_le _, Nat.zero_le _⟩ rfl rfl rfl rfl (Nat.le_of_ble_eq_true rfl) (s_fails (up G o_M 0 0) 1) ?_
    refine x_ireturn d_M_worth_27 rfl ?_ (Nat.zero_le _) (Nat.zero_le _)
    exact no 1 (by decide) (by unfold c_wor; rw [if_pos z])
  refine x_aload_n d_M_worth_0 rfl rfl ?_
  refine x_iconst (0) d_M_worth_1 rfl ⟨by decide, by decide⟩ ?_
  refine x_putIG (kf := 0) tyX12 d_M_worth_2 rfl rfl rfl in_M f_M_217 tyX12_ok nmX12 (by decide +kernel) rfl ?_
  refine x_aload_n d_M_worth_5 rfl rfl ?_
  refine x_iload d_M_worth_6 rfl ?_
  refine x_V1 d_M_worth_8 e_M_worth_M_isFire ⟨rfl, rfl, Nat.zero_le _, Nat.zero_le _⟩ rfl rfl rfl rfl (Nat.le_of_ble_eq_true rfl) (s_isFire hh r _) ?_
  refine x_if_eq (22) d_M_worth_11 (by decide) (fun c1 => ?_) (fun c1 => ?_)
  · exact one (Or.inl c1)
  · refine x_iload d_M_worth_14 rfl ?_
    refine x_S1 d_M_worth_16 e_M_worth_M_isRow ⟨rfl, rfl, Nat.zero_le _, Nat.zero_le _⟩ rfl rfl (Nat.le_of_ble_eq_true rfl) (s_isRow _ _) ?_
    refine x_if_ne (28) d_M_worth_19 (by decide) (fun c2 => ?_) (fun c2 => ?_)
    · have n1 : ¬ (f_wi f (-1) (h.2 2 - 1) = 0 ∨ f_wi row 0 3 = 0) := fun z => by rcases z with z | z <;> omega
      have two : (f_co a b k = 0 ∨ f_wi by' 0 20 = 0) → x_A y_M_worth 45 [some oM, some (xI a), some (xI b), some (xI k), some (xI f), some (xI by'), some (xI row), none] [] (S0, up G o_M 0 0) 0 0 Q := by
        intro z
        refine x_aload_n d_M_worth_45 rfl rfl ?_
        refine x_iconst (2) d_M_worth_46 rfl ⟨by decide, by decide⟩ ?_
        refine x_V1 d_M_worth_47 e_M_worth_M_fails ⟨rfl, rfl, Nat.zero_le _, Nat.zero_le _⟩ rfl rfl rfl rfl (Nat.le_of_ble_eq_true rfl) (s_fails (up G o_M 0 0) 2) ?_
        refine x_ireturn d_M_worth_50 rfl ?_ (Nat.zero_le _) (Nat.zero_le _)
        exact no 2 (by decide) (by unfold c_wor; rw [if_neg n1, if_pos z])
      refine x_iload_n d_M_worth_28 rfl rfl ?_
      refine x_iload_n d_M_worth_29 rfl rfl ?_
      refine x_iload_n d_M_worth_30 rfl rfl ?_
      refine x_S1 d_M_worth_31 e_M_worth_M_isCourse ⟨rfl, rfl, Nat.zero_le _, Nat.zero_le _⟩ rfl rfl (Nat.le_of_ble_eq_true rfl) (s_isCourse _ _ _ _) ?_
      refine x_if_eq (45) d_M_worth_34 (by decide) (fun c3 => ?_) (fun c3 => ?_)
      · exact two (Or.inl c3)
      · refine x_iload d_M_worth_37 rfl ?_
        refine x_S1 d_M_worth_39 e_M_worth_M_isMinute ⟨rfl, rfl, Nat.zero_le _, Nat.zero_le _⟩ rfl rfl (Nat.le_of_ble_eq_true rfl) (s_isMinute _ _) ?_
        refine x_if_ne (51) d_M_worth_42 (by decide) (fun c4 => ?_) (fun c4 => ?_)
        · have n2 : ¬ (f_co a b k = 0 ∨ f_wi by' 0 20 = 0) := fun z => by rcases z with z | z <;> omega
          have q1 := f_wi_1 c1
          have q2 := f_wi_1 c2
          have q4 := f_wi_1 c4
          obtain ⟨x, rfl⟩ : ∃ x : Nat, row = x := ⟨row.toNat, by omega⟩
          obtain ⟨y, rfl⟩ : ∃ y : Nat, by' = y := ⟨by'.toNat, by omega⟩
          have eC : c_wor h G a b k f y x = if G m_rSort x = -1 then 3 else if G m_rMany x ≤ y then 4 else 0 := by
            unfold c_wor
            rw [if_neg n1, if_neg n2, Int.toNat_natCast]
          refine x_aload_n d_M_worth_51 rfl rfl ?_
          refine x_getF (kf := 80) d_M_worth_52 rfl rfl rfl in_M f_M_208 ?_
          refine x_iload d_M_worth_55 rfl ?_
          refine x_ialdN (x) d_M_worth_57 rfl (by omega) (by omega) ?_
          rw [up_cell (by decide)]
          refine x_iconst (-1) d_M_worth_58 rfl ⟨by decide, by decide⟩ ?_
          refine x_icmp_ne (68) d_M_worth_59 (by decide) (fun c5 => ?_) (fun c5 => ?_)
          · rw [if_neg c5] at eC
            refine x_aload_n d_M_worth_68 rfl rfl ?_
            refine x_getF (kf := 81) d_M_worth_69 rfl rfl rfl in_M f_M_211 ?_
            refine x_iload d_M_worth_72 rfl ?_
            refine x_ialdN (x) d_M_worth_74 rfl (by omega) (by omega) ?_
            rw [up_cell (by decide)]
            refine x_iload d_M_worth_75 rfl ?_
            refine x_icmp_gt (86) d_M_worth_77 (by decide) (fun c6 => ?_) (fun c6 => ?_)
            · rw [if_neg (by omega)] at eC
              have hcc : -1 ≤ ((a, b, k, f) : CC).2.2.2 ∧ ((a, b, k, f) : CC).2.2.2 < h.2 2 := by show -1 ≤ f ∧ f < _; omega
              refine x_aload_n d_M_worth_86 rfl rfl ?_
              refine x_iload_n d_M_worth_87 rfl rfl ?_
              refine x_iload_n d_M_worth_88 rfl rfl ?_
              refine x_iload_n d_M_worth_89 rfl rfl ?_
              refine x_iload d_M_worth_90 rfl ?_
              refine x_VQ d_M_worth_92 e_M_worth_M_burns ⟨rfl, rfl, Nat.zero_le _, Nat.zero_le _⟩ rfl rfl rfl rfl (Nat.le_of_ble_eq_true rfl) (s_burns hh r (a, b, k, f) hcc) (fun v τ hv => ?_)
              obtain ⟨rfl, G1, rfl, f1, sm⟩ := hv
              show x_A y_M_worth 95 [some oM, some (xI a), some (xI b), some (xI k), some (xI f), some (xI (y : Int)), some (xI (x : Int)), none] [] (S0, G1) 0 0 Q
              have en : G1 m_numbers = G m_numbers := (f1 m_numbers (Or.inr (by decide))).trans (up_cell (by decide))
              refine x_iconst (0) d_M_worth_95 rfl ⟨by decide, by decide⟩ ?_
              refine x_istore d_M_worth_96 (by decide) ?_
              dsimp only [x_st1, x_st2, x_kill, List.set, List.getElem?_cons_zero, List.getElem?_cons_succ]
              have all : ∀ G', (∀ z, z ≠ m_sides → G' z = G1 z) → (∀ m, m < 0 → G' m_sides m = w32 (x_land (G m_numbers (30 * x + m)) 65535)) → x_A y_M_worth 98 [some oM, some (xI a), some (xI b), some (xI k), some (xI f), some (xI (y : Int)), some (xI (x : Int)), some (xI ((0 : Nat) : Int))] [] (S0, G') 0 0 Q := by
                refine x_up_to (P := fun n => ∀ G', (∀ z, z ≠ m_sides → G' z = G1 z) → (∀ m, m < n → G' m_sides m = w32 (x_land (G m_numbers (30 * x + m)) 65535)) → x_A y_M_worth 98 [some oM, some (xI a), some (xI b), some (xI k), some (xI f), some (xI (y : Int)), some (xI (x : Int)), some (xI (n : Int))] [] (S0, G') 0 0 Q) 0 (y + 1) (Nat.zero_le _) ?_ (fun n _ hn k1 => ?_)
                · intro G2 g1 g2
                  have p2 : pFrame G1 G2 := ⟨fun z _ h2 => g1 z (by intro q; subst q; revert h2; decide), fun k _ => by rw [g1 o_M (by decide)]⟩
                  have r2 := (f1.p.tr p2).rep r
                  refine x_iload d_M_worth_98 rfl ?_
                  refine x_iload d_M_worth_100 rfl ?_
                  refine x_icmp_gt (136) d_M_worth_102 (by decide) (fun c7 => ?_) (fun c7 => ?_)
                  · refine x_aload_n d_M_worth_136 rfl rfl ?_
                    refine x_iload d_M_worth_137 rfl ?_
                    refine x_VQ d_M_worth_139 e_M_worth_M_worthOf ⟨rfl, rfl, Nat.zero_le _, Nat.zero_le _⟩ rfl rfl rfl rfl (Nat.le_of_ble_eq_true rfl) (s_worthOf hh r2 y (by omega)) (fun v τ hv => ?_)
                    obtain ⟨rfl, V, rfl, hv⟩ := hv
                    show x_A y_M_worth 142 [some oM, some (xI a), some (xI b), some (xI k), some (xI f), some (xI (y : Int)), some (xI (x : Int)), some (xI ((y + 1 : Nat) : Int))] [xI V] (S0, G2) 0 0 Q
                    refine x_ireturn d_M_worth_142 rfl ?_ (Nat.zero_le _) (Nat.zero_le _)
                    rw [← hQ]
                    refine ⟨_, rfl, V, by rw [eC]; exact ⟨G2, rfl, f1.p.tr p2, rfl⟩, fun z => absurd eC z, fun _ => ⟨f_in G2, fun n hn => ?_, ?_⟩⟩
                    · rw [Int.toNat_natCast] at hn ⊢
                      unfold f_in f_rS
                      rw [g2 (n / 16) (by omega)]
                    · rw [Int.toNat_natCast]
                      rcases hv with hv | hv
                      · exact Or.inl hv
                      · refine Or.inr ⟨hv.1, hv.2.trans (f_wv_sh (fun m p hm hp => ?_))⟩
                        show decide (_ < G2 m_mixed _) = decide (_ < if _ then _ else _)
                        rw [if_pos ⟨by omega, by omega⟩, g1 m_mixed (by decide), ((sm.1 m (by omega)).1 p (by omega)).2]
                  · omega
                · intro G2 g1 g2
                  have en2 : G2 m_numbers = G m_numbers := (g1 m_numbers (by decide)).trans en
                  refine x_iload d_M_worth_98 rfl ?_
                  refine x_iload d_M_worth_100 rfl ?_
                  refine x_icmp_gt (136) d_M_worth_102 (by decide) (fun c7 => ?_) (fun c7 => ?_)
                  · omega
                  · refine x_aload_n d_M_worth_105 rfl rfl ?_
                    refine x_getF (kf := 69) d_M_worth_106 rfl rfl rfl in_M f_M_174 ?_
                    refine x_iload d_M_worth_109 rfl ?_
                    refine x_aload_n d_M_worth_111 rfl rfl ?_
                    refine x_getF (kf := 82) d_M_worth_112 rfl rfl rfl in_M f_M_214 ?_
                    refine x_bipush (30) d_M_worth_115 rfl ⟨by decide, by decide⟩ ?_
                    refine x_iload d_M_worth_117 rfl ?_
                    refine x_imulN d_M_worth_119 (by omega) (by omega) ?_
                    refine x_iload d_M_worth_120 rfl ?_
                    refine x_iaddN d_M_worth_122 (by omega) (by omega) ?_
                    refine x_laldN (30 * x + n) d_M_worth_123 rfl (by omega) (by omega) ?_
                    rw [en2]
                    refine x_ldc2 (65535) d_M_worth_124 k_M_430 ⟨by decide, by decide⟩ ?_
                    refine x_land_ d_M_worth_127 ?_
                    refine x_l2i d_M_worth_128 ?_
                    refine x_iastN (n) d_M_worth_129 rfl (by omega) (by omega) ?_
                    refine x_iincN d_M_worth_130 rfl (by decide) (by omega) (by omega) ?_
                    dsimp only [x_st1, x_st2, x_kill, List.set, List.getElem?_cons_zero, List.getElem?_cons_succ]
                    refine x_goto (98) d_M_worth_133 (by decide) ?_
                    refine k1 _ (fun z hz => (up_cell hz).trans (g1 z hz)) (fun m hm => ?_)
                    rcases Nat.lt_succ_iff_lt_or_eq.1 hm with z | z
                    · rw [up_ne (by omega)]; exact g2 m z
                    · subst z; exact up_same _ _ _ _
              exact all G1 (fun z _ => rfl) (fun m hm => absurd hm (Nat.not_lt_zero m))
            · rw [if_pos (by omega)] at eC
              refine x_aload_n d_M_worth_80 rfl rfl ?_
              refine x_iconst (4) d_M_worth_81 rfl ⟨by decide, by decide⟩ ?_
              refine x_V1 d_M_worth_82 e_M_worth_M_fails ⟨rfl, rfl, Nat.zero_le _, Nat.zero_le _⟩ rfl rfl rfl rfl (Nat.le_of_ble_eq_true rfl) (s_fails (up G o_M 0 0) 4) ?_
              refine x_ireturn d_M_worth_85 rfl ?_ (Nat.zero_le _) (Nat.zero_le _)
              exact no 4 (by decide) eC
          · rw [if_pos c5] at eC
            refine x_aload_n d_M_worth_62 rfl rfl ?_
            refine x_iconst (3) d_M_worth_63 rfl ⟨by decide, by decide⟩ ?_
            refine x_V1 d_M_worth_64 e_M_worth_M_fails ⟨rfl, rfl, Nat.zero_le _, Nat.zero_le _⟩ rfl rfl rfl rfl (Nat.le_of_ble_eq_true rfl) (s_fails (up G o_M 0 0) 3) ?_
            refine x_ireturn d_M_worth_67 rfl ?_ (Nat.zero_le _) (Nat.zero_le _)
            exact no 3 (by decide) eC
        · exact two (Or.inr c4)
    · exact one (Or.inr c2)
