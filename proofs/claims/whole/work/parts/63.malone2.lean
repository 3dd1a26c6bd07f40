/-! the reference: goesAlone -/
def a_st (h : HH) (D : Nat → T3) (mix : Int) (p m : Nat) : T3 :=
  a_try (if 0 < f_wide h p (f_made h (h.2 6)) (h.2 6) then a_try (1000000000000, 21, -1) 0 mix ((m : Int) + 1) else (1000000000000, 21, -1)) 1 (mix + (D (8 * m + p + 8)).1) (D (8 * m + p + 8)).2.1
def a_ix (h : HH) (p m w : Nat) : Nat := 8 * ((m : Int) + h.1 1 w 2 * h.1 9 0 1).toNat + (f_oth h p w).toNat
def a_wy (h : HH) (D : Nat → T3) (mix : Int) (p m : Nat) : Nat → T3
  | 0 => a_st h D mix p m
  | w + 1 => if f_at h p w = true ∧ (m : Int) + h.1 1 w 2 * h.1 9 0 1 ≤ 20 then a_try (a_wy h D mix p m w) (2 + w) (mix + (D (a_ix h p m w)).1) (D (a_ix h p m w)).2.1 else a_wy h D mix p m w
def a_go (h : HH) (D : Nat → T3) (sh : Bool) (mix : Int) (p m : Nat) : T3 := if sh = true ∨ m = 20 then (1000000000000, 21, -1) else a_wy h D mix p m (h.2 1)
/-- what later minutes hold -/
def a_ok (h : HH) (D : Nat → T3) (m : Nat) (G : Nat → Nat → Int) : Prop := ∀ n q, m < n → n ≤ 20 → q < h.2 0 → g3 G (8 * n + q) = D (8 * n + q) ∧ 0 ≤ (D (8 * n + q)).1 ∧ (D (8 * n + q)).1 ≤ 1000000000000
theorem s_goesAlone {h : HH} {G : Nat → Nat → Int} (hh : Hwf h) (r : mRep h G) (D : Nat → T3) (p m : Nat) (hp : p < h.2 0) (hm : m ≤ 20) (hD : a_ok h D m G) (hx : 0 ≤ G m_mixed (8 * m + p) ∧ G m_mixed (8 * m + p) ≤ 2000000) : x_M y_M_goesAlone [oM, xI (p : Int), xI (m : Int)] (S0, G) (fun r τ => ∃ u, r = .inl u ∧ mTried (8 * m + p) (a_go h D (decide (h.1 9 0 0 < G m_mixed (8 * m + p))) (G m_mixed (8 * m + p)) p m) G u τ) := by
  have bb := hh.1
  have dl := hh.2.2.2.2.2.2.2.2.2.2
  refine x_of 4 rfl (Nat.le_of_ble_eq_true rfl) ?_
  show x_A y_M_goesAlone 0 [some oM, some (xI (p : Int)), some (xI (m : Int)), none, none, none, none] [] (S0, G) 0 0 _
  generalize hmix : G m_mixed (8 * m + p) = mix at *
  generalize hZ : a_go h D (decide (h.1 9 0 0 < mix)) mix p m = Z
  generalize hQ : (fun (r : XRes) (τ : XM) => ∃ u, r = .inl u ∧ mTried (8 * m + p) Z G u τ) = Q
  refine x_bipush (8) d_M_goesAlone_0 rfl ⟨by decide, by decide⟩ ?_
  refine x_iload_n d_M_goesAlone_2 rfl rfl ?_
  refine x_imulN d_M_goesAlone_3 (by omega) (by omega) ?_
  refine x_iload_n d_M_goesAlone_4 rfl rfl ?_
  refine x_iaddN d_M_goesAlone_5 (by omega) (by omega) ?_
  refine x_istore_n d_M_goesAlone_6 rfl (by decide) ?_
  dsimp only [x_st1, x_st2, x_kill, List.set, List.getElem?_cons_zero, List.getElem?_cons_succ]
  rw [show (8 : Int) * (m : Int) + (p : Int) = ((8 * m + p : Nat) : Int) by omega]
  refine x_aload_n d_M_goesAlone_7 rfl rfl ?_
  refine x_getF (kf := 75) d_M_goesAlone_8 rfl rfl rfl in_M f_M_192 ?_
  refine x_iload_n d_M_goesAlone_11 rfl rfl ?_
  refine x_ldc2 (1000000000000) d_M_goesAlone_12 k_M_466 ⟨by decide, by decide⟩ ?_
  refine x_lastN (8 * m + p) d_M_goesAlone_15 rfl (by omega) (by omega) ?_
  refine x_aload_n d_M_goesAlone_16 rfl rfl ?_
  refine x_getF (kf := 76) d_M_goesAlone_17 rfl rfl rfl in_M f_M_196 ?_
  refine x_iload_n d_M_goesAlone_20 rfl rfl ?_
  refine x_bipush (21) d_M_goesAlone_21 rfl ⟨by decide, by decide⟩ ?_
  refine x_iastN (8 * m + p) d_M_goesAlone_23 rfl (by omega) (by omega) ?_
  refine x_aload_n d_M_goesAlone_24 rfl rfl ?_
  refine x_getF (kf := 77) d_M_goesAlone_25 rfl rfl rfl in_M f_M_199 ?_
  refine x_iload_n d_M_goesAlone_28 rfl rfl ?_
  refine x_iconst (-1) d_M_goesAlone_29 rfl ⟨by decide, by decide⟩ ?_
  refine x_iastN (8 * m + p) d_M_goesAlone_30 rfl (by omega) (by omega) ?_
  obtain ⟨p1, p2⟩ := aF.put (8 * m + p) G 1000000000000 21 (-1)
  generalize up (up (up G m_dose (8 * m + p) 1000000000000) m_outMinute (8 * m + p) 21) m_deed (8 * m + p) (-1) = G1 at *
  have hall : ∀ G', aF (8 * m + p) G G' → mRep h G' ∧ G' m_mixed (8 * m + p) = mix ∧ ∀ n q, m < n → n ≤ 20 → q < h.2 0 → G' m_dose (8 * n + q) = (D (8 * n + q)).1 ∧ G' m_outMinute (8 * n + q) = (D (8 * n + q)).2.1 ∧ 0 ≤ (D (8 * n + q)).1 ∧ (D (8 * n + q)).1 ≤ 1000000000000 := by
    intro G' f
    refine ⟨f.p.rep r, by rw [f.1 m_mixed (by decide) (by decide) (by decide)]; exact hmix, fun n q h1 h2 h3 => ?_⟩
    obtain ⟨d1, d2, d3⟩ := hD n q h1 h2 h3
    have e := (f.2 (8 * n + q) (by omega)).trans d1
    exact ⟨congrArg (fun z : T3 => z.1) e, congrArg (fun z : T3 => z.2.1) e, d2, d3⟩
  have done : ∀ G', aF (8 * m + p) G G' → g3 G' (8 * m + p) = Z → Q (.inl none) (S0, G') := by
    intro G' f e
    rw [← hQ]
    exact ⟨_, rfl, rfl, G', rfl, f, e⟩
  obtain ⟨r1, x1, -⟩ := hall G1 p1
  refine x_aload_n d_M_goesAlone_31 rfl rfl ?_
  refine x_iload_n d_M_goesAlone_32 rfl rfl ?_
  refine x_iload_n d_M_goesAlone_33 rfl rfl ?_
  refine x_V1 d_M_goesAlone_34 e_M_goesAlone_M_isShut ⟨rfl, rfl, Nat.zero_le _, Nat.zero_le _⟩ rfl rfl rfl rfl (Nat.le_of_ble_eq_true rfl) (s_isShut r1 p m (by omega) hm) ?_
  rw [x1]
  refine x_if_ne (46) d_M_goesAlone_37 (by decide) (fun c1 => ?_) (fun c1 => ?_)
  · have e : Z = (1000000000000, 21, -1) := by rw [← hZ]; unfold a_go; rw [if_pos (Or.inl (b2i_1 c1))]
    refine x_return d_M_goesAlone_46 rfl ?_ (Nat.zero_le _) (Nat.zero_le _)
    exact done G1 p1 (by rw [e]; exact p2)
  · have c1 := b2i_0 c1
    refine x_iload_n d_M_goesAlone_40 rfl rfl ?_
    refine x_bipush (20) d_M_goesAlone_41 rfl ⟨by decide, by decide⟩ ?_
    refine x_icmp_ne (47) d_M_goesAlone_43 (by decide) (fun c2 => ?_) (fun c2 => ?_)
    · have eZ : Z = a_wy h D mix p m (h.2 1) := by
        rw [← hZ]; unfold a_go
        rw [if_neg (fun z => by rcases z with z | z; (rw [c1] at z; cases z); omega)]
      have D8 : ∀ G', aF (8 * m + p) G G' → G' m_dose (8 * m + p + 8) = (D (8 * m + p + 8)).1 ∧ G' m_outMinute (8 * m + p + 8) = (D (8 * m + p + 8)).2.1 ∧ 0 ≤ (D (8 * m + p + 8)).1 ∧ (D (8 * m + p + 8)).1 ≤ 1000000000000 := by
        intro G' f
        have := (hall G' f).2.2 (m + 1) p (by omega) (by omega) hp
        rwa [show 8 * (m + 1) + p = 8 * m + p + 8 by omega] at this
      -- the ways
      have ways : ∀ G', aF (8 * m + p) G G' → g3 G' (8 * m + p) = a_wy h D mix p m 0 → x_A y_M_goesAlone 110 [some oM, some (xI (p : Int)), some (xI (m : Int)), some (xI ((8 * m + p : Nat) : Int)), some (xI ((0 : Nat) : Int)), none, none] [] (S0, G') 0 0 Q := by
        refine x_up_to (P := fun w => ∀ G', aF (8 * m + p) G G' → g3 G' (8 * m + p) = a_wy h D mix p m w → x_A y_M_goesAlone 110 [some oM, some (xI (p : Int)), some (xI (m : Int)), some (xI ((8 * m + p : Nat) : Int)), some (xI (w : Int)), none, none] [] (S0, G') 0 0 Q) 0 (h.2 1) (Nat.zero_le _) ?_ (fun w _ hw k => ?_)
        · intro G2 f2 e
          have e1 := (hall G2 f2).1.1.2.1
          refine x_iload d_M_goesAlone_110 rfl ?_
          refine x_aload_n d_M_goesAlone_112 rfl rfl ?_
          refine x_getIG (kf := 2) d_M_goesAlone_113 rfl rfl rfl in_M f_M_250 ?_
          refine x_icmp_ge (207) d_M_goesAlone_116 (by decide) (fun c3 => ?_) (fun c3 => ?_)
          · refine x_return d_M_goesAlone_207 rfl ?_ (Nat.zero_le _) (Nat.zero_le _)
            exact done G2 f2 (by rw [eZ]; exact e)
          · omega
        · intro G2 f2 e
          obtain ⟨r2, x2, d2⟩ := hall G2 f2
          have e1 := r2.1.2.1
          have e9 := r2.2.2.2.2.2.2.2.2.2.2
          obtain ⟨-, -, e3, -, -⟩ := r2.2.2.1 w hw
          have g := hh.2.2.1 w hw
          have m1 : 1 * 1 ≤ h.1 1 w 2 * h.1 9 0 1 := Int.mul_le_mul (by omega) (by omega) (by omega) (by omega)
          have m2 : h.1 1 w 2 * h.1 9 0 1 ≤ 4 * 3 := Int.mul_le_mul (by omega) (by omega) (by omega) (by omega)
          have st : a_wy h D mix p m (w + 1) = if f_at h p w = true ∧ (m : Int) + h.1 1 w 2 * h.1 9 0 1 ≤ 20 then a_try (a_wy h D mix p m w) (2 + w) (mix + (D (a_ix h p m w)).1) (D (a_ix h p m w)).2.1 else a_wy h D mix p m w := rfl
          have skip : ¬ (f_at h p w = true ∧ (m : Int) + h.1 1 w 2 * h.1 9 0 1 ≤ 20) → x_A y_M_goesAlone 201 [some oM, some (xI (p : Int)), some (xI (m : Int)), some (xI ((8 * m + p : Nat) : Int)), some (xI (w : Int)), none, none] [] (S0, G2) 0 0 Q := by
            intro nz
            have k := k G2 f2 (by rw [st, if_neg nz]; exact e)
            refine x_iincN d_M_goesAlone_201 rfl (by decide) (by omega) (by omega) ?_
            dsimp only [x_st1, x_st2, x_kill, List.set, List.getElem?_cons_zero, List.getElem?_cons_succ]
            refine x_goto (110) d_M_goesAlone_204 (by decide) ?_
            exact k
          refine x_iload d_M_goesAlone_110 rfl ?_
          refine x_aload_n d_M_goesAlone_112 rfl rfl ?_
          refine x_getIG (kf := 2) d_M_goesAlone_113 rfl rfl rfl in_M f_M_250 ?_
          refine x_icmp_ge (207) d_M_goesAlone_116 (by decide) (fun c3 => ?_) (fun c3 => ?_)
          · omega
          · refine x_iload_n d_M_goesAlone_119 rfl rfl ?_
            refine x_aload_n d_M_goesAlone_120 rfl rfl ?_
            refine x_getF (kf := 20) d_M_goesAlone_121 rfl rfl rfl in_M f_M_38 ?_
            refine x_iload d_M_goesAlone_124 rfl ?_
            refine x_ialdN (w) d_M_goesAlone_126 rfl (by omega) (by omega) ?_
            refine x_aload_n d_M_goesAlone_127 rfl rfl ?_
            refine x_getIG (kf := 11) d_M_goesAlone_128 rfl rfl rfl in_M f_M_13 ?_
            rw [e3, e9.2.1]
            refine x_imulN d_M_goesAlone_131 (by omega) (by omega) ?_
            refine x_iaddN d_M_goesAlone_132 (by omega) (by omega) ?_
            refine x_istore d_M_goesAlone_133 (by decide) ?_
            dsimp only [x_st1, x_st2, x_kill, List.set, List.getElem?_cons_zero, List.getElem?_cons_succ]
            refine x_aload_n d_M_goesAlone_135 rfl rfl ?_
            refine x_iload_n d_M_goesAlone_136 rfl rfl ?_
            refine x_iload d_M_goesAlone_137 rfl ?_
            refine x_V1 d_M_goesAlone_139 e_M_goesAlone_M_isAt ⟨rfl, rfl, Nat.zero_le _, Nat.zero_le _⟩ rfl rfl rfl rfl (Nat.le_of_ble_eq_true rfl) (s_isAt hh r2 p w hw) ?_
            refine x_if_eq (201) d_M_goesAlone_142 (by decide) (fun c4 => ?_) (fun c4 => ?_)
            · have c4 := b2i_0 c4
              exact x_sub (fun j v hj => by
                match j, hj with
                | 0, hj => exact hj
                | 1, hj => exact hj
                | 2, hj => exact hj
                | 3, hj => exact hj
                | 4, hj => exact hj
                | 5, hj => cases hj
                | 6, hj => exact hj
                | j + 7, hj => cases hj) (skip (fun z => by rw [c4] at z; exact absurd z.1 (by decide)))
            · have c4 := b2i_1 c4
              refine x_iload d_M_goesAlone_145 rfl ?_
              refine x_bipush (20) d_M_goesAlone_147 rfl ⟨by decide, by decide⟩ ?_
              refine x_icmp_le (155) d_M_goesAlone_149 (by decide) (fun c5 => ?_) (fun c5 => ?_)
              · have ob := f_oth_bd hh p hw
                obtain ⟨x, hx'⟩ : ∃ x : Nat, (m : Int) + h.1 1 w 2 * h.1 9 0 1 = x := ⟨((m : Int) + h.1 1 w 2 * h.1 9 0 1).toNat, by omega⟩
                obtain ⟨o, ho⟩ : ∃ o : Nat, f_oth h p w = o := ⟨(f_oth h p w).toNat, by omega⟩
                have ei : a_ix h p m w = 8 * x + o := by unfold a_ix; rw [hx', ho, Int.toNat_natCast, Int.toNat_natCast]
                obtain ⟨j1, j2, j3, j4⟩ := d2 x o (by omega) (by omega) (by omega)
                rw [if_pos ⟨c4, c5⟩, ei] at st
                rw [hx']
                refine x_bipush (8) d_M_goesAlone_155 rfl ⟨by decide, by decide⟩ ?_
                refine x_iload d_M_goesAlone_157 rfl ?_
                refine x_imulN d_M_goesAlone_159 (by omega) (by omega) ?_
                refine x_aload_n d_M_goesAlone_160 rfl rfl ?_
                refine x_iload_n d_M_goesAlone_161 rfl rfl ?_
                refine x_iload d_M_goesAlone_162 rfl ?_
                refine x_V1 d_M_goesAlone_164 e_M_goesAlone_M_otherEnd ⟨rfl, rfl, Nat.zero_le _, Nat.zero_le _⟩ rfl rfl rfl rfl (Nat.le_of_ble_eq_true rfl) (s_otherEnd hh r2 p w hw) ?_
                rw [ho]
                refine x_iaddN d_M_goesAlone_167 (by omega) (by omega) ?_
                refine x_istore d_M_goesAlone_168 (by decide) ?_
                dsimp only [x_st1, x_st2, x_kill, List.set, List.getElem?_cons_zero, List.getElem?_cons_succ]
                refine x_aload_n d_M_goesAlone_170 rfl rfl ?_
                refine x_iload_n d_M_goesAlone_171 rfl rfl ?_
                refine x_iconst (2) d_M_goesAlone_172 rfl ⟨by decide, by decide⟩ ?_
                refine x_iload d_M_goesAlone_173 rfl ?_
                refine x_iaddN d_M_goesAlone_175 (by omega) (by omega) ?_
                refine x_aload_n d_M_goesAlone_176 rfl rfl ?_
                refine x_getF (kf := 54) d_M_goesAlone_177 rfl rfl rfl in_M f_M_132 ?_
                refine x_iload_n d_M_goesAlone_180 rfl rfl ?_
                refine x_ialdN (8 * m + p) d_M_goesAlone_181 rfl (by omega) (by omega) ?_
                rw [x2]
                refine x_i2l d_M_goesAlone_182 ?_
                refine x_aload_n d_M_goesAlone_183 rfl rfl ?_
                refine x_getF (kf := 75) d_M_goesAlone_184 rfl rfl rfl in_M f_M_192 ?_
                refine x_iload d_M_goesAlone_187 rfl ?_
                refine x_laldN (8 * x + o) d_M_goesAlone_189 rfl (by omega) (by omega) ?_
                rw [j1]
                refine x_ladd d_M_goesAlone_190 ?_
                rw [w64_id (by omega) (by omega)]
                refine x_aload_n d_M_goesAlone_191 rfl rfl ?_
                refine x_getF (kf := 76) d_M_goesAlone_192 rfl rfl rfl in_M f_M_196 ?_
                refine x_iload d_M_goesAlone_195 rfl ?_
                refine x_ialdN (8 * x + o) d_M_goesAlone_197 rfl (by omega) (by omega) ?_
                rw [j2]
                refine x_VQ d_M_goesAlone_198 e_M_goesAlone_M_tries ⟨rfl, rfl, Nat.zero_le _, Nat.zero_le _⟩ rfl rfl rfl rfl (Nat.le_of_ble_eq_true rfl) (s_tries G2 (i := 8 * m + p) (by omega) (2 + (w : Int)) (mix + (D (8 * x + o)).1) (D (8 * x + o)).2.1) (fun v τ hv => ?_)
                obtain ⟨rfl, G3, rfl, f3, e3'⟩ := hv
                rw [e] at e3'
                have k := k G3 (f2.tr f3) (by rw [st]; exact e3')
                show x_A y_M_goesAlone 201 [some oM, some (xI (p : Int)), some (xI (m : Int)), some (xI ((8 * m + p : Nat) : Int)), some (xI (w : Int)), some (xI (x : Int)), some (xI (8 * (x : Int) + (o : Int)))] [] (S0, G3) 0 0 Q
                refine x_iincN d_M_goesAlone_201 rfl (by decide) (by omega) (by omega) ?_
                dsimp only [x_st1, x_st2, x_kill, List.set, List.getElem?_cons_zero, List.getElem?_cons_succ]
                refine x_goto (110) d_M_goesAlone_204 (by decide) ?_
                exact x_sub (fun j v hj => by
                  match j, hj with
                  | 0, hj => exact hj
                  | 1, hj => exact hj
                  | 2, hj => exact hj
                  | 3, hj => exact hj
                  | 4, hj => exact hj
                  | 5, hj => cases hj
                  | 6, hj => cases hj
                  | j + 7, hj => cases hj) k
              · refine x_goto (201) d_M_goesAlone_152 (by decide) ?_
                exact x_sub (fun j v hj => by
                  match j, hj with
                  | 0, hj => exact hj
                  | 1, hj => exact hj
                  | 2, hj => exact hj
                  | 3, hj => exact hj
                  | 4, hj => exact hj
                  | 5, hj => cases hj
                  | 6, hj => exact hj
                  | j + 7, hj => cases hj) (skip (fun z => by omega))
      have stay : ∀ G' z, aF (8 * m + p) G G' → g3 G' (8 * m + p) = z → a_st h D mix p m = a_try z 1 (mix + (D (8 * m + p + 8)).1) (D (8 * m + p + 8)).2.1 → x_A y_M_goesAlone 75 [some oM, some (xI (p : Int)), some (xI (m : Int)), some (xI ((8 * m + p : Nat) : Int)), none, none, none] [] (S0, G') 0 0 Q := by
        intro G2 z f2 e ez
        obtain ⟨r2, x2, -⟩ := hall G2 f2
        obtain ⟨j1, j2, j3, j4⟩ := D8 G2 f2
        refine x_aload_n d_M_goesAlone_75 rfl rfl ?_
        refine x_iload_n d_M_goesAlone_76 rfl rfl ?_
        refine x_iconst (1) d_M_goesAlone_77 rfl ⟨by decide, by decide⟩ ?_
        refine x_aload_n d_M_goesAlone_78 rfl rfl ?_
        refine x_getF (kf := 54) d_M_goesAlone_79 rfl rfl rfl in_M f_M_132 ?_
        refine x_iload_n d_M_goesAlone_82 rfl rfl ?_
        refine x_ialdN (8 * m + p) d_M_goesAlone_83 rfl (by omega) (by omega) ?_
        rw [x2]
        refine x_i2l d_M_goesAlone_84 ?_
        refine x_aload_n d_M_goesAlone_85 rfl rfl ?_
        refine x_getF (kf := 75) d_M_goesAlone_86 rfl rfl rfl in_M f_M_192 ?_
        refine x_iload_n d_M_goesAlone_89 rfl rfl ?_
        refine x_bipush (8) d_M_goesAlone_90 rfl ⟨by decide, by decide⟩ ?_
        refine x_iaddN d_M_goesAlone_92 (by omega) (by omega) ?_
        refine x_laldN (8 * m + p + 8) d_M_goesAlone_93 rfl (by omega) (by omega) ?_
        rw [j1]
        refine x_ladd d_M_goesAlone_94 ?_
        rw [w64_id (by omega) (by omega)]
        refine x_aload_n d_M_goesAlone_95 rfl rfl ?_
        refine x_getF (kf := 76) d_M_goesAlone_96 rfl rfl rfl in_M f_M_196 ?_
        refine x_iload_n d_M_goesAlone_99 rfl rfl ?_
        refine x_bipush (8) d_M_goesAlone_100 rfl ⟨by decide, by decide⟩ ?_
        refine x_iaddN d_M_goesAlone_102 (by omega) (by omega) ?_
        refine x_ialdN (8 * m + p + 8) d_M_goesAlone_103 rfl (by omega) (by omega) ?_
        rw [j2]
        refine x_VQ d_M_goesAlone_104 e_M_goesAlone_M_tries ⟨rfl, rfl, Nat.zero_le _, Nat.zero_le _⟩ rfl rfl rfl rfl (Nat.le_of_ble_eq_true rfl) (s_tries G2 (i := 8 * m + p) (by omega) 1 (mix + (D (8 * m + p + 8)).1) (D (8 * m + p + 8)).2.1) (fun v τ hv => ?_)
        obtain ⟨rfl, G3, rfl, f3, e3'⟩ := hv
        rw [e, ← ez] at e3'
        show x_A y_M_goesAlone 107 [some oM, some (xI (p : Int)), some (xI (m : Int)), some (xI ((8 * m + p : Nat) : Int)), none, none, none] [] (S0, G3) 0 0 Q
        refine x_iconst (0) d_M_goesAlone_107 rfl ⟨by decide, by decide⟩ ?_
        refine x_istore d_M_goesAlone_108 (by decide) ?_
        dsimp only [x_st1, x_st2, x_kill, List.set, List.getElem?_cons_zero, List.getElem?_cons_succ]
        exact ways G3 (f2.tr f3) e3'
      refine x_aload_n d_M_goesAlone_47 rfl rfl ?_
      refine x_iload_n d_M_goesAlone_48 rfl rfl ?_
      refine x_aload_n d_M_goesAlone_49 rfl rfl ?_
      refine x_V1 d_M_goesAlone_50 e_M_goesAlone_M_made ⟨rfl, rfl, Nat.zero_le _, Nat.zero_le _⟩ rfl rfl rfl rfl (Nat.le_of_ble_eq_true rfl) (s_made hh r1) ?_
      refine x_V1 d_M_goesAlone_53 e_M_goesAlone_M_wideOut ⟨rfl, rfl, Nat.zero_le _, Nat.zero_le _⟩ rfl rfl rfl rfl (Nat.le_of_ble_eq_true rfl) (s_wideOut hh r1 p hp (f_made h (h.2 6))) ?_
      refine x_if_le (75) d_M_goesAlone_56 (by decide) (fun c3 => ?_) (fun c3 => ?_)
      · exact stay G1 _ p1 p2 (by unfold a_st; rw [if_neg (by omega)])
      · refine x_aload_n d_M_goesAlone_59 rfl rfl ?_
        refine x_iload_n d_M_goesAlone_60 rfl rfl ?_
        refine x_iconst (0) d_M_goesAlone_61 rfl ⟨by decide, by decide⟩ ?_
        refine x_aload_n d_M_goesAlone_62 rfl rfl ?_
        refine x_getF (kf := 54) d_M_goesAlone_63 rfl rfl rfl in_M f_M_132 ?_
        refine x_iload_n d_M_goesAlone_66 rfl rfl ?_
        refine x_ialdN (8 * m + p) d_M_goesAlone_67 rfl (by omega) (by omega) ?_
        rw [x1]
        refine x_i2l d_M_goesAlone_68 ?_
        refine x_iload_n d_M_goesAlone_69 rfl rfl ?_
        refine x_iconst (1) d_M_goesAlone_70 rfl ⟨by decide, by decide⟩ ?_
        refine x_iaddN d_M_goesAlone_71 (by omega) (by omega) ?_
        refine x_VQ d_M_goesAlone_72 e_M_goesAlone_M_tries ⟨rfl, rfl, Nat.zero_le _, Nat.zero_le _⟩ rfl rfl rfl rfl (Nat.le_of_ble_eq_true rfl) (s_tries G1 (i := 8 * m + p) (by omega) 0 mix ((m : Int) + 1)) (fun v τ hv => ?_)
        obtain ⟨rfl, G3, rfl, f3, e3'⟩ := hv
        rw [p2] at e3'
        show x_A y_M_goesAlone 75 [some oM, some (xI (p : Int)), some (xI (m : Int)), some (xI ((8 * m + p : Nat) : Int)), none, none, none] [] (S0, G3) 0 0 Q
        exact stay G3 _ (p1.tr f3) e3' (by unfold a_st; rw [if_pos (by omega)])
    · have e : Z = (1000000000000, 21, -1) := by rw [← hZ]; unfold a_go; rw [if_pos (Or.inr (by omega))]
      refine x_return d_M_goesAlone_46 rfl ?_ (Nat.zero_le _) (Nat.zero_le _)
      exact done G1 p1 (by rw [e]; exact p2)
