/-! the reference: layers, from the sink back -/
def lFar (N : NT) (L : Nat → Int) (far : Nat → Int) : Prop :=
  far 337 = 0 ∧ (∀ n, n < 338 → -1 ≤ far n ∧ far n ≤ 337 ∧ (far n = 0 → n = 337)) ∧ (∀ n, n < 338 → 0 < far n → ∃ e, e < 2 * N.1 ∧ te N e = n ∧ 0 < L e ∧ far (he N e) = far n - 1) ∧ ∀ e, e < 2 * N.1 → far (te N e) = -1 → 0 < L e → far (he N e) = -1
/-- so far: many stand in the queue -/
def lQ (N : NT) (L : Nat → Int) (G : Nat → Nat → Int) (many : Nat) (G' : Nat → Nat → Int) : Prop :=
  (∀ i, i ≠ m_far → i ≠ m_queue → G' i = G i) ∧ (∀ j, j < many → ∃ n : Nat, n < 338 ∧ G' m_queue j = n ∧ 0 ≤ G' m_far n ∧ G' m_far n ≤ j) ∧
  su (fun n => if G' m_far n = -1 then 0 else 1) 338 = many ∧ (∀ n : Nat, n < 338 → G' m_far n ≠ -1 → ∃ j, j < many ∧ G' m_queue j = n) ∧
  (G' m_far 337 = 0 ∧ ∀ n, n < 338 → -1 ≤ G' m_far n ∧ (G' m_far n = 0 → n = 337)) ∧
  ∀ n, n < 338 → 0 < G' m_far n → ∃ e, e < 2 * N.1 ∧ te N e = n ∧ 0 < L e ∧ G' m_far (he N e) = G' m_far n - 1
def lDone (N : NT) (L : Nat → Int) (G' : Nat → Nat → Int) (n : Nat) (e : Int) : Prop := ∀ q, q < 2 * N.1 → te N q = n → e < (q : Int) → L (xr q) = 0 ∨ G' m_far (he N q) ≠ -1
theorem cnt_le (f : Nat → Int) (n : Nat) : 0 ≤ su (fun i => if f i = -1 then 0 else 1) n ∧ su (fun i => if f i = -1 then 0 else 1) n ≤ n := by
  induction n with
  | zero => exact ⟨Int.le_refl 0, Int.le_refl 0⟩
  | succ n ih =>
    show 0 ≤ su (fun i => if f i = -1 then 0 else 1) n + (if f n = -1 then 0 else 1) ∧ su (fun i => if f i = -1 then 0 else 1) n + (if f n = -1 then 0 else 1) ≤ _
    split <;> omega
theorem cnt_lt {f : Nat → Int} {n x : Nat} (hx : x < n) (h : f x = -1) : su (fun i => if f i = -1 then 0 else 1) n < n := by
  induction n with
  | zero => omega
  | succ n ih =>
    show su (fun i => if f i = -1 then 0 else 1) n + (if f n = -1 then 0 else 1) < _
    have c := cnt_le f n
    by_cases q : x = n
    · subst q; rw [if_pos h]; omega
    · have := ih (by omega)
      split <;> omega
def mLayer (N : NT) (L : Nat → Int) (G : Nat → Nat → Int) : Option XV → XM → Prop := fun v τ => ∃ G', τ = (S0, G') ∧ (∀ i, i ≠ m_far → i ≠ m_queue → G' i = G i) ∧ lFar N L (G' m_far) ∧ v = some (xI (if G' m_far 336 = -1 then 0 else 1))
theorem te_lt {N : NT} (hw : nWf N) {e : Nat} (h : e < 2 * N.1) : te N e < 338 ∧ he N e < 338 := by
  have := hw.2 (e / 2) (by omega)
  unfold te he
  split <;> exact ⟨by omega, by omega⟩
theorem s_layers {N : NT} {L : Nat → Int} {G : Nat → Nat → Int} (hw : nWf N) (hn : mNet N L G) (hL : ∀ e, e < 2 * N.1 → 0 ≤ L e) : x_M y_M_layers [oM] (S0, G) (fun r τ => ∃ v, r = .inl v ∧ mLayer N L G v τ) := by
  obtain ⟨e1, e2, e3⟩ := hn
  have hK := hw.1
  refine x_of 4 rfl (Nat.le_of_ble_eq_true rfl) ?_
  show x_A y_M_layers 0 [some oM, none, none, none, none] [] (S0, G) 0 0 _
  generalize hQ : (fun (r : XRes) (τ : XM) => ∃ v, r = .inl v ∧ mLayer N L G v τ) = Q
  -- the end
  have fin : ∀ many G', lQ N L G many G' → (∀ j, j < many → ∀ n : Nat, G' m_queue j = n → lDone N L G' n (-1)) → x_A y_M_layers 155 [some oM, none, none, none, none] [] (S0, G') 0 0 Q := by
    intro many G' hq hd
    obtain ⟨q0, q1, q2, q3, q4, q5⟩ := hq
    have lf : lFar N L (G' m_far) := by
      refine ⟨q4.1, fun n hn => ⟨(q4.2 n hn).1, ?_, (q4.2 n hn).2⟩, q5, fun e he1 h1 h2 => ?_⟩
      · by_cases q : G' m_far n = -1
        · omega
        · obtain ⟨j, j1, j2⟩ := q3 n hn q
          obtain ⟨n', n1, n2, n3, n4⟩ := q1 j j1
          have : n' = n := by omega
          subst this
          have := cnt_le (G' m_far) 338
          omega
      · apply Classical.byContradiction
        intro hne
        obtain ⟨j, j1, j2⟩ := q3 (he N e) (te_lt hw he1).2 hne
        rcases hd j j1 (he N e) j2 (xr e) (xr_lt he1) (te_xr N e) (by omega) with z | z
        · rw [xr_xr] at z; omega
        · rw [he_xr] at z; exact z h1
    refine x_aload_n d_M_layers_155 rfl rfl ?_
    refine x_getF (kf := 62) d_M_layers_156 rfl rfl rfl in_M f_M_156 ?_
    refine x_sipush (336) d_M_layers_159 rfl ⟨by decide, by decide⟩ ?_
    refine x_ialdN (336) d_M_layers_162 rfl (by omega) (by omega) ?_
    refine x_iconst (-1) d_M_layers_163 rfl ⟨by decide, by decide⟩ ?_
    refine x_icmp_eq (171) d_M_layers_164 (by decide) (fun c0 => ?_) (fun c0 => ?_)
    · refine x_iconst (0) d_M_layers_171 rfl ⟨by decide, by decide⟩ ?_
      refine x_zreturn d_M_layers_172 rfl (by first | exact Or.inl rfl | exact Or.inr rfl | (split <;> first | exact Or.inl rfl | exact Or.inr rfl) | assumption) ?_ (Nat.zero_le _) (Nat.zero_le _)
      rw [← hQ]
      exact ⟨_, rfl, G', rfl, q0, lf, by rw [if_pos c0]⟩
    · refine x_iconst (1) d_M_layers_167 rfl ⟨by decide, by decide⟩ ?_
      refine x_goto (172) d_M_layers_168 (by decide) ?_
      refine x_zreturn d_M_layers_172 rfl (by first | exact Or.inl rfl | exact Or.inr rfl | (split <;> first | exact Or.inl rfl | exact Or.inr rfl) | assumption) ?_ (Nat.zero_le _) (Nat.zero_le _)
      rw [← hQ]
      exact ⟨_, rfl, G', rfl, q0, lf, by rw [if_neg c0]⟩
  -- the queue
  have outer : ∀ many G', lQ N L G many G' → (∀ j, j < 0 → ∀ n : Nat, G' m_queue j = n → lDone N L G' n (-1)) → 0 ≤ many → x_A y_M_layers 44 [some oM, some (xI (many : Int)), some (xI ((0 : Nat) : Int)), none, none] [] (S0, G') 0 0 Q := by
    refine x_up_to (P := fun i => ∀ many G', lQ N L G many G' → (∀ j, j < i → ∀ n : Nat, G' m_queue j = n → lDone N L G' n (-1)) → i ≤ many → x_A y_M_layers 44 [some oM, some (xI (many : Int)), some (xI (i : Int)), none, none] [] (S0, G') 0 0 Q) 0 338 (Nat.zero_le _) ?_ (fun i _ hi k => ?_)
    · intro many G' hq hd hle
      have := cnt_le (G' m_far) 338
      have q2 := hq.2.2.1
      have hm : many = 338 := by omega
      subst hm
      refine x_iload_n d_M_layers_44 rfl rfl ?_
      refine x_iload_n d_M_layers_45 rfl rfl ?_
      refine x_icmp_ge (155) d_M_layers_46 (by decide) (fun c0 => ?_) (fun c0 => ?_)
      · exact x_sub (fun j v hj => by
          match j, hj with
          | 0, hj => exact hj
          | 1, hj => cases hj
          | 2, hj => cases hj
          | 3, hj => cases hj
          | 4, hj => cases hj
          | j + 5, hj => cases hj) (fin 338 G' hq hd)
      · exact absurd (Int.le_refl _) c0
    · intro many G' hq hd hle
      refine x_iload_n d_M_layers_44 rfl rfl ?_
      refine x_iload_n d_M_layers_45 rfl rfl ?_
      refine x_icmp_ge (155) d_M_layers_46 (by decide) (fun c0 => ?_) (fun c0 => ?_)
      · have hm : i = many := by omega
        subst hm
        exact x_sub (fun j v hj => by
          match j, hj with
          | 0, hj => exact hj
          | 1, hj => cases hj
          | 2, hj => cases hj
          | 3, hj => cases hj
          | 4, hj => cases hj
          | j + 5, hj => cases hj) (fin i G' hq hd)
      · obtain ⟨n, n1, n2, n3, n4⟩ := hq.2.1 i (by omega)
        have o0 := hq.1
        refine x_aload_n d_M_layers_49 rfl rfl ?_
        refine x_getF (kf := 63) d_M_layers_50 rfl rfl rfl in_M f_M_159 ?_
        refine x_iload_n d_M_layers_53 rfl rfl ?_
        refine x_ialdN (i) d_M_layers_54 rfl (by omega) (by omega) ?_
        rw [n2]
        refine x_istore_n d_M_layers_55 rfl (by decide) ?_
        dsimp only [x_st1, x_st2, x_kill, List.set, List.getElem?_cons_zero, List.getElem?_cons_succ]
        refine x_aload_n d_M_layers_56 rfl rfl ?_
        refine x_getF (kf := 60) d_M_layers_57 rfl rfl rfl in_M f_M_150 ?_
        refine x_iload_n d_M_layers_60 rfl rfl ?_
        refine x_ialdN (n) d_M_layers_61 rfl (by omega) (by omega) ?_
        rw [o0 m_head (by decide) (by decide), e3 n n1]
        refine x_istore d_M_layers_62 (by decide) ?_
        dsimp only [x_st1, x_st2, x_kill, List.set, List.getElem?_cons_zero, List.getElem?_cons_succ]
        -- the arcs of n
        have inner : ∀ (fuel : Nat) (e : Int) (many : Nat) (G' : Nat → Nat → Int), e < fuel → -1 ≤ e → (∀ q : Nat, e = q → q < 2 * N.1 ∧ te N q = n) → lQ N L G many G' → (∀ j, j < i → ∀ n : Nat, G' m_queue j = n → lDone N L G' n (-1)) → i < many → G' m_queue i = n → lDone N L G' n e → x_A y_M_layers 64 [some oM, some (xI (many : Int)), some (xI (i : Int)), some (xI (n : Int)), some (xI e)] [] (S0, G') 0 0 Q := by
          intro fuel
          induction fuel with
          | zero =>
            intro e many G' h1 h2 h3 hq hd hlt hi2 hdn
            have he0 : e = -1 := by omega
            subst he0
            refine x_iload d_M_layers_64 rfl ?_
            refine x_iconst (-1) d_M_layers_66 rfl ⟨by decide, by decide⟩ ?_
            refine x_icmp_eq (149) d_M_layers_67 (by decide) (fun c1 => ?_) (fun c1 => ?_)
            · refine x_iincN d_M_layers_149 rfl (by decide) (by omega) (by omega) ?_
              dsimp only [x_st1, x_st2, x_kill, List.set, List.getElem?_cons_zero, List.getElem?_cons_succ]
              refine x_goto (44) d_M_layers_152 (by decide) ?_
              refine x_sub (lv' := [some oM, some (xI (many : Int)), some (xI ((i + 1 : Nat) : Int)), none, none]) (fun j v hj => by
                match j, hj with
                | 0, hj => exact hj
                | 1, hj => exact hj
                | 2, hj => exact hj
                | 3, hj => cases hj
                | 4, hj => cases hj
                | j + 5, hj => cases hj) (k many G' hq (fun j hj n' hn' => ?_) (by omega))
              by_cases q : j = i
              · subst q
                have : n' = n := by omega
                subst this; exact hdn
              · exact hd j (by omega) n' hn'
            · exact absurd rfl c1
          | succ fuel ih =>
            intro e many G' h1 h2 h3 hq hd hlt hi2 hdn
            by_cases he0 : e < (fuel : Int)
            · exact ih e many G' he0 h2 h3 hq hd hlt hi2 hdn
            · obtain ⟨q, rfl⟩ : ∃ q : Nat, e = q := ⟨e.toNat, by omega⟩
              obtain ⟨hq1, hq2⟩ := h3 q rfl
              obtain ⟨o0, q1, q2, q3, q4, q5⟩ := id hq
              have hx := te_lt hw hq1
              have ex : G' m_to q = he N q := by rw [o0 m_to (by decide) (by decide)]; exact (e2 q hq1).1
              have eb : G' m_behind q = prv N n q := by rw [o0 m_behind (by decide) (by decide), (e2 q hq1).2.1, hq2]
              have el : G' m_left (xr q) = L (xr q) := by rw [o0 m_left (by decide) (by decide)]; exact (e2 _ (xr_lt hq1)).2.2
              have bp := prv_lt N n q
              have hx2 := xr_lt hq1
              -- to the arc behind
              have go : ∀ many G', lQ N L G many G' → (∀ j, j < i → ∀ n : Nat, G' m_queue j = n → lDone N L G' n (-1)) → i < many → G' m_queue i = n → lDone N L G' n q → (L (xr q) = 0 ∨ G' m_far (he N q) ≠ -1) → x_A y_M_layers 137 [some oM, some (xI (many : Int)), some (xI (i : Int)), some (xI (n : Int)), some (xI (q : Int))] [] (S0, G') 0 0 Q := by
                intro many2 G2 hq2' hd2 hlt2 hi3 hdn2 hdq
                have eb2 : G2 m_behind q = prv N n q := by rw [hq2'.1 m_behind (by decide) (by decide), (e2 q hq1).2.1, hq2]
                refine x_aload_n d_M_layers_137 rfl rfl ?_
                refine x_getF (kf := 65) d_M_layers_138 rfl rfl rfl in_M f_M_165 ?_
                refine x_iload d_M_layers_141 rfl ?_
                refine x_ialdN (q) d_M_layers_143 rfl (by omega) (by omega) ?_
                rw [eb2]
                refine x_istore d_M_layers_144 (by decide) ?_
                dsimp only [x_st1, x_st2, x_kill, List.set, List.getElem?_cons_zero, List.getElem?_cons_succ]
                refine x_goto (64) d_M_layers_146 (by decide) ?_
                refine ih (prv N n q) many2 G2 (by omega) bp.1 (fun z hz => ?_) hq2' hd2 hlt2 hi3 (fun z z1 z2 z3 => ?_)
                · have := prv_te hz
                  exact ⟨by omega, this.1⟩
                · by_cases w1 : z = q
                  · subst w1; exact hdq
                  · by_cases w2 : z < q
                    · have := prv_max (N := N) (n := n) (e := q) z2 w2
                      omega
                    · exact hdn2 z z1 z2 (by omega)
              refine x_iload d_M_layers_64 rfl ?_
              refine x_iconst (-1) d_M_layers_66 rfl ⟨by decide, by decide⟩ ?_
              refine x_icmp_eq (149) d_M_layers_67 (by decide) (fun c1 => ?_) (fun c1 => ?_)
              · omega
              · refine x_aload_n d_M_layers_70 rfl rfl ?_
                refine x_getF (kf := 67) d_M_layers_71 rfl rfl rfl in_M f_M_171 ?_
                refine x_iload d_M_layers_74 rfl ?_
                refine x_iconst (1) d_M_layers_76 rfl ⟨by decide, by decide⟩ ?_
                refine x_ixor d_M_layers_77 ?_
                rw [x_xor1 (by omega)]
                refine x_ialdN (xr q) d_M_layers_78 rfl (by omega) (by omega) ?_
                rw [el]
                refine x_if_eq (137) d_M_layers_79 (by decide) (fun c2 => ?_) (fun c2 => ?_)
                · exact go many G' hq hd hlt hi2 hdn (Or.inl c2)
                · refine x_aload_n d_M_layers_82 rfl rfl ?_
                  refine x_getF (kf := 62) d_M_layers_83 rfl rfl rfl in_M f_M_156 ?_
                  refine x_aload_n d_M_layers_86 rfl rfl ?_
                  refine x_getF (kf := 66) d_M_layers_87 rfl rfl rfl in_M f_M_168 ?_
                  refine x_iload d_M_layers_90 rfl ?_
                  refine x_ialdN (q) d_M_layers_92 rfl (by omega) (by omega) ?_
                  rw [ex]
                  refine x_ialdN (he N q) d_M_layers_93 rfl (by omega) (by omega) ?_
                  refine x_iconst (-1) d_M_layers_94 rfl ⟨by decide, by decide⟩ ?_
                  refine x_icmp_eq (101) d_M_layers_95 (by decide) (fun c3 => ?_) (fun c3 => ?_)
                  · have cl := cnt_lt hx.2 c3
                    have hni : he N q ≠ n := by intro z; rw [z] at c3; obtain ⟨n', a1, a2, a3, a4⟩ := q1 i hlt; have : n' = n := by omega
                                                subst this; omega
                    obtain ⟨n', a1, a2, a3, a4⟩ := q1 i hlt
                    have en : n' = n := by omega
                    subst en
                    refine x_aload_n d_M_layers_101 rfl rfl ?_
                    refine x_getF (kf := 62) d_M_layers_102 rfl rfl rfl in_M f_M_156 ?_
                    refine x_aload_n d_M_layers_105 rfl rfl ?_
                    refine x_getF (kf := 66) d_M_layers_106 rfl rfl rfl in_M f_M_168 ?_
                    refine x_iload d_M_layers_109 rfl ?_
                    refine x_ialdN (q) d_M_layers_111 rfl (by omega) (by omega) ?_
                    rw [ex]
                    refine x_aload_n d_M_layers_112 rfl rfl ?_
                    refine x_getF (kf := 62) d_M_layers_113 rfl rfl rfl in_M f_M_156 ?_
                    refine x_iload_n d_M_layers_116 rfl rfl ?_
                    refine x_ialdN (n') d_M_layers_117 rfl (by omega) (by omega) ?_
                    refine x_iconst (1) d_M_layers_118 rfl ⟨by decide, by decide⟩ ?_
                    refine x_iaddN d_M_layers_119 (by omega) (by omega) ?_
                    refine x_iastN (he N q) d_M_layers_120 rfl (by omega) (by omega) ?_
                    refine x_aload_n d_M_layers_121 rfl rfl ?_
                    refine x_getF (kf := 63) d_M_layers_122 rfl rfl rfl in_M f_M_159 ?_
                    refine x_iload_n d_M_layers_125 rfl rfl ?_
                    refine x_aload_n d_M_layers_126 rfl rfl ?_
                    refine x_getF (kf := 66) d_M_layers_127 rfl rfl rfl in_M f_M_168 ?_
                    refine x_iload d_M_layers_130 rfl ?_
                    refine x_ialdN (q) d_M_layers_132 rfl (by omega) (by omega) ?_
                    rw [up_cell (by decide), ex]
                    refine x_iastN (many) d_M_layers_133 rfl (by omega) (by omega) ?_
                    have F1 : ∀ x, up (up G' m_far (he N q) (G' m_far n' + 1)) m_queue many (he N q) m_far x = if x = he N q then G' m_far n' + 1 else G' m_far x := fun x => by
                      rw [up_cell (by decide)]
                      by_cases w : x = he N q
                      · subst w; rw [up_same, if_pos rfl]
                      · rw [up_ne w, if_neg w]
                    have F2 : ∀ x, up (up G' m_far (he N q) (G' m_far n' + 1)) m_queue many (he N q) m_queue x = if x = many then (he N q : Int) else G' m_queue x := fun x => by
                      by_cases w : x = many
                      · subst w; rw [up_same, if_pos rfl]
                      · rw [up_ne w, if_neg w, up_cell (by decide)]
                    have F3 : ∀ x, x ≠ m_far → x ≠ m_queue → up (up G' m_far (he N q) (G' m_far n' + 1)) m_queue many (he N q) x = G' x := fun x w1 w2 => by rw [up_cell w2, up_cell w1]
                    generalize up (up G' m_far (he N q) (G' m_far n' + 1)) m_queue many (he N q) = G2 at F1 F2 F3
                    have up1 : ∀ x, G' m_far x ≠ -1 → G2 m_far x = G' m_far x := fun x hx3 => by rw [F1, if_neg (by intro z; rw [z] at hx3; exact hx3 c3)]
                    have done : ∀ n e, lDone N L G' n e → lDone N L G2 n e := fun n e hd z z1 z2 z3 => by
                      rcases hd z z1 z2 z3 with w | w
                      · exact Or.inl w
                      · exact Or.inr (by rw [up1 _ w]; exact w)
                    have nq : lQ N L G (many + 1) G2 := by
                      refine ⟨fun x w1 w2 => (F3 x w1 w2).trans (o0 x w1 w2), fun j hj => ?_, ?_, fun x hx3 hx4 => ?_, ⟨?_, fun x hx3 => ?_⟩, fun x hx3 hx4 => ?_⟩
                      · by_cases w : j = many
                        · subst w
                          refine ⟨he N q, hx.2, by rw [F2, if_pos rfl], ?_, ?_⟩ <;> rw [F1, if_pos rfl] <;> omega
                        · obtain ⟨b, b1, b2, b3, b4⟩ := q1 j (by omega)
                          refine ⟨b, b1, by rw [F2, if_neg w]; exact b2, ?_, ?_⟩ <;> rw [up1 b (by omega)] <;> assumption
                      · rw [su_one (f := fun n => if G' m_far n = -1 then 0 else 1) (g := fun n => if G2 m_far n = -1 then 0 else 1) (n := 338) (k := he N q) (d := 1) hx.2 (fun x hx3 hne => by rw [F1, if_neg hne]) (by rw [F1, if_pos rfl, c3, if_neg (by omega)]; rfl), q2]; omega
                      · by_cases w : x = he N q
                        · exact ⟨many, by omega, by rw [F2, if_pos rfl, w]⟩
                        · rw [F1, if_neg w] at hx4
                          obtain ⟨j, j1, j2⟩ := q3 x hx3 hx4
                          exact ⟨j, by omega, by rw [F2, if_neg (by omega)]; exact j2⟩
                      · rw [up1 337 (by omega)]; exact q4.1
                      · rw [F1]
                        by_cases w : x = he N q
                        · rw [if_pos w]; exact ⟨by omega, fun z => by omega⟩
                        · rw [if_neg w]; exact q4.2 x hx3
                      · by_cases w : x = he N q
                        · refine ⟨xr q, hx2, by rw [te_xr, w], by have := hL _ hx2; omega, ?_⟩
                          rw [he_xr, hq2, up1 n' (by omega), F1, if_pos w]; omega
                        · rw [F1, if_neg w] at hx4
                          obtain ⟨z, z1, z2, z3, z4⟩ := q5 x hx3 hx4
                          exact ⟨z, z1, z2, z3, by rw [up1 (he N z) (by omega), F1, if_neg w]; exact z4⟩
                    refine x_iincN d_M_layers_134 rfl (by decide) (by omega) (by omega) ?_
                    dsimp only [x_st1, x_st2, x_kill, List.set, List.getElem?_cons_zero, List.getElem?_cons_succ]
                    refine go (many + 1) G2 nq (fun j hj n2' hn2 => ?_) (by omega) (by rw [F2, if_neg (by omega)]; exact hi2) (done _ _ hdn) (Or.inr (by rw [F1, if_pos rfl]; omega))
                    rw [F2, if_neg (by omega)] at hn2
                    exact done _ _ (hd j hj n2' hn2)
                  · refine x_goto (137) d_M_layers_98 (by decide) ?_
                    exact go many G' hq hd hlt hi2 hdn (Or.inr c3)
        have bp := prv_lt N n (2 * N.1)
        refine inner (2 * N.1) (prv N n (2 * N.1)) many G' (by omega) bp.1 (fun q hq' => ?_) hq hd (by omega) n2 (fun q h1 h2 h3 => ?_)
        · have := prv_te hq'; exact ⟨this.2, this.1⟩
        · have := prv_max (N := N) (n := n) (e := 2 * N.1) h2 h1
          omega
  -- at first
  have first : ∀ G', (∀ i, i ≠ m_far → i ≠ m_queue → G' i = G i) → (∀ n, n < 0 → G' m_far n = -1) → x_A y_M_layers 2 [some oM, some (xI ((0 : Nat) : Int)), none, none, none] [] (S0, G') 0 0 Q := by
    refine x_up_to (P := fun i => ∀ G', (∀ i, i ≠ m_far → i ≠ m_queue → G' i = G i) → (∀ n, n < i → G' m_far n = -1) → x_A y_M_layers 2 [some oM, some (xI (i : Int)), none, none, none] [] (S0, G') 0 0 Q) 0 338 (Nat.zero_le _) ?_ (fun i _ hi k => ?_)
    · intro G2 f1 f2
      refine x_iload_n d_M_layers_2 rfl rfl ?_
      refine x_sipush (338) d_M_layers_3 rfl ⟨by decide, by decide⟩ ?_
      refine x_icmp_ge (22) d_M_layers_6 (by decide) (fun c0 => ?_) (fun c0 => ?_)
      · refine x_aload_n d_M_layers_22 rfl rfl ?_
        refine x_getF (kf := 62) d_M_layers_23 rfl rfl rfl in_M f_M_156 ?_
        refine x_sipush (337) d_M_layers_26 rfl ⟨by decide, by decide⟩ ?_
        refine x_iconst (0) d_M_layers_29 rfl ⟨by decide, by decide⟩ ?_
        refine x_iastN (337) d_M_layers_30 rfl (by omega) (by omega) ?_
        refine x_aload_n d_M_layers_31 rfl rfl ?_
        refine x_getF (kf := 63) d_M_layers_32 rfl rfl rfl in_M f_M_159 ?_
        refine x_iconst (0) d_M_layers_35 rfl ⟨by decide, by decide⟩ ?_
        refine x_sipush (337) d_M_layers_36 rfl ⟨by decide, by decide⟩ ?_
        refine x_iastN (0) d_M_layers_39 rfl (by omega) (by omega) ?_
        refine x_iconst (1) d_M_layers_40 rfl ⟨by decide, by decide⟩ ?_
        refine x_istore_n d_M_layers_41 rfl (by decide) ?_
        dsimp only [x_st1, x_st2, x_kill, List.set, List.getElem?_cons_zero, List.getElem?_cons_succ]
        refine x_iconst (0) d_M_layers_42 rfl ⟨by decide, by decide⟩ ?_
        refine x_istore_n d_M_layers_43 rfl (by decide) ?_
        dsimp only [x_st1, x_st2, x_kill, List.set, List.getElem?_cons_zero, List.getElem?_cons_succ]
        have F1 : ∀ x, up (up G2 m_far 337 0) m_queue 0 337 m_far x = if x = 337 then 0 else G2 m_far x := fun x => by
          rw [up_cell (by decide)]
          by_cases w : x = 337
          · subst w; rw [up_same, if_pos rfl]
          · rw [up_ne w, if_neg w]
        refine outer 1 _ ⟨fun x w1 w2 => by rw [up_cell w2, up_cell w1]; exact f1 x w1 w2, fun j hj => ?_, ?_, fun n h1 h2 => ?_, ⟨?_, fun n h1 => ?_⟩, fun n h1 h2 => ?_⟩ (fun j hj => absurd hj (Nat.not_lt_zero j)) (by omega)
        · have : j = 0 := by omega
          subst this
          refine ⟨337, by omega, by rw [up_same]; rfl, ?_, ?_⟩ <;> rw [F1, if_pos rfl] <;> omega
        · rw [su_one (f := fun _ => 0) (g := fun n => if up (up G2 m_far 337 0) m_queue 0 337 m_far n = -1 then 0 else 1) (n := 338) (k := 337) (d := 1) (by omega) (fun x hx3 hne => by rw [F1, if_neg hne, f2 x hx3]; rfl) (by rw [F1, if_pos rfl]; rfl), su_zero]; rfl
        · rw [F1] at h2
          by_cases w : n = 337
          · exact ⟨0, by omega, by rw [up_same, w]; rfl⟩
          · rw [if_neg w, f2 n h1] at h2; exact absurd rfl h2
        · rw [F1, if_pos rfl]
        · rw [F1]
          by_cases w : n = 337
          · rw [if_pos w]; exact ⟨by omega, fun _ => w⟩
          · rw [if_neg w, f2 n h1]; exact ⟨by omega, fun z => by omega⟩
        · rw [F1] at h2
          by_cases w : n = 337
          · rw [if_pos w] at h2; omega
          · rw [if_neg w, f2 n h1] at h2; omega
      · omega
    · intro G2 f1 f2
      refine x_iload_n d_M_layers_2 rfl rfl ?_
      refine x_sipush (338) d_M_layers_3 rfl ⟨by decide, by decide⟩ ?_
      refine x_icmp_ge (22) d_M_layers_6 (by decide) (fun c0 => ?_) (fun c0 => ?_)
      · omega
      · refine x_aload_n d_M_layers_9 rfl rfl ?_
        refine x_getF (kf := 62) d_M_layers_10 rfl rfl rfl in_M f_M_156 ?_
        refine x_iload_n d_M_layers_13 rfl rfl ?_
        refine x_iconst (-1) d_M_layers_14 rfl ⟨by decide, by decide⟩ ?_
        refine x_iastN (i) d_M_layers_15 rfl (by omega) (by omega) ?_
        refine x_iincN d_M_layers_16 rfl (by decide) (by omega) (by omega) ?_
        dsimp only [x_st1, x_st2, x_kill, List.set, List.getElem?_cons_zero, List.getElem?_cons_succ]
        refine x_goto (2) d_M_layers_19 (by decide) ?_
        refine k _ (fun x w1 w2 => by rw [up_cell w1]; exact f1 x w1 w2) (fun n hn => ?_)
        by_cases q : n = i
        · subst q; rw [up_same]
        · rw [up_ne q]; exact f2 n (by omega)
  refine x_iconst (0) d_M_layers_0 rfl ⟨by decide, by decide⟩ ?_
  refine x_istore_n d_M_layers_1 rfl (by decide) ?_
  dsimp only [x_st1, x_st2, x_kill, List.set, List.getElem?_cons_zero, List.getElem?_cons_succ]
  exact first G (fun _ _ _ => rfl) (fun n hn => absurd hn (Nat.not_lt_zero n))
