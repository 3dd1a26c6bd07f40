/-! the reference: the side -/
/-- R: what can be reached from the source -/
def nR (N : NT) (L : Nat → Int) (R : Nat → Bool) : Prop := R 336 = true ∧ nShut N L R ∧ ∀ S, S 336 = true → nShut N L S → ∀ n, R n = true → S n = true
def sN (R : Nat → Bool) (m : Nat) : Nat → Int
  | 0 => 0
  | b + 1 => if R (16 * m + b) = true then x_or (sN R m b) (x_shl 1 b) else sN R m b
def rFar (far : Nat → Int) : Nat → Bool := fun n => decide (n < 338 ∧ far n ≠ -1)
def dQ (N : NT) (L : Nat → Int) (G : Nat → Nat → Int) (many : Nat) (G' : Nat → Nat → Int) : Prop :=
  (∀ i, i ≠ m_far → i ≠ m_queue → i ≠ m_sides → G' i = G i) ∧ (∀ m, m < 21 → G' m_sides m = 0) ∧ (∀ j, j < many → ∃ n : Nat, n < 338 ∧ G' m_queue j = n ∧ G' m_far n ≠ -1) ∧
  su (fun n => if G' m_far n = -1 then 0 else 1) 338 = many ∧ (∀ n : Nat, n < 338 → G' m_far n ≠ -1 → ∃ j, j < many ∧ G' m_queue j = n) ∧ G' m_far 336 ≠ -1 ∧
  ∀ S : Nat → Bool, S 336 = true → nShut N L S → ∀ n, n < 338 → G' m_far n ≠ -1 → S n = true
def dDone (N : NT) (L : Nat → Int) (G' : Nat → Nat → Int) (n : Nat) (e : Int) : Prop := ∀ q, q < 2 * N.1 → te N q = n → e < (q : Int) → L q = 0 ∨ G' m_far (he N q) ≠ -1
def mSided (N : NT) (L : Nat → Int) (by' : Nat) (G : Nat → Nat → Int) : Option XV → XM → Prop := fun v τ => v = none ∧ ∃ G' R, τ = (S0, G') ∧ (∀ i, i ≠ m_far → i ≠ m_queue → i ≠ m_sides → G' i = G i) ∧ nR N L R ∧ ∀ m, m < 21 → G' m_sides m = if m ≤ by' then sN R m 16 else 0
theorem s_sideOf {N : NT} {L : Nat → Int} {G : Nat → Nat → Int} (hw : nWf N) (hn : mNet N L G) (hL : ∀ e, e < 2 * N.1 → 0 ≤ L e) (by' : Nat) (hb : by' ≤ 20) : x_M y_M_sideOf [oM, xI (by' : Int)] (S0, G) (fun r τ => ∃ v, r = .inl v ∧ mSided N L by' G v τ) := by
  obtain ⟨e1, e2, e3⟩ := hn
  have hK := hw.1
  refine x_of 3 rfl (Nat.le_of_ble_eq_true rfl) ?_
  show x_A y_M_sideOf 0 [some oM, some (xI (by' : Int)), none, none, none] [] (S0, G) 0 0 _
  generalize hQ : (fun (r : XRes) (τ : XM) => ∃ v, r = .inl v ∧ mSided N L by' G v τ) = Q
  -- the end
  have fin : ∀ many G', dQ N L G many G' → (∀ j, j < many → ∀ n : Nat, G' m_queue j = n → dDone N L G' n (-1)) → x_A y_M_sideOf 165 [some oM, some (xI (by' : Int)), none, none, none] [] (S0, G') 0 0 Q := by
    intro many G1 hq hd
    obtain ⟨q0, qs, q1, q2, q3, q4, q5⟩ := hq
    have hR : nR N L (rFar (G1 m_far)) := by
      refine ⟨decide_eq_true ⟨by omega, q4⟩, fun e he1 h1 h2 => ?_, fun S hS hS2 n hn => ?_⟩
      · obtain ⟨a1, a2⟩ := of_decide_eq_true h1
        obtain ⟨j, j1, j2⟩ := q3 (te N e) a1 a2
        rcases hd j j1 (te N e) j2 e he1 rfl (by omega) with z | z
        · omega
        · exact decide_eq_true ⟨(te_lt hw he1).2, z⟩
      · obtain ⟨a1, a2⟩ := of_decide_eq_true hn
        exact q5 S hS hS2 n a1 a2
    refine x_iconst (0) d_M_sideOf_165 rfl ⟨by decide, by decide⟩ ?_
    refine x_istore_n d_M_sideOf_166 rfl (by decide) ?_
    dsimp only [x_st1, x_st2, x_kill, List.set, List.getElem?_cons_zero, List.getElem?_cons_succ]
    have minutes : ∀ G', (∀ i, i ≠ m_sides → G' i = G1 i) → (∀ m, m < 21 → G' m_sides m = if m < 0 then sN (rFar (G1 m_far)) m 16 else 0) → x_A y_M_sideOf 167 [some oM, some (xI (by' : Int)), none, some (xI ((0 : Nat) : Int)), none] [] (S0, G') 0 0 Q := by
      refine x_up_to (P := fun m => ∀ G', (∀ i, i ≠ m_sides → G' i = G1 i) → (∀ z, z < 21 → G' m_sides z = if z < m then sN (rFar (G1 m_far)) z 16 else 0) → x_A y_M_sideOf 167 [some oM, some (xI (by' : Int)), none, some (xI (m : Int)), none] [] (S0, G') 0 0 Q) 0 (by' + 1) (Nat.zero_le _) ?_ (fun m _ hm k => ?_)
      · intro G2 f1 f2
        refine x_iload_n d_M_sideOf_167 rfl rfl ?_
        refine x_iload_n d_M_sideOf_168 rfl rfl ?_
        refine x_icmp_gt (223) d_M_sideOf_169 (by decide) (fun c0 => ?_) (fun c0 => ?_)
        · refine x_return d_M_sideOf_223 rfl ?_ (Nat.zero_le _) (Nat.zero_le _)
          rw [← hQ]
          refine ⟨none, rfl, rfl, G2, rFar (G1 m_far), rfl, fun i w1 w2 w3 => (f1 i w3).trans (q0 i w1 w2 w3), hR, fun m hm => ?_⟩
          rw [f2 m hm]
          by_cases w : m ≤ by'
          · rw [if_pos (by omega), if_pos w]
          · rw [if_neg (by omega), if_neg w]
        · omega
      · intro G2 f1 f2
        have bits : ∀ G', (∀ i, i ≠ m_sides → G' i = G1 i) → (∀ z, z < 21 → G' m_sides z = if z = m then sN (rFar (G1 m_far)) m 0 else G2 m_sides z) → x_A y_M_sideOf 175 [some oM, some (xI (by' : Int)), none, some (xI (m : Int)), some (xI ((0 : Nat) : Int))] [] (S0, G') 0 0 Q := by
          refine x_up_to (P := fun b => ∀ G', (∀ i, i ≠ m_sides → G' i = G1 i) → (∀ z, z < 21 → G' m_sides z = if z = m then sN (rFar (G1 m_far)) m b else G2 m_sides z) → x_A y_M_sideOf 175 [some oM, some (xI (by' : Int)), none, some (xI (m : Int)), some (xI (b : Int))] [] (S0, G') 0 0 Q) 0 16 (Nat.zero_le _) ?_ (fun b _ hb2 kb => ?_)
          · intro G3 g1 g2
            refine x_iload d_M_sideOf_175 rfl ?_
            refine x_bipush (16) d_M_sideOf_177 rfl ⟨by decide, by decide⟩ ?_
            refine x_icmp_ge (217) d_M_sideOf_179 (by decide) (fun c0 => ?_) (fun c0 => ?_)
            · refine x_iincN d_M_sideOf_217 rfl (by decide) (by omega) (by omega) ?_
              dsimp only [x_st1, x_st2, x_kill, List.set, List.getElem?_cons_zero, List.getElem?_cons_succ]
              refine x_goto (167) d_M_sideOf_220 (by decide) ?_
              refine x_sub (lv' := [some oM, some (xI (by' : Int)), none, some (xI ((m + 1 : Nat) : Int)), none]) (fun j v hj => by
                match j, hj with
                | 0, hj => exact hj
                | 1, hj => exact hj
                | 2, hj => cases hj
                | 3, hj => exact hj
                | 4, hj => cases hj
                | j + 5, hj => cases hj) (k G3 g1 (fun z hz => ?_))
              rw [g2 z hz]
              by_cases w : z = m
              · subst w; rw [if_pos rfl, if_pos (by omega)]
              · rw [if_neg w, f2 z hz]
                by_cases w2 : z < m
                · rw [if_pos w2, if_pos (by omega)]
                · rw [if_neg w2, if_neg (by omega)]
            · omega
          · intro G3 g1 g2
            have gm := g2 m (by omega)
            rw [if_pos rfl] at gm
            refine x_iload d_M_sideOf_175 rfl ?_
            refine x_bipush (16) d_M_sideOf_177 rfl ⟨by decide, by decide⟩ ?_
            refine x_icmp_ge (217) d_M_sideOf_179 (by decide) (fun c0 => ?_) (fun c0 => ?_)
            · omega
            · refine x_aload_n d_M_sideOf_182 rfl rfl ?_
              refine x_getF (kf := 62) d_M_sideOf_183 rfl rfl rfl in_M f_M_156 ?_
              refine x_bipush (16) d_M_sideOf_186 rfl ⟨by decide, by decide⟩ ?_
              refine x_iload_n d_M_sideOf_188 rfl rfl ?_
              refine x_imulN d_M_sideOf_189 (by omega) (by omega) ?_
              refine x_iload d_M_sideOf_190 rfl ?_
              refine x_iaddN d_M_sideOf_192 (by omega) (by omega) ?_
              refine x_ialdN (16 * m + b) d_M_sideOf_193 rfl (by omega) (by omega) ?_
              rw [g1 m_far (by decide)]
              refine x_iconst (-1) d_M_sideOf_194 rfl ⟨by decide, by decide⟩ ?_
              refine x_icmp_eq (211) d_M_sideOf_195 (by decide) (fun c1 => ?_) (fun c1 => ?_)
              · refine x_iincN d_M_sideOf_211 rfl (by decide) (by omega) (by omega) ?_
                dsimp only [x_st1, x_st2, x_kill, List.set, List.getElem?_cons_zero, List.getElem?_cons_succ]
                refine x_goto (175) d_M_sideOf_214 (by decide) ?_
                refine kb G3 g1 (fun z hz => ?_)
                rw [g2 z hz]
                by_cases w : z = m
                · rw [if_pos w, if_pos w]
                  show _ = if rFar (G1 m_far) (16 * m + b) = true then _ else _
                  rw [if_neg (by unfold rFar; rw [decide_eq_false (fun q => q.2 c1)]; decide)]
                · rw [if_neg w, if_neg w]
              · refine x_aload_n d_M_sideOf_198 rfl rfl ?_
                refine x_getF (kf := 69) d_M_sideOf_199 rfl rfl rfl in_M f_M_174 ?_
                refine x_iload_n d_M_sideOf_202 rfl rfl ?_
                refine x_dup2 d_M_sideOf_203 rfl rfl ?_
                refine x_ialdN (m) d_M_sideOf_204 rfl (by omega) (by omega) ?_
                rw [gm]
                refine x_iconst (1) d_M_sideOf_205 rfl ⟨by decide, by decide⟩ ?_
                refine x_iload d_M_sideOf_206 rfl ?_
                refine x_ishl d_M_sideOf_208 ?_
                refine x_ior d_M_sideOf_209 ?_
                refine x_iastN (m) d_M_sideOf_210 rfl (by omega) (by omega) ?_
                refine x_iincN d_M_sideOf_211 rfl (by decide) (by omega) (by omega) ?_
                dsimp only [x_st1, x_st2, x_kill, List.set, List.getElem?_cons_zero, List.getElem?_cons_succ]
                refine x_goto (175) d_M_sideOf_214 (by decide) ?_
                refine kb _ (fun i hi => by rw [up_cell hi]; exact g1 i hi) (fun z hz => ?_)
                by_cases w : z = m
                · subst w
                  rw [up_same, if_pos rfl]
                  show _ = if rFar (G1 m_far) (16 * z + b) = true then _ else _
                  rw [if_pos (show rFar (G1 m_far) (16 * z + b) = true from decide_eq_true ⟨by omega, c1⟩)]
                · rw [up_ne w, if_neg w, g2 z hz, if_neg w]
        refine x_iload_n d_M_sideOf_167 rfl rfl ?_
        refine x_iload_n d_M_sideOf_168 rfl rfl ?_
        refine x_icmp_gt (223) d_M_sideOf_169 (by decide) (fun c0 => ?_) (fun c0 => ?_)
        · omega
        · refine x_iconst (0) d_M_sideOf_172 rfl ⟨by decide, by decide⟩ ?_
          refine x_istore d_M_sideOf_173 (by decide) ?_
          dsimp only [x_st1, x_st2, x_kill, List.set, List.getElem?_cons_zero, List.getElem?_cons_succ]
          refine bits G2 f1 (fun z hz => ?_)
          by_cases w : z = m
          · subst w; rw [if_pos rfl, f2 z hz, if_neg (by omega)]; rfl
          · rw [if_neg w]
    exact minutes G1 (fun _ _ => rfl) (fun m hm => by rw [if_neg (by omega)]; exact qs m hm)
  -- the queue
  have outer : ∀ many G', dQ N L G many G' → (∀ j, j < 0 → ∀ n : Nat, G' m_queue j = n → dDone N L G' n (-1)) → 0 ≤ many → x_A y_M_sideOf 65 [some oM, some (xI (by' : Int)), some (xI (many : Int)), some (xI ((0 : Nat) : Int)), none] [] (S0, G') 0 0 Q := by
    refine x_up_to (P := fun i => ∀ many G', dQ N L G many G' → (∀ j, j < i → ∀ n : Nat, G' m_queue j = n → dDone N L G' n (-1)) → i ≤ many → x_A y_M_sideOf 65 [some oM, some (xI (by' : Int)), some (xI (many : Int)), some (xI (i : Int)), none] [] (S0, G') 0 0 Q) 0 338 (Nat.zero_le _) ?_ (fun i _ hi k => ?_)
    · intro many G' hq hd hle
      have := cnt_le (G' m_far) 338
      have q2 := hq.2.2.2.1
      have hm : many = 338 := by omega
      subst hm
      refine x_iload_n d_M_sideOf_65 rfl rfl ?_
      refine x_iload_n d_M_sideOf_66 rfl rfl ?_
      refine x_icmp_ge (165) d_M_sideOf_67 (by decide) (fun c0 => ?_) (fun c0 => ?_)
      · exact x_sub (fun j v hj => by
          match j, hj with
          | 0, hj => exact hj
          | 1, hj => exact hj
          | 2, hj => cases hj
          | 3, hj => cases hj
          | 4, hj => cases hj
          | j + 5, hj => cases hj) (fin 338 G' hq hd)
      · exact absurd (Int.le_refl _) c0
    · intro many G' hq hd hle
      refine x_iload_n d_M_sideOf_65 rfl rfl ?_
      refine x_iload_n d_M_sideOf_66 rfl rfl ?_
      refine x_icmp_ge (165) d_M_sideOf_67 (by decide) (fun c0 => ?_) (fun c0 => ?_)
      · have hm : i = many := by omega
        subst hm
        exact x_sub (fun j v hj => by
          match j, hj with
          | 0, hj => exact hj
          | 1, hj => exact hj
          | 2, hj => cases hj
          | 3, hj => cases hj
          | 4, hj => cases hj
          | j + 5, hj => cases hj) (fin i G' hq hd)
      · obtain ⟨n, n1, n2, n3⟩ := hq.2.2.1 i (by omega)
        have o0 := hq.1
        refine x_aload_n d_M_sideOf_70 rfl rfl ?_
        refine x_getF (kf := 60) d_M_sideOf_71 rfl rfl rfl in_M f_M_150 ?_
        refine x_aload_n d_M_sideOf_74 rfl rfl ?_
        refine x_getF (kf := 63) d_M_sideOf_75 rfl rfl rfl in_M f_M_159 ?_
        refine x_iload_n d_M_sideOf_78 rfl rfl ?_
        refine x_ialdN (i) d_M_sideOf_79 rfl (by omega) (by omega) ?_
        rw [n2]
        refine x_ialdN (n) d_M_sideOf_80 rfl (by omega) (by omega) ?_
        rw [o0 m_head (by decide) (by decide) (by decide), e3 n n1]
        refine x_istore d_M_sideOf_81 (by decide) ?_
        dsimp only [x_st1, x_st2, x_kill, List.set, List.getElem?_cons_zero, List.getElem?_cons_succ]
        have inner : ∀ (fuel : Nat) (e : Int) (many : Nat) (G' : Nat → Nat → Int), e < fuel → -1 ≤ e → (∀ q : Nat, e = q → q < 2 * N.1 ∧ te N q = n) → dQ N L G many G' → (∀ j, j < i → ∀ n : Nat, G' m_queue j = n → dDone N L G' n (-1)) → i < many → G' m_queue i = n → dDone N L G' n e → x_A y_M_sideOf 83 [some oM, some (xI (by' : Int)), some (xI (many : Int)), some (xI (i : Int)), some (xI e)] [] (S0, G') 0 0 Q := by
          intro fuel
          induction fuel with
          | zero =>
            intro e many G' h1 h2 h3 hq hd hlt hi2 hdn
            have he0 : e = -1 := by omega
            subst he0
            refine x_iload d_M_sideOf_83 rfl ?_
            refine x_iconst (-1) d_M_sideOf_85 rfl ⟨by decide, by decide⟩ ?_
            refine x_icmp_eq (159) d_M_sideOf_86 (by decide) (fun c1 => ?_) (fun c1 => ?_)
            · refine x_iincN d_M_sideOf_159 rfl (by decide) (by omega) (by omega) ?_
              dsimp only [x_st1, x_st2, x_kill, List.set, List.getElem?_cons_zero, List.getElem?_cons_succ]
              refine x_goto (65) d_M_sideOf_162 (by decide) ?_
              refine x_sub (lv' := [some oM, some (xI (by' : Int)), some (xI (many : Int)), some (xI ((i + 1 : Nat) : Int)), none]) (fun j v hj => by
                match j, hj with
                | 0, hj => exact hj
                | 1, hj => exact hj
                | 2, hj => exact hj
                | 3, hj => exact hj
                | 4, hj => cases hj
                | j + 5, hj => cases hj) (k many G' hq (fun j hj n' hn' => ?_) (by omega))
              by_cases q : j = i
              · subst q
                have : n' = n := by omega
                subst this; exact hdn
              · exact hd j (by omega) n' hn'
            · exact absurd rfl c1
          | succ fuel ih =>
            intro e many G' h1 h2 h3 hq hd hlt hi2 hdn
            by_cases he0 : e < (fuel : Int)
            · exact ih e many G' he0 h2 h3 hq hd hlt hi2 hdn
            · obtain ⟨q, rfl⟩ : ∃ q : Nat, e = q := ⟨e.toNat, by omega⟩
              obtain ⟨hq1, hq2⟩ := h3 q rfl
              obtain ⟨o0, qs, q1, q2, q3, q4, q5⟩ := id hq
              have hx := te_lt hw hq1
              have ex : G' m_to q = he N q := by rw [o0 m_to (by decide) (by decide) (by decide)]; exact (e2 q hq1).1
              have el : G' m_left q = L q := by rw [o0 m_left (by decide) (by decide) (by decide)]; exact (e2 _ hq1).2.2
              have bp := prv_lt N n q
              have go : ∀ many G', dQ N L G many G' → (∀ j, j < i → ∀ n : Nat, G' m_queue j = n → dDone N L G' n (-1)) → i < many → G' m_queue i = n → dDone N L G' n q → (L q = 0 ∨ G' m_far (he N q) ≠ -1) → x_A y_M_sideOf 147 [some oM, some (xI (by' : Int)), some (xI (many : Int)), some (xI (i : Int)), some (xI (q : Int))] [] (S0, G') 0 0 Q := by
                intro many2 G2 hq2' hd2 hlt2 hi3 hdn2 hdq
                have eb2 : G2 m_behind q = prv N n q := by rw [hq2'.1 m_behind (by decide) (by decide) (by decide), (e2 q hq1).2.1, hq2]
                refine x_aload_n d_M_sideOf_147 rfl rfl ?_
                refine x_getF (kf := 65) d_M_sideOf_148 rfl rfl rfl in_M f_M_165 ?_
                refine x_iload d_M_sideOf_151 rfl ?_
                refine x_ialdN (q) d_M_sideOf_153 rfl (by omega) (by omega) ?_
                rw [eb2]
                refine x_istore d_M_sideOf_154 (by decide) ?_
                dsimp only [x_st1, x_st2, x_kill, List.set, List.getElem?_cons_zero, List.getElem?_cons_succ]
                refine x_goto (83) d_M_sideOf_156 (by decide) ?_
                refine ih (prv N n q) many2 G2 (by omega) bp.1 (fun z hz => ?_) hq2' hd2 hlt2 hi3 (fun z z1 z2 z3 => ?_)
                · have := prv_te hz
                  exact ⟨by omega, this.1⟩
                · by_cases w1 : z = q
                  · subst w1; exact hdq
                  · by_cases w2 : z < q
                    · have := prv_max (N := N) (n := n) (e := q) z2 w2
                      omega
                    · exact hdn2 z z1 z2 (by omega)
              refine x_iload d_M_sideOf_83 rfl ?_
              refine x_iconst (-1) d_M_sideOf_85 rfl ⟨by decide, by decide⟩ ?_
              refine x_icmp_eq (159) d_M_sideOf_86 (by decide) (fun c1 => ?_) (fun c1 => ?_)
              · omega
              · refine x_aload_n d_M_sideOf_89 rfl rfl ?_
                refine x_getF (kf := 67) d_M_sideOf_90 rfl rfl rfl in_M f_M_171 ?_
                refine x_iload d_M_sideOf_93 rfl ?_
                refine x_ialdN (q) d_M_sideOf_95 rfl (by omega) (by omega) ?_
                rw [el]
                refine x_if_eq (147) d_M_sideOf_96 (by decide) (fun c2 => ?_) (fun c2 => ?_)
                · exact go many G' hq hd hlt hi2 hdn (Or.inl c2)
                · refine x_aload_n d_M_sideOf_99 rfl rfl ?_
                  refine x_getF (kf := 62) d_M_sideOf_100 rfl rfl rfl in_M f_M_156 ?_
                  refine x_aload_n d_M_sideOf_103 rfl rfl ?_
                  refine x_getF (kf := 66) d_M_sideOf_104 rfl rfl rfl in_M f_M_168 ?_
                  refine x_iload d_M_sideOf_107 rfl ?_
                  refine x_ialdN (q) d_M_sideOf_109 rfl (by omega) (by omega) ?_
                  rw [ex]
                  refine x_ialdN (he N q) d_M_sideOf_110 rfl (by omega) (by omega) ?_
                  refine x_iconst (-1) d_M_sideOf_111 rfl ⟨by decide, by decide⟩ ?_
                  refine x_icmp_eq (118) d_M_sideOf_112 (by decide) (fun c3 => ?_) (fun c3 => ?_)
                  · have cl := cnt_lt hx.2 c3
                    refine x_aload_n d_M_sideOf_118 rfl rfl ?_
                    refine x_getF (kf := 62) d_M_sideOf_119 rfl rfl rfl in_M f_M_156 ?_
                    refine x_aload_n d_M_sideOf_122 rfl rfl ?_
                    refine x_getF (kf := 66) d_M_sideOf_123 rfl rfl rfl in_M f_M_168 ?_
                    refine x_iload d_M_sideOf_126 rfl ?_
                    refine x_ialdN (q) d_M_sideOf_128 rfl (by omega) (by omega) ?_
                    rw [ex]
                    refine x_iconst (0) d_M_sideOf_129 rfl ⟨by decide, by decide⟩ ?_
                    refine x_iastN (he N q) d_M_sideOf_130 rfl (by omega) (by omega) ?_
                    refine x_aload_n d_M_sideOf_131 rfl rfl ?_
                    refine x_getF (kf := 63) d_M_sideOf_132 rfl rfl rfl in_M f_M_159 ?_
                    refine x_iload_n d_M_sideOf_135 rfl rfl ?_
                    refine x_aload_n d_M_sideOf_136 rfl rfl ?_
                    refine x_getF (kf := 66) d_M_sideOf_137 rfl rfl rfl in_M f_M_168 ?_
                    refine x_iload d_M_sideOf_140 rfl ?_
                    refine x_ialdN (q) d_M_sideOf_142 rfl (by omega) (by omega) ?_
                    rw [up_cell (by decide), ex]
                    refine x_iastN (many) d_M_sideOf_143 rfl (by omega) (by omega) ?_
                    have F1 : ∀ x, up (up G' m_far (he N q) 0) m_queue many (he N q) m_far x = if x = he N q then 0 else G' m_far x := fun x => by
                      rw [up_cell (by decide)]
                      by_cases w : x = he N q
                      · subst w; rw [up_same, if_pos rfl]
                      · rw [up_ne w, if_neg w]
                    have F2 : ∀ x, up (up G' m_far (he N q) 0) m_queue many (he N q) m_queue x = if x = many then (he N q : Int) else G' m_queue x := fun x => by
                      by_cases w : x = many
                      · subst w; rw [up_same, if_pos rfl]
                      · rw [up_ne w, if_neg w, up_cell (by decide)]
                    have F3 : ∀ x, x ≠ m_far → x ≠ m_queue → up (up G' m_far (he N q) 0) m_queue many (he N q) x = G' x := fun x w1 w2 => by rw [up_cell w2, up_cell w1]
                    generalize up (up G' m_far (he N q) 0) m_queue many (he N q) = G2 at F1 F2 F3
                    have up1 : ∀ x, G' m_far x ≠ -1 → G2 m_far x ≠ -1 := fun x hx3 => by rw [F1, if_neg (by intro z; rw [z] at hx3; exact hx3 c3)]; exact hx3
                    have done : ∀ n e, dDone N L G' n e → dDone N L G2 n e := fun n e hd z z1 z2 z3 => by
                      rcases hd z z1 z2 z3 with w | w
                      · exact Or.inl w
                      · exact Or.inr (up1 _ w)
                    have nq : dQ N L G (many + 1) G2 := by
                      refine ⟨fun x w1 w2 w3 => (F3 x w1 w2).trans (o0 x w1 w2 w3), fun m hm => by rw [F3 m_sides (by decide) (by decide)]; exact qs m hm, fun j hj => ?_, ?_, fun x hx3 hx4 => ?_, up1 336 q4, fun S hS hS2 x hx3 hx4 => ?_⟩
                      · by_cases w : j = many
                        · subst w
                          exact ⟨he N q, hx.2, by rw [F2, if_pos rfl], by rw [F1, if_pos rfl]; decide⟩
                        · obtain ⟨b, b1, b2, b3⟩ := q1 j (by omega)
                          exact ⟨b, b1, by rw [F2, if_neg w]; exact b2, up1 b b3⟩
                      · rw [su_one (f := fun n => if G' m_far n = -1 then 0 else 1) (g := fun n => if G2 m_far n = -1 then 0 else 1) (n := 338) (k := he N q) (d := 1) hx.2 (fun x hx3 hne => by rw [F1, if_neg hne]) (by rw [F1, if_pos rfl, c3]; rfl), q2]; omega
                      · by_cases w : x = he N q
                        · exact ⟨many, by omega, by rw [F2, if_pos rfl, w]⟩
                        · rw [F1, if_neg w] at hx4
                          obtain ⟨j, j1, j2⟩ := q3 x hx3 hx4
                          exact ⟨j, by omega, by rw [F2, if_neg (by omega)]; exact j2⟩
                      · by_cases w : x = he N q
                        · subst w
                          obtain ⟨n', a1, a2, a3⟩ := q1 i hlt
                          have en : n' = n := by omega
                          subst en
                          exact hS2 q hq1 (by rw [hq2]; exact q5 S hS hS2 n' a1 a3) (by have := hL q hq1; omega)
                        · rw [F1, if_neg w] at hx4
                          exact q5 S hS hS2 x hx3 hx4
                    refine x_iincN d_M_sideOf_144 rfl (by decide) (by omega) (by omega) ?_
                    dsimp only [x_st1, x_st2, x_kill, List.set, List.getElem?_cons_zero, List.getElem?_cons_succ]
                    refine go (many + 1) G2 nq (fun j hj n2' hn2 => ?_) (by omega) (by rw [F2, if_neg (by omega)]; exact hi2) (done _ _ hdn) (Or.inr (by rw [F1, if_pos rfl]; decide))
                    rw [F2, if_neg (by omega)] at hn2
                    exact done _ _ (hd j hj n2' hn2)
                  · refine x_goto (147) d_M_sideOf_115 (by decide) ?_
                    exact go many G' hq hd hlt hi2 hdn (Or.inr c3)
        have bp := prv_lt N n (2 * N.1)
        refine inner (2 * N.1) (prv N n (2 * N.1)) many G' (by omega) bp.1 (fun q hq' => ?_) hq hd (by omega) n2 (fun q h1 h2 h3 => ?_)
        · have := prv_te hq'; exact ⟨this.2, this.1⟩
        · have := prv_max (N := N) (n := n) (e := 2 * N.1) h2 h1
          omega
  -- at first
  have second : ∀ G', (∀ i, i ≠ m_far → i ≠ m_queue → i ≠ m_sides → G' i = G i) → (∀ m, m < 21 → G' m_sides m = 0) → (∀ n, n < 0 → G' m_far n = -1) → x_A y_M_sideOf 23 [some oM, some (xI (by' : Int)), some (xI ((0 : Nat) : Int)), none, none] [] (S0, G') 0 0 Q := by
    refine x_up_to (P := fun i => ∀ G', (∀ i, i ≠ m_far → i ≠ m_queue → i ≠ m_sides → G' i = G i) → (∀ m, m < 21 → G' m_sides m = 0) → (∀ n, n < i → G' m_far n = -1) → x_A y_M_sideOf 23 [some oM, some (xI (by' : Int)), some (xI (i : Int)), none, none] [] (S0, G') 0 0 Q) 0 338 (Nat.zero_le _) ?_ (fun i _ hi k => ?_)
    · intro G2 f1 fs f2
      refine x_iload_n d_M_sideOf_23 rfl rfl ?_
      refine x_sipush (338) d_M_sideOf_24 rfl ⟨by decide, by decide⟩ ?_
      refine x_icmp_ge (43) d_M_sideOf_27 (by decide) (fun c0 => ?_) (fun c0 => ?_)
      · refine x_aload_n d_M_sideOf_43 rfl rfl ?_
        refine x_getF (kf := 62) d_M_sideOf_44 rfl rfl rfl in_M f_M_156 ?_
        refine x_sipush (336) d_M_sideOf_47 rfl ⟨by decide, by decide⟩ ?_
        refine x_iconst (0) d_M_sideOf_50 rfl ⟨by decide, by decide⟩ ?_
        refine x_iastN (336) d_M_sideOf_51 rfl (by omega) (by omega) ?_
        refine x_aload_n d_M_sideOf_52 rfl rfl ?_
        refine x_getF (kf := 63) d_M_sideOf_53 rfl rfl rfl in_M f_M_159 ?_
        refine x_iconst (0) d_M_sideOf_56 rfl ⟨by decide, by decide⟩ ?_
        refine x_sipush (336) d_M_sideOf_57 rfl ⟨by decide, by decide⟩ ?_
        refine x_iastN (0) d_M_sideOf_60 rfl (by omega) (by omega) ?_
        refine x_iconst (1) d_M_sideOf_61 rfl ⟨by decide, by decide⟩ ?_
        refine x_istore_n d_M_sideOf_62 rfl (by decide) ?_
        dsimp only [x_st1, x_st2, x_kill, List.set, List.getElem?_cons_zero, List.getElem?_cons_succ]
        refine x_iconst (0) d_M_sideOf_63 rfl ⟨by decide, by decide⟩ ?_
        refine x_istore_n d_M_sideOf_64 rfl (by decide) ?_
        dsimp only [x_st1, x_st2, x_kill, List.set, List.getElem?_cons_zero, List.getElem?_cons_succ]
        have F1 : ∀ x, up (up G2 m_far 336 0) m_queue 0 336 m_far x = if x = 336 then 0 else G2 m_far x := fun x => by
          rw [up_cell (by decide)]
          by_cases w : x = 336
          · subst w; rw [up_same, if_pos rfl]
          · rw [up_ne w, if_neg w]
        refine outer 1 _ ⟨fun x w1 w2 w3 => by rw [up_cell w2, up_cell w1]; exact f1 x w1 w2 w3, fun m hm => by rw [up_cell (by decide), up_cell (by decide)]; exact fs m hm, fun j hj => ?_, ?_, fun n h1 h2 => ?_, ?_, fun S hS hS2 n h1 h2 => ?_⟩ (fun j hj => absurd hj (Nat.not_lt_zero j)) (by omega)
        · have : j = 0 := by omega
          subst this
          exact ⟨336, by omega, by rw [up_same]; rfl, by rw [F1, if_pos rfl]; decide⟩
        · rw [su_one (f := fun _ => 0) (g := fun n => if up (up G2 m_far 336 0) m_queue 0 336 m_far n = -1 then 0 else 1) (n := 338) (k := 336) (d := 1) (by omega) (fun x hx3 hne => by rw [F1, if_neg hne, f2 x hx3]; rfl) (by rw [F1, if_pos rfl]; rfl), su_zero]; rfl
        · rw [F1] at h2
          by_cases w : n = 336
          · exact ⟨0, by omega, by rw [up_same, w]; rfl⟩
          · rw [if_neg w, f2 n h1] at h2; exact absurd rfl h2
        · rw [F1, if_pos rfl]; decide
        · rw [F1] at h2
          by_cases w : n = 336
          · rw [w]; exact hS
          · rw [if_neg w, f2 n h1] at h2; exact absurd rfl h2
      · omega
    · intro G2 f1 fs f2
      refine x_iload_n d_M_sideOf_23 rfl rfl ?_
      refine x_sipush (338) d_M_sideOf_24 rfl ⟨by decide, by decide⟩ ?_
      refine x_icmp_ge (43) d_M_sideOf_27 (by decide) (fun c0 => ?_) (fun c0 => ?_)
      · omega
      · refine x_aload_n d_M_sideOf_30 rfl rfl ?_
        refine x_getF (kf := 62) d_M_sideOf_31 rfl rfl rfl in_M f_M_156 ?_
        refine x_iload_n d_M_sideOf_34 rfl rfl ?_
        refine x_iconst (-1) d_M_sideOf_35 rfl ⟨by decide, by decide⟩ ?_
        refine x_iastN (i) d_M_sideOf_36 rfl (by omega) (by omega) ?_
        refine x_iincN d_M_sideOf_37 rfl (by decide) (by omega) (by omega) ?_
        dsimp only [x_st1, x_st2, x_kill, List.set, List.getElem?_cons_zero, List.getElem?_cons_succ]
        refine x_goto (23) d_M_sideOf_40 (by decide) ?_
        refine k _ (fun x w1 w2 w3 => by rw [up_cell w1]; exact f1 x w1 w2 w3) (fun m hm => by rw [up_cell (by decide)]; exact fs m hm) (fun n hn => ?_)
        by_cases q : n = i
        · subst q; rw [up_same]
        · rw [up_ne q]; exact f2 n (by omega)
  have first : ∀ G', (∀ i, i ≠ m_sides → G' i = G i) → (∀ m, m < 0 → G' m_sides m = 0) → x_A y_M_sideOf 2 [some oM, some (xI (by' : Int)), some (xI ((0 : Nat) : Int)), none, none] [] (S0, G') 0 0 Q := by
    refine x_up_to (P := fun i => ∀ G', (∀ i, i ≠ m_sides → G' i = G i) → (∀ m, m < i → G' m_sides m = 0) → x_A y_M_sideOf 2 [some oM, some (xI (by' : Int)), some (xI (i : Int)), none, none] [] (S0, G') 0 0 Q) 0 21 (Nat.zero_le _) ?_ (fun i _ hi k => ?_)
    · intro G2 f1 f2
      refine x_iload_n d_M_sideOf_2 rfl rfl ?_
      refine x_bipush (21) d_M_sideOf_3 rfl ⟨by decide, by decide⟩ ?_
      refine x_icmp_ge (21) d_M_sideOf_5 (by decide) (fun c0 => ?_) (fun c0 => ?_)
      · refine x_iconst (0) d_M_sideOf_21 rfl ⟨by decide, by decide⟩ ?_
        refine x_istore_n d_M_sideOf_22 rfl (by decide) ?_
        dsimp only [x_st1, x_st2, x_kill, List.set, List.getElem?_cons_zero, List.getElem?_cons_succ]
        exact second G2 (fun i w1 w2 w3 => f1 i w3) f2 (fun n hn => absurd hn (Nat.not_lt_zero n))
      · omega
    · intro G2 f1 f2
      refine x_iload_n d_M_sideOf_2 rfl rfl ?_
      refine x_bipush (21) d_M_sideOf_3 rfl ⟨by decide, by decide⟩ ?_
      refine x_icmp_ge (21) d_M_sideOf_5 (by decide) (fun c0 => ?_) (fun c0 => ?_)
      · omega
      · refine x_aload_n d_M_sideOf_8 rfl rfl ?_
        refine x_getF (kf := 69) d_M_sideOf_9 rfl rfl rfl in_M f_M_174 ?_
        refine x_iload_n d_M_sideOf_12 rfl rfl ?_
        refine x_iconst (0) d_M_sideOf_13 rfl ⟨by decide, by decide⟩ ?_
        refine x_iastN (i) d_M_sideOf_14 rfl (by omega) (by omega) ?_
        refine x_iincN d_M_sideOf_15 rfl (by decide) (by omega) (by omega) ?_
        dsimp only [x_st1, x_st2, x_kill, List.set, List.getElem?_cons_zero, List.getElem?_cons_succ]
        refine x_goto (2) d_M_sideOf_18 (by decide) ?_
        refine k _ (fun x w1 => by rw [up_cell w1]; exact f1 x w1) (fun n hn => ?_)
        by_cases q : n = i
        · subst q; rw [up_same]
        · rw [up_ne q]; exact f2 n (by omega)
  refine x_iconst (0) d_M_sideOf_0 rfl ⟨by decide, by decide⟩ ?_
  refine x_istore_n d_M_sideOf_1 rfl (by decide) ?_
  dsimp only [x_st1, x_st2, x_kill, List.set, List.getElem?_cons_zero, List.getElem?_cons_succ]
  exact first G (fun _ _ => rfl) (fun n hn => absurd hn (Nat.not_lt_zero n))
