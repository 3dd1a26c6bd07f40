/-! the reference: pushes -/
theorem fOK.congr {N : NT} {L L' : Nat → Int} {val : Int} (h : fOK N L val) (e : ∀ i, i < 2 * N.1 → L i = L' i) : fOK N L' val := by
  refine ⟨fun k hk => ?_, fun χ => ?_⟩
  · rw [← e (2 * k) (by omega), ← e (2 * k + 1) (by omega)]; exact h.1 k hk
  · rw [← h.2 χ]
    exact su_congr (fun k hk => by rw [e (2 * k + 1) (by omega)])
def lCut (N : NT) (L : Nat → Int) : Nat → Int := fun e => if e < 2 * N.1 then L e else 0
theorem lCut_bd {N : NT} {L : Nat → Int} {val : Int} (hw : nWf N) (h : fOK N L val) (e : Nat) : 0 ≤ lCut N L e ∧ lCut N L e ≤ 1000000 := by
  unfold lCut
  split
  · next c =>
    have g := h.1 (e / 2) (by omega)
    have w := hw.2 (e / 2) (by omega)
    by_cases q : e % 2 = 0
    · rw [show 2 * (e / 2) = e by omega] at g; omega
    · rw [show 2 * (e / 2) + 1 = e by omega] at g; omega
  · omega
theorem lCut_eq {N : NT} {L : Nat → Int} {e : Nat} (h : e < 2 * N.1) : lCut N L e = L e := by unfold lCut; rw [if_pos h]
/-- the state of pushes: sum, where it is, how many steps, the path, what is left -/
def pInv (N : NT) (Lb far : Nat → Int) (val : Int) (G : Nat → Nat → Int) (sum : Int) (at' steps : Nat) (p : Nat → Nat) (L : Nat → Int) (G' : Nat → Nat → Int) : Prop :=
  (∀ i, i ≠ m_now → i ≠ m_path → i ≠ m_left → G' i = G i) ∧ (∀ e, e < 2 * N.1 → G' m_left e = L e) ∧ fOK N L (val + sum) ∧ (∀ e, 0 ≤ L e ∧ L e ≤ 1000000) ∧
  (∀ n, n < 338 → -1 ≤ G' m_now n ∧ ∀ q : Nat, G' m_now n = q → q < 2 * N.1 ∧ te N q = n) ∧
  (∀ j, j < steps → G' m_path j = p j ∧ p j < 2 * N.1 ∧ te N (p j) = pend N p 336 j ∧ 0 < L (p j) ∧ far (he N (p j)) = far 336 - (j + 1) ∧ G' m_now (te N (p j)) = p j) ∧
  at' = pend N p 336 steps ∧ far at' = far 336 - steps ∧ 0 ≤ far at' ∧ 0 ≤ sum ∧
  (sum = 0 → (∀ e, e < 2 * N.1 → L e = Lb e) ∧ ∀ n, n < 338 → 0 < far n → ∃ e : Nat, (e : Int) ≤ G' m_now n ∧ e < 2 * N.1 ∧ te N e = n ∧ 0 < Lb e ∧ far (he N e) = far n - 1)
def pM (B val sum : Int) (far : Nat → Int) (at' : Nat) (G' : Nat → Nat → Int) : Int := (B - (val + sum)) * 300000000 + su (fun n => G' m_now n + 1) 338 * 338 + far at'
def mPushed (N : NT) (val : Int) (G : Nat → Nat → Int) : Option XV → XM → Prop := fun v τ => ∃ G' L s, τ = (S0, G') ∧ (∀ i, i ≠ m_now → i ≠ m_path → i ≠ m_left → G' i = G i) ∧ (∀ e, e < 2 * N.1 → G' m_left e = L e) ∧ fOK N L (val + s) ∧ (∀ e, 0 ≤ L e ∧ L e ≤ 1000000) ∧ 1 ≤ s ∧ v = some (xI s)
theorem su_step {f g : Nat → Int} {n k : Nat} (hk : k < n) (h : ∀ i, i < n → i ≠ k → g i = f i) : su g n = su f n + (g k - f k) := su_one hk h (by omega)
theorem s_pushes {N : NT} {Lb : Nat → Int} {G : Nat → Nat → Int} {val : Int} (hw : nWf N) (hn : mNet N Lb G) (hf : fOK N Lb val) (hv : 0 ≤ val) (hl : lFar N Lb (G m_far)) (hs : G m_far 336 ≠ -1) : x_M y_M_pushes [oM] (S0, G) (fun r τ => ∃ v, r = .inl v ∧ mPushed N val G v τ) := by
  obtain ⟨e1, e2, e3⟩ := hn
  have hK := hw.1
  generalize hfar : G m_far = far at hl hs
  obtain ⟨l1, l2, l3, l4⟩ := hl
  have f336 : 1 ≤ far 336 ∧ far 336 ≤ 337 := by
    have := l2 336 (by omega)
    have h0 : far 336 ≠ 0 := fun z => by have := this.2.2 z; omega
    omega
  obtain ⟨B, hB⟩ : ∃ B, B = cut N (fun n => decide (n = 336)) := ⟨_, rfl⟩
  have bB : ∀ {L s}, fOK N L s → s ≤ B := fun h => by rw [hB]; exact f_le h ⟨rfl, rfl⟩
  have bB2 : B ≤ 1200000000 := by
    rw [hB]
    have := su_bd (f := fun k => ind (fun n => decide (n = 336)) (N.2.1 k) (N.2.2.1 k) (N.2.2.2 k)) (c := 0) (d := 1000000) (n := N.1) (fun k hk => by have := hw.2 k hk; unfold ind; split <;> omega)
    have h2 : (N.1 : Int) * 1000000 ≤ 1200 * 1000000 := Int.mul_le_mul_of_nonneg_right (by omega) (by omega)
    unfold cut
    omega
  refine x_of 4 rfl (Nat.le_of_ble_eq_true rfl) ?_
  show x_A y_M_pushes 0 [some oM, none, none, none, none] [] (S0, G) 0 0 _
  generalize hQ : (fun (r : XRes) (τ : XM) => ∃ v, r = .inl v ∧ mPushed N val G v τ) = Q
  -- one step, from where it is
  have step60 : ∀ sum at' steps p L G', pInv N Lb far val G sum at' steps p L G' → at' ≠ 337 →
      (∀ at2 steps2 p2 G2, pInv N Lb far val G sum at2 steps2 p2 L G2 → pM B val sum far at2 G2 < pM B val sum far at' G' → x_A y_M_pushes 39 [some oM, some (xI sum), some (xI (at2 : Int)), some (xI (steps2 : Int)), none] [] (S0, G2) 0 0 Q) →
      x_A y_M_pushes 60 [some oM, some (xI sum), some (xI (at' : Int)), some (xI (steps : Int)), none] [] (S0, G') 0 0 Q := by
    intro sum at' steps p L G' hI hne kk
    obtain ⟨i1, i2, i3, i4, i5, i6, i7, i8, i9, i10, i11⟩ := id hI
    have efar : G' m_far = far := by rw [i1 m_far (by decide) (by decide) (by decide), hfar]
    have hat : at' < 338 := by
      rw [i7]
      cases steps with
      | zero => show 336 < 338; omega
      | succ j => exact (te_lt hw (i6 j (by omega)).2.1).2
    have fat : 0 < far at' := by
      have := l2 at' hat
      have h0 : far at' ≠ 0 := fun z => hne (this.2.2 z)
      omega
    have hnow := i5 at' hat
    have bsum := bB i3
    -- the arc e is looked at: all above it are no good
    have found : ∀ (e : Int), -1 ≤ e → e ≤ G' m_now at' → (∀ q : Nat, e = q → q < 2 * N.1 ∧ te N q = at' ∧ 0 < L q ∧ far (he N q) = far at' - 1) → (e = -1 → sum ≠ 0) → x_A y_M_pushes 119 [some oM, some (xI sum), some (xI (at' : Int)), some (xI (steps : Int)), some (xI e)] [] (S0, G') 0 0 Q := by
      intro e h1 h2 h3 h4
      refine x_aload_n d_M_pushes_119 rfl rfl ?_
      refine x_getF (kf := 61) d_M_pushes_120 rfl rfl rfl in_M f_M_153 ?_
      refine x_iload_n d_M_pushes_123 rfl rfl ?_
      refine x_iload d_M_pushes_124 rfl ?_
      refine x_iastN (at') d_M_pushes_126 rfl (by omega) (by omega) ?_
      have N1 : ∀ n, up G' m_now at' e m_now n = if n = at' then e else G' m_now n := fun n => by
        by_cases w : n = at'
        · subst w; rw [up_same, if_pos rfl]
        · rw [up_ne w, if_neg w]
      have farP : ∀ j, j < steps → te N (p j) ≠ at' := fun j hj z => by
        have a1 := (i6 j hj).2.2.1
        have a2 : far (pend N p 336 j) = far 336 - j := by
          cases j with
          | zero => show far 336 = _; omega
          | succ j => have := (i6 j (by omega)).2.2.2.2.1; show far (he N (p j)) = _; omega
        rw [← a1, z] at a2
        omega
      have s1 := su_step (f := fun n => G' m_now n + 1) (g := fun n => up G' m_now at' e m_now n + 1) (n := 338) (k := at') hat (fun i _ hi => by rw [N1, if_neg hi])
      try dsimp only at s1
      rw [N1, if_pos rfl] at s1
      refine x_iload d_M_pushes_127 rfl ?_
      refine x_iconst (-1) d_M_pushes_129 rfl ⟨by decide, by decide⟩ ?_
      refine x_icmp_eq (155) d_M_pushes_130 (by decide) (fun c1 => ?_) (fun c1 => ?_)
      · refine x_iload_n d_M_pushes_155 rfl rfl ?_
        subst c1
        have sn := h4 rfl
        refine x_if_ne (161) d_M_pushes_156 (by decide) (fun c2 => ?_) (fun c2 => ?_)
        · -- back
          obtain ⟨j, rfl⟩ : ∃ j, steps = j + 1 := ⟨steps - 1, by omega⟩
          obtain ⟨a1, a2, a3, a4, a5, a6⟩ := i6 j (by omega)
          have hx := te_lt hw a2
          have hx2 := xr_lt a2
          have et : G' m_to (xr (p j)) = te N (p j) := by rw [i1 m_to (by decide) (by decide) (by decide), (e2 _ hx2).1, he_xr]
          have farj : te N (p j) ≠ at' := farP j (by omega)
          have eb : G' m_behind (p j) = prv N (te N (p j)) (p j) := by rw [i1 m_behind (by decide) (by decide) (by decide)]; exact (e2 _ a2).2.1
          have bp := prv_lt N (te N (p j)) (p j)
          refine x_iincN d_M_pushes_161 rfl (by decide) (by omega) (by omega) ?_
          dsimp only [x_st1, x_st2, x_kill, List.set, List.getElem?_cons_zero, List.getElem?_cons_succ]
          refine x_aload_n d_M_pushes_164 rfl rfl ?_
          refine x_getF (kf := 66) d_M_pushes_165 rfl rfl rfl in_M f_M_168 ?_
          refine x_aload_n d_M_pushes_168 rfl rfl ?_
          refine x_getF (kf := 64) d_M_pushes_169 rfl rfl rfl in_M f_M_162 ?_
          refine x_iload_n d_M_pushes_172 rfl rfl ?_
          refine x_ialdN (j) d_M_pushes_173 rfl (by omega) (by omega) ?_
          rw [up_cell (by decide), a1]
          refine x_iconst (1) d_M_pushes_174 rfl ⟨by decide, by decide⟩ ?_
          refine x_ixor d_M_pushes_175 ?_
          rw [x_xor1 (by omega)]
          refine x_ialdN (xr (p j)) d_M_pushes_176 rfl (by omega) (by omega) ?_
          rw [up_cell (by decide), et]
          refine x_istore_n d_M_pushes_177 rfl (by decide) ?_
          dsimp only [x_st1, x_st2, x_kill, List.set, List.getElem?_cons_zero, List.getElem?_cons_succ]
          refine x_aload_n d_M_pushes_178 rfl rfl ?_
          refine x_getF (kf := 61) d_M_pushes_179 rfl rfl rfl in_M f_M_153 ?_
          refine x_iload_n d_M_pushes_182 rfl rfl ?_
          refine x_aload_n d_M_pushes_183 rfl rfl ?_
          refine x_getF (kf := 65) d_M_pushes_184 rfl rfl rfl in_M f_M_165 ?_
          refine x_aload_n d_M_pushes_187 rfl rfl ?_
          refine x_getF (kf := 61) d_M_pushes_188 rfl rfl rfl in_M f_M_153 ?_
          refine x_iload_n d_M_pushes_191 rfl rfl ?_
          refine x_ialdN (te N (p j)) d_M_pushes_192 rfl (by omega) (by omega) ?_
          rw [N1, if_neg farj, a6]
          refine x_ialdN (p j) d_M_pushes_193 rfl (by omega) (by omega) ?_
          rw [up_cell (by decide), eb]
          refine x_iastN (te N (p j)) d_M_pushes_194 rfl (by omega) (by omega) ?_
          have N2 : ∀ n, up (up G' m_now at' (-1)) m_now (te N (p j)) (prv N (te N (p j)) (p j)) m_now n = if n = te N (p j) then prv N (te N (p j)) (p j) else if n = at' then -1 else G' m_now n := fun n => by
            by_cases w : n = te N (p j)
            · subst w; rw [up_same, if_pos rfl]
            · rw [up_ne w, if_neg w, N1]
          have s2 := su_step (f := fun n => up G' m_now at' (-1) m_now n + 1) (g := fun n => up (up G' m_now at' (-1)) m_now (te N (p j)) (prv N (te N (p j)) (p j)) m_now n + 1) (n := 338) (k := te N (p j)) hx.1 (fun i _ hi => by rw [up_ne hi])
          try dsimp only at s2
          rw [N2, if_pos rfl, N1, if_neg farj, a6] at s2
          have O2 : ∀ i, i ≠ m_now → up (up G' m_now at' (-1)) m_now (te N (p j)) (prv N (te N (p j)) (p j)) i = G' i := fun i w => by rw [up_cell w, up_cell w]
          generalize up (up G' m_now at' (-1)) m_now (te N (p j)) (prv N (te N (p j)) (p j)) = G2 at N2 s2 O2
          have ftj : far (te N (p j)) = far 336 - j := by
            rw [a3]
            cases j with
            | zero => show far 336 = _; omega
            | succ j => have := (i6 j (by omega)).2.2.2.2.1; show far (he N (p j)) = _; omega
          refine x_goto (39) d_M_pushes_195 (by decide) ?_
          refine x_sub (lv' := [some oM, some (xI sum), some (xI ((te N (p j) : Nat) : Int)), some (xI (j : Int)), none]) (fun z v hz => by
            match z, hz with
            | 0, hz => exact hz
            | 1, hz => exact hz
            | 2, hz => exact hz
            | 3, hz => rw [show ((j + 1 : Nat) : Int) + -1 = (j : Int) by omega]; exact hz
            | 4, hz => cases hz
            | z + 5, hz => cases hz) (kk (te N (p j)) j p G2 ⟨fun i w1 w2 w3 => (O2 i w1).trans (i1 i w1 w2 w3), fun e he' => by rw [O2 m_left (by decide)]; exact i2 e he', i3, i4, fun n hn' => ?_, fun z hz => ?_, a3, ftj, by omega, i10, fun z => absurd z sn⟩ ?_)
          · rw [N2]
            by_cases w : n = te N (p j)
            · rw [if_pos w]
              refine ⟨bp.1, fun q hq => ?_⟩
              have := prv_te hq
              exact ⟨by omega, by rw [w]; exact this.1⟩
            · rw [if_neg w]
              by_cases w2 : n = at'
              · rw [if_pos w2]; exact ⟨by omega, fun q hq => by omega⟩
              · rw [if_neg w2]; exact i5 n hn'
          · obtain ⟨b1, b2, b3, b4, b5, b6⟩ := i6 z (by omega)
            refine ⟨by rw [O2 m_path (by decide)]; exact b1, b2, b3, b4, b5, ?_⟩
            have w1 : te N (p z) ≠ te N (p j) := fun q => by
              have c5 : far (te N (p z)) = far 336 - z := by
                rw [b3]
                cases z with
                | zero => show far 336 = _; omega
                | succ z => have := (i6 z (by omega)).2.2.2.2.1; show far (he N (p z)) = _; omega
              rw [q, ftj] at c5
              omega
            rw [N2, if_neg w1, if_neg (farP z (by omega))]
            exact b6
          · unfold pM
            rw [s2, s1]
            omega
        · -- the end
          have hst : steps = 0 := by omega
          refine x_iload_n d_M_pushes_159 rfl rfl ?_
          refine x_ireturn d_M_pushes_160 rfl ?_ (Nat.zero_le _) (Nat.zero_le _)
          rw [← hQ]
          exact ⟨_, rfl, _, L, sum, rfl, fun i w1 w2 w3 => by rw [up_cell w1]; exact i1 i w1 w2 w3, fun e he' => by rw [up_cell (by decide)]; exact i2 e he', i3, i4, by omega, rfl⟩
      · -- on
        obtain ⟨q, rfl⟩ : ∃ q : Nat, e = q := ⟨e.toNat, by omega⟩
        obtain ⟨a1, a2, a3, a4⟩ := h3 q rfl
        have hx := te_lt hw a1
        have et : G' m_to q = he N q := by rw [i1 m_to (by decide) (by decide) (by decide)]; exact (e2 _ a1).1
        refine x_aload_n d_M_pushes_133 rfl rfl ?_
        refine x_getF (kf := 64) d_M_pushes_134 rfl rfl rfl in_M f_M_162 ?_
        refine x_iload_n d_M_pushes_137 rfl rfl ?_
        refine x_iload d_M_pushes_138 rfl ?_
        refine x_iastN (steps) d_M_pushes_140 rfl (by omega) (by omega) ?_
        refine x_iincN d_M_pushes_141 rfl (by decide) (by omega) (by omega) ?_
        dsimp only [x_st1, x_st2, x_kill, List.set, List.getElem?_cons_zero, List.getElem?_cons_succ]
        refine x_aload_n d_M_pushes_144 rfl rfl ?_
        refine x_getF (kf := 66) d_M_pushes_145 rfl rfl rfl in_M f_M_168 ?_
        refine x_iload d_M_pushes_148 rfl ?_
        refine x_ialdN (q) d_M_pushes_150 rfl (by omega) (by omega) ?_
        rw [up_cell (by decide), up_cell (by decide), et]
        refine x_istore_n d_M_pushes_151 rfl (by decide) ?_
        dsimp only [x_st1, x_st2, x_kill, List.set, List.getElem?_cons_zero, List.getElem?_cons_succ]
        refine x_goto (195) d_M_pushes_152 (by decide) ?_
        refine x_goto (39) d_M_pushes_195 (by decide) ?_
        have O2 : ∀ i, i ≠ m_now → i ≠ m_path → up (up G' m_now at' q) m_path steps q i = G' i := fun i w1 w2 => by rw [up_cell w2, up_cell w1]
        have N2 : ∀ n, up (up G' m_now at' q) m_path steps q m_now n = if n = at' then (q : Int) else G' m_now n := fun n => by rw [up_cell (by decide), N1]
        have P2 : ∀ n, up (up G' m_now at' q) m_path steps q m_path n = if n = steps then (q : Int) else G' m_path n := fun n => by
          by_cases w : n = steps
          · subst w; rw [up_same, if_pos rfl]
          · rw [up_ne w, if_neg w, up_cell (by decide)]
        have s3 : su (fun n => up (up G' m_now at' q) m_path steps q m_now n + 1) 338 = su (fun n => up G' m_now at' q m_now n + 1) 338 := su_congr (fun n _ => by rw [N2, N1])
        generalize up (up G' m_now at' q) m_path steps q = G2 at O2 N2 P2 s3
        have pe : ∀ j, j ≤ steps → pend N (fun z => if z = steps then q else p z) 336 j = pend N p 336 j := fun j hj => by
          cases j with
          | zero => rfl
          | succ j => show he N (if j = steps then q else p j) = he N (p j); rw [if_neg (by omega)]
        refine x_sub (lv' := [some oM, some (xI sum), some (xI ((he N q : Nat) : Int)), some (xI ((steps + 1 : Nat) : Int)), none]) (fun z v hz => by
          match z, hz with
          | 0, hz => exact hz
          | 1, hz => exact hz
          | 2, hz => exact hz
          | 3, hz => exact hz
          | 4, hz => cases hz
          | z + 5, hz => cases hz) (kk (he N q) (steps + 1) (fun z => if z = steps then q else p z) G2 ⟨fun i w1 w2 w3 => (O2 i w1 w2).trans (i1 i w1 w2 w3), fun e he' => by rw [O2 m_left (by decide) (by decide)]; exact i2 e he', i3, i4, fun n hn' => ?_, fun j hj => ?_, ?_, ?_, ?_, i10, fun z => ⟨(i11 z).1, fun n hn' hp' => ?_⟩⟩ ?_)
        · rw [N2]
          by_cases w : n = at'
          · rw [if_pos w]; exact ⟨by omega, fun q' hq' => by have : q' = q := by omega
                                                             subst this; exact ⟨a1, by rw [w]; exact a2⟩⟩
          · rw [if_neg w]; exact i5 n hn'
        · rw [pe j (by omega)]
          by_cases w : j = steps
          · subst w
            simp only [if_true]
            rw [P2, if_pos rfl]
            refine ⟨rfl, a1, a2.trans i7, a3, by omega, ?_⟩
            rw [N2, if_pos a2]
          · obtain ⟨b1, b2, b3, b4, b5, b6⟩ := i6 j (by omega)
            simp only [w, if_false]
            rw [P2, if_neg w]
            refine ⟨b1, b2, b3, b4, b5, ?_⟩
            rw [N2, if_neg (farP j (by omega))]
            exact b6
        · show he N q = he N (if steps = steps then q else p steps)
          rw [if_pos rfl]
        · omega
        · omega
        · by_cases w : n = at'
          · subst w
            exact ⟨q, by rw [N2, if_pos rfl]; omega, a1, a2, by rw [← (i11 z).1 q a1]; exact a3, a4⟩
          · rw [N2, if_neg w]
            exact (i11 z).2 n hn' hp'
        · unfold pM
          rw [s3, s1]
          omega
    refine x_aload_n d_M_pushes_60 rfl rfl ?_
    refine x_getF (kf := 61) d_M_pushes_61 rfl rfl rfl in_M f_M_153 ?_
    refine x_iload_n d_M_pushes_64 rfl rfl ?_
    refine x_ialdN (at') d_M_pushes_65 rfl (by omega) (by omega) ?_
    refine x_istore d_M_pushes_66 (by decide) ?_
    dsimp only [x_st1, x_st2, x_kill, List.set, List.getElem?_cons_zero, List.getElem?_cons_succ]
    have scan : ∀ (fuel : Nat) (e : Int), e < fuel → -1 ≤ e → e ≤ G' m_now at' → (∀ q : Nat, e = q → q < 2 * N.1 ∧ te N q = at') → (sum = 0 → ∃ q : Nat, (q : Int) ≤ e ∧ q < 2 * N.1 ∧ te N q = at' ∧ 0 < L q ∧ far (he N q) = far at' - 1) → x_A y_M_pushes 68 [some oM, some (xI sum), some (xI (at' : Int)), some (xI (steps : Int)), some (xI e)] [] (S0, G') 0 0 Q := by
      intro fuel
      induction fuel with
      | zero =>
        intro e h1 h2 h3 h4 h5
        have he0 : e = -1 := by omega
        subst he0
        refine x_iload d_M_pushes_68 rfl ?_
        refine x_iconst (-1) d_M_pushes_70 rfl ⟨by decide, by decide⟩ ?_
        refine x_icmp_eq (119) d_M_pushes_71 (by decide) (fun c1 => ?_) (fun c1 => ?_)
        · exact found (-1) (by omega) (by omega) (fun q hq => by omega) (fun _ z => by obtain ⟨q, hq, -⟩ := h5 z; omega)
        · exact absurd rfl c1
      | succ fuel ih =>
        intro e h1 h2 h3 h4 h5
        by_cases he0 : e < (fuel : Int)
        · exact ih e he0 h2 h3 h4 h5
        · obtain ⟨q, rfl⟩ : ∃ q : Nat, e = q := ⟨e.toNat, by omega⟩
          obtain ⟨a1, a2⟩ := h4 q rfl
          have hx := te_lt hw a1
          have et : G' m_to q = he N q := by rw [i1 m_to (by decide) (by decide) (by decide)]; exact (e2 _ a1).1
          have eb : G' m_behind q = prv N at' q := by rw [i1 m_behind (by decide) (by decide) (by decide), (e2 _ a1).2.1, a2]
          have bp := prv_lt N at' q
          have nxt : ¬ (0 < L q ∧ far (he N q) = far at' - 1) → x_A y_M_pushes 107 [some oM, some (xI sum), some (xI (at' : Int)), some (xI (steps : Int)), some (xI (q : Int))] [] (S0, G') 0 0 Q := by
            intro hno
            refine x_aload_n d_M_pushes_107 rfl rfl ?_
            refine x_getF (kf := 65) d_M_pushes_108 rfl rfl rfl in_M f_M_165 ?_
            refine x_iload d_M_pushes_111 rfl ?_
            refine x_ialdN (q) d_M_pushes_113 rfl (by omega) (by omega) ?_
            rw [eb]
            refine x_istore d_M_pushes_114 (by decide) ?_
            dsimp only [x_st1, x_st2, x_kill, List.set, List.getElem?_cons_zero, List.getElem?_cons_succ]
            refine x_goto (68) d_M_pushes_116 (by decide) ?_
            refine ih (prv N at' q) (by omega) bp.1 (by omega) (fun z hz => ?_) (fun z => ?_)
            · have := prv_te hz; exact ⟨by omega, this.1⟩
            · obtain ⟨w, w1, w2, w3, w4, w5⟩ := h5 z
              have : w ≠ q := fun y => by subst y; exact hno ⟨w4, w5⟩
              exact ⟨w, prv_max w3 (by omega), w2, w3, w4, w5⟩
          refine x_iload d_M_pushes_68 rfl ?_
          refine x_iconst (-1) d_M_pushes_70 rfl ⟨by decide, by decide⟩ ?_
          refine x_icmp_eq (119) d_M_pushes_71 (by decide) (fun c1 => ?_) (fun c1 => ?_)
          · omega
          · refine x_aload_n d_M_pushes_74 rfl rfl ?_
            refine x_getF (kf := 67) d_M_pushes_75 rfl rfl rfl in_M f_M_171 ?_
            refine x_iload d_M_pushes_78 rfl ?_
            refine x_ialdN (q) d_M_pushes_80 rfl (by omega) (by omega) ?_
            rw [i2 q a1]
            refine x_if_eq (107) d_M_pushes_81 (by decide) (fun c2 => ?_) (fun c2 => ?_)
            · exact nxt (fun z => by omega)
            · have lq := (i4 q).1
              have bat := l2 at' hat
              refine x_aload_n d_M_pushes_84 rfl rfl ?_
              refine x_getF (kf := 62) d_M_pushes_85 rfl rfl rfl in_M f_M_156 ?_
              refine x_aload_n d_M_pushes_88 rfl rfl ?_
              refine x_getF (kf := 66) d_M_pushes_89 rfl rfl rfl in_M f_M_168 ?_
              refine x_iload d_M_pushes_92 rfl ?_
              refine x_ialdN (q) d_M_pushes_94 rfl (by omega) (by omega) ?_
              rw [et]
              refine x_ialdN (he N q) d_M_pushes_95 rfl (by omega) (by omega) ?_
              rw [efar]
              refine x_aload_n d_M_pushes_96 rfl rfl ?_
              refine x_getF (kf := 62) d_M_pushes_97 rfl rfl rfl in_M f_M_156 ?_
              refine x_iload_n d_M_pushes_100 rfl rfl ?_
              refine x_ialdN (at') d_M_pushes_101 rfl (by omega) (by omega) ?_
              rw [efar]
              refine x_iconst (1) d_M_pushes_102 rfl ⟨by decide, by decide⟩ ?_
              refine x_isubN d_M_pushes_103 (by omega) (by omega) ?_
              refine x_icmp_eq (119) d_M_pushes_104 (by decide) (fun c3 => ?_) (fun c3 => ?_)
              · exact found q (by omega) h3 (fun z hz => by have : z = q := by omega
                                                            subst this; exact ⟨a1, a2, by omega, c3⟩) (fun z => by omega)
              · exact nxt (fun z => c3 z.2)
    have hx0 : G' m_now at' < 2400 := by
      apply Classical.byContradiction
      intro hb
      have := (hnow.2 (G' m_now at').toNat (by omega)).1
      omega
    refine scan 2400 (G' m_now at') (by omega) hnow.1 (Int.le_refl _) hnow.2 (fun z => ?_)
    obtain ⟨z1, z2⟩ := i11 z
    obtain ⟨q, q1, q2, q3, q4, q5⟩ := z2 at' hat fat
    exact ⟨q, q1, q2, q3, by rw [z1 q q2]; exact q4, q5⟩
  -- all steps
  have all : ∀ (fuel : Nat) sum at' steps p L G', pInv N Lb far val G sum at' steps p L G' → pM B val sum far at' G' < fuel → x_A y_M_pushes 39 [some oM, some (xI sum), some (xI (at' : Int)), some (xI (steps : Int)), none] [] (S0, G') 0 0 Q := by
    intro fuel
    induction fuel with
    | zero =>
      intro sum at' steps p L G' hI hM
      obtain ⟨i1, i2, i3, i4, i5, i6, i7, i8, i9, i10, i11⟩ := hI
      have b1 := bB i3
      have b2 := su_nonneg (f := fun n => G' m_now n + 1) (n := 338) (fun j hj => by have := (i5 j hj).1; omega)
      unfold pM at hM
      omega
    | succ fuel ih =>
      intro sum at' steps p L G' hI hM
      obtain ⟨i1, i2, i3, i4, i5, i6, i7, i8, i9, i10, i11⟩ := id hI
      have b1 := bB i3
      refine x_iload_n d_M_pushes_39 rfl rfl ?_
      refine x_sipush (337) d_M_pushes_40 rfl ⟨by decide, by decide⟩ ?_
      refine x_icmp_ne (60) d_M_pushes_43 (by decide) (fun c0 => ?_) (fun c0 => ?_)
      · exact step60 sum at' steps p L G' hI (by omega) (fun at2 steps2 p2 G2 hI2 hM2 => ih sum at2 steps2 p2 L G2 hI2 (by omega))
      · have ha : at' = 337 := by omega
        subst ha
        have hd : ∀ j k, j < steps → k < steps → p j = p k → j = k := fun j k hj hk z => by
          have a1 := (i6 j hj).2.2.2.2.1
          have a2 := (i6 k hk).2.2.2.2.1
          rw [z] at a1
          omega
        have st : (steps : Int) = far 336 := by rw [l1] at i8; omega
        have mn : mNet N L G' := ⟨by rw [i1 o_M (by decide) (by decide) (by decide)]; exact e1, fun e he' => ⟨by rw [i1 m_to (by decide) (by decide) (by decide)]; exact (e2 e he').1, by rw [i1 m_behind (by decide) (by decide) (by decide)]; exact (e2 e he').2.1, i2 e he'⟩, fun n hn' => by rw [i1 m_head (by decide) (by decide) (by decide)]; exact e3 n hn'⟩
        refine x_iload_n d_M_pushes_46 rfl rfl ?_
        refine x_aload_n d_M_pushes_47 rfl rfl ?_
        refine x_iload_n d_M_pushes_48 rfl rfl ?_
        refine x_VQ d_M_pushes_49 e_M_pushes_M_passes ⟨rfl, rfl, Nat.zero_le _, Nat.zero_le _⟩ rfl rfl rfl rfl (Nat.le_of_ble_eq_true rfl) (s_passes hw mn i4 p steps (fun i hi => ⟨(i6 i hi).1, (i6 i hi).2.1⟩) (by omega)) (fun v τ hv2 => ?_)
        obtain ⟨rfl, G2, rfl, g1, g2⟩ := hv2
        show x_A y_M_pushes 52 [some oM, some (xI sum), some (xI ((337 : Nat) : Int)), some (xI (steps : Int)), none] [xI (pmin L p steps), xI sum] (S0, G2) 0 0 Q
        have pp : 1 ≤ pmin L p steps := pmin_pos (fun i hi => by have := (i6 i hi).2.2.2.1; omega)
        have pl := pmin_le L p steps
        have ok : fOK N (pushL L p (pmin L p steps) steps) (val + sum + pmin L p steps) := push_ok i3 (by omega) (fun j hj => ⟨(i6 j hj).2.1, (i6 j hj).2.2.1⟩) pl.2 hd (fun e => (i4 e).1) i7.symm
        have ok2 : fOK N (lCut N (pushL L p (pmin L p steps) steps)) (val + (sum + pmin L p steps)) := by
          rw [← Int.add_assoc]
          exact ok.congr (fun e he' => (lCut_eq he').symm)
        have b3 := bB ok2
        refine x_iaddN d_M_pushes_52 (by omega) (by omega) ?_
        refine x_istore_n d_M_pushes_53 rfl (by decide) ?_
        dsimp only [x_st1, x_st2, x_kill, List.set, List.getElem?_cons_zero, List.getElem?_cons_succ]
        refine x_sipush (336) d_M_pushes_54 rfl ⟨by decide, by decide⟩ ?_
        refine x_istore_n d_M_pushes_57 rfl (by decide) ?_
        dsimp only [x_st1, x_st2, x_kill, List.set, List.getElem?_cons_zero, List.getElem?_cons_succ]
        refine x_iconst (0) d_M_pushes_58 rfl ⟨by decide, by decide⟩ ?_
        refine x_istore_n d_M_pushes_59 rfl (by decide) ?_
        dsimp only [x_st1, x_st2, x_kill, List.set, List.getElem?_cons_zero, List.getElem?_cons_succ]
        refine step60 (sum + pmin L p steps) 336 0 p (lCut N (pushL L p (pmin L p steps) steps)) G2 ⟨fun i w1 w2 w3 => (g1 i w3).trans (i1 i w1 w2 w3), fun e he' => by rw [g2 e he', lCut_eq he'], ok2, fun e => lCut_bd hw ok e, fun n hn' => by rw [g1 m_now (by decide)]; exact i5 n hn', fun j hj => absurd hj (Nat.not_lt_zero j), rfl, by omega, by omega, by omega, fun z => by omega⟩ (by decide) (fun at2 steps2 p2 G3 hI3 hM3 => ih _ at2 steps2 p2 _ G3 hI3 ?_)
        have e9 : su (fun n => G2 m_now n + 1) 338 = su (fun n => G' m_now n + 1) 338 := su_congr (fun n _ => by rw [g1 m_now (by decide)])
        have l337 := l1
        unfold pM at hM hM3 ⊢
        rw [e9] at hM3
        omega
  -- at first
  have first : ∀ G', (∀ i, i ≠ m_now → G' i = G i) → (∀ n, n < 0 → G' m_now n = G m_head n) → x_A y_M_pushes 11 [some oM, some (xI 0), some (xI 336), some (xI 0), some (xI ((0 : Nat) : Int))] [] (S0, G') 0 0 Q := by
    refine x_up_to (P := fun i => ∀ G', (∀ i, i ≠ m_now → G' i = G i) → (∀ n, n < i → G' m_now n = G m_head n) → x_A y_M_pushes 11 [some oM, some (xI 0), some (xI 336), some (xI 0), some (xI (i : Int))] [] (S0, G') 0 0 Q) 0 338 (Nat.zero_le _) ?_ (fun i _ hi k => ?_)
    · intro G2 f1 f2
      refine x_iload d_M_pushes_11 rfl ?_
      refine x_sipush (338) d_M_pushes_13 rfl ⟨by decide, by decide⟩ ?_
      refine x_icmp_ge (39) d_M_pushes_16 (by decide) (fun c0 => ?_) (fun c0 => ?_)
      · have hI : pInv N Lb far val G 0 336 0 (fun _ => 0) (lCut N Lb) G2 := by
          have hnw : ∀ n, n < 338 → G2 m_now n = prv N n (2 * N.1) := fun n hn' => by rw [f2 n hn']; exact e3 n hn'
          refine ⟨fun i w1 w2 w3 => f1 i w1, fun e he' => by rw [f1 m_left (by decide), lCut_eq he']; exact (e2 e he').2.2, by rw [Int.add_zero]; exact hf.congr (fun e he' => (lCut_eq he').symm), fun e => lCut_bd hw hf e, fun n hn' => ?_, fun j hj => absurd hj (Nat.not_lt_zero j), rfl, by omega, by omega, Int.le_refl 0, fun _ => ⟨fun e he' => lCut_eq he', fun n hn' hp' => ?_⟩⟩
          · rw [hnw n hn']
            exact ⟨(prv_lt N n _).1, fun q hq => by have := prv_te hq; exact ⟨this.2, this.1⟩⟩
          · obtain ⟨e, h1, h2, h3, h4⟩ := l3 n hn' hp'
            exact ⟨e, by rw [hnw n hn']; exact prv_max h2 h1, h1, h2, h3, h4⟩
        refine x_sub (lv' := [some oM, some (xI 0), some (xI ((336 : Nat) : Int)), some (xI ((0 : Nat) : Int)), none]) (fun z v hz => by
          match z, hz with
          | 0, hz => exact hz
          | 1, hz => exact hz
          | 2, hz => exact hz
          | 3, hz => exact hz
          | 4, hz => cases hz
          | z + 5, hz => cases hz) (all ((pM B val 0 far 336 G2).toNat + 1) 0 336 0 _ _ G2 hI (by omega))
      · omega
    · intro G2 f1 f2
      refine x_iload d_M_pushes_11 rfl ?_
      refine x_sipush (338) d_M_pushes_13 rfl ⟨by decide, by decide⟩ ?_
      refine x_icmp_ge (39) d_M_pushes_16 (by decide) (fun c0 => ?_) (fun c0 => ?_)
      · omega
      · refine x_aload_n d_M_pushes_19 rfl rfl ?_
        refine x_getF (kf := 61) d_M_pushes_20 rfl rfl rfl in_M f_M_153 ?_
        refine x_iload d_M_pushes_23 rfl ?_
        refine x_aload_n d_M_pushes_25 rfl rfl ?_
        refine x_getF (kf := 60) d_M_pushes_26 rfl rfl rfl in_M f_M_150 ?_
        refine x_iload d_M_pushes_29 rfl ?_
        refine x_ialdN (i) d_M_pushes_31 rfl (by omega) (by omega) ?_
        rw [f1 m_head (by decide)]
        refine x_iastN (i) d_M_pushes_32 rfl (by omega) (by omega) ?_
        refine x_iincN d_M_pushes_33 rfl (by decide) (by omega) (by omega) ?_
        dsimp only [x_st1, x_st2, x_kill, List.set, List.getElem?_cons_zero, List.getElem?_cons_succ]
        refine x_goto (11) d_M_pushes_36 (by decide) ?_
        refine k _ (fun x w1 => by rw [up_cell w1]; exact f1 x w1) (fun n hn' => ?_)
        by_cases q : n = i
        · subst q; rw [up_same]
        · rw [up_ne q]; exact f2 n (by omega)
  refine x_iconst (0) d_M_pushes_0 rfl ⟨by decide, by decide⟩ ?_
  refine x_istore_n d_M_pushes_1 rfl (by decide) ?_
  dsimp only [x_st1, x_st2, x_kill, List.set, List.getElem?_cons_zero, List.getElem?_cons_succ]
  refine x_sipush (336) d_M_pushes_2 rfl ⟨by decide, by decide⟩ ?_
  refine x_istore_n d_M_pushes_5 rfl (by decide) ?_
  dsimp only [x_st1, x_st2, x_kill, List.set, List.getElem?_cons_zero, List.getElem?_cons_succ]
  refine x_iconst (0) d_M_pushes_6 rfl ⟨by decide, by decide⟩ ?_
  refine x_istore_n d_M_pushes_7 rfl (by decide) ?_
  dsimp only [x_st1, x_st2, x_kill, List.set, List.getElem?_cons_zero, List.getElem?_cons_succ]
  refine x_iconst (0) d_M_pushes_8 rfl ⟨by decide, by decide⟩ ?_
  refine x_istore d_M_pushes_9 (by decide) ?_
  dsimp only [x_st1, x_st2, x_kill, List.set, List.getElem?_cons_zero, List.getElem?_cons_succ]
  exact first G (fun _ _ => rfl) (fun n hn' => absurd hn' (Nat.not_lt_zero n))
