/-! the reference: turns -/
/-- house, log and rows are as they were -/
def pFrame (G G' : Nat → Nat → Int) : Prop := (∀ i, i ≠ o_M → (i < m_above ∨ m_wherever < i) → G' i = G i) ∧ ∀ k, k ≠ 68 → G' o_M k = G o_M k
theorem pFrame.rf (G : Nat → Nat → Int) : pFrame G G := ⟨fun _ _ _ => rfl, fun _ _ => rfl⟩
theorem pFrame.tr {G1 G2 G3 : Nat → Nat → Int} (a : pFrame G1 G2) (b : pFrame G2 G3) : pFrame G1 G3 := ⟨fun i h1 h2 => (b.1 i h1 h2).trans (a.1 i h1 h2), fun k hk => (b.2 k hk).trans (a.2 k hk)⟩
theorem pFrame.rep {h : HH} {G G' : Nat → Nat → Int} (f : pFrame G G') (r : mRep h G) : mRep h G' :=
  r.same (fun k _ _ => f.2 k (by omega)) (fun i h1 h2 => f.1 i (by have : o_M < m_room := (by decide); omega) (Or.inl (by have : m_aIs < m_above := (by decide); omega)))
theorem bFrame.p {G G' : Nat → Nat → Int} (f : bFrame G G') : pFrame G G' := ⟨fun i h1 h2 => f.1 i h1 (by have : m_left < m_wherever := (by decide); omega), f.2⟩
theorem pFrame.up {G G' : Nat → Nat → Int} (f : pFrame G G') {i j : Nat} {z : Int} (h1 : m_above ≤ i) (h2 : i ≤ m_wherever) : pFrame G (up G' i j z) :=
  ⟨fun a h3 h4 => (up_cell (by omega)).trans (f.1 a h3 h4), fun k hk => by rw [up_cell (by have : o_M < m_above := (by decide); omega)]; exact f.2 k hk⟩
theorem f_fi_n {i : Nat} (h : i < 4) : f_fi i = i := by unfold f_fi; rw [if_neg (by omega)]
noncomputable def t_R (h : HH) (pl k : Int) (by' f q : Nat) : Int := f_bo h f by' 4 - f_out h (pl, (q : Int), k, (f : Int)) by' (f_made h (h.2 6))
def t_tl (h : HH) (pl : Int) (f m : Nat) : Int := f_tell h (pl, pl, 0, (f : Int)) m (h.2 0)
def t_gr (A : Nat → Nat → Bool) (R : Nat → Nat → Int) (f q : Nat) : Nat → Int
  | 0 => -2147483648
  | g + 1 => if A f g = true then max (t_gr A R f q g) (R g q) else t_gr A R f q g
def t_ls (A : Nat → Nat → Bool) (R : Nat → Nat → Int) (n f : Nat) (z : Int) : Nat → Int × Int
  | 0 => (2147483647, z)
  | q + 1 => if (t_ls A R n f z q).1 ≤ t_gr A R f q n then t_ls A R n f z q else (t_gr A R f q n, (q : Int))
def t_wo (A : Nat → Nat → Bool) (R : Nat → Nat → Int) (n : Nat) : Nat → Int
  | 0 => -2147483648
  | f + 1 => max (t_wo A R n f) (t_ls A R n f 0 4).1
theorem t_gr_lt {A : Nat → Nat → Bool} {R : Nat → Nat → Int} {f q n : Nat} (h : ∀ g, g < n → R g q < 2147483647) : t_gr A R f q n < 2147483647 := by
  induction n with
  | zero => show (-2147483648 : Int) < _; omega
  | succ n ih =>
    have := ih (fun g hg => h g (by omega))
    have := h n (by omega)
    show (if _ then _ else _) < _
    split
    · rw [Int.max_def]; split <;> omega
    · assumption
theorem t_ls_z {A : Nat → Nat → Bool} {R : Nat → Nat → Int} {n f : Nat} (h : ∀ g, g < n → R g 0 < 2147483647) (z z' : Int) (q : Nat) : t_ls A R n f z (q + 1) = t_ls A R n f z' (q + 1) := by
  induction q with
  | zero =>
    have := t_gr_lt (A := A) (f := f) h
    show (if (2147483647 : Int) ≤ t_gr A R f 0 n then ((2147483647 : Int), z) else (t_gr A R f 0 n, ((0 : Nat) : Int))) = (if (2147483647 : Int) ≤ t_gr A R f 0 n then ((2147483647 : Int), z') else (t_gr A R f 0 n, ((0 : Nat) : Int)))
    rw [if_neg (by omega), if_neg (by omega)]
  | succ q ih =>
    show (if (t_ls A R n f z (q + 1)).1 ≤ _ then _ else _) = (if (t_ls A R n f z' (q + 1)).1 ≤ _ then _ else _)
    rw [ih]
theorem t_ls_1 {A : Nat → Nat → Bool} {R : Nat → Nat → Int} {n f : Nat} {z z' : Int} {q : Nat} : (t_ls A R n f z q).1 = (t_ls A R n f z' q).1 := by
  induction q with
  | zero => rfl
  | succ q ih =>
    show (if (t_ls A R n f z q).1 ≤ _ then _ else _ : Int × Int).1 = (if (t_ls A R n f z' q).1 ≤ _ then _ else _ : Int × Int).1
    rw [ih]
    split
    · exact ih
    · rfl
def t_A (h : HH) (pl k : Int) (f g : Nat) : Bool := f_alk (k - h.1 9 0 4) (t_tl h pl f) (t_tl h pl g) 21
def mTurns (h : HH) (pl k : Int) (by' : Nat) (G : Nat → Nat → Int) : Option XV → XM → Prop := fun v τ => ∃ G', τ = (S0, G') ∧ pFrame G G' ∧ v = some (xI (t_wo (t_A h pl k) (t_R h pl k by') (h.2 2) (h.2 2))) ∧ ∀ f, f < h.2 2 → G' m_goes f = (t_ls (t_A h pl k) (t_R h pl k by') (h.2 2) f 0 4).2
theorem s_turns {h : HH} {G : Nat → Nat → Int} (hh : Hwf h) (r : mRep h G) (pl k : Int) (hk : 0 ≤ k ∧ k ≤ 21) (by' : Nat) (hb : by' ≤ 20) : x_M y_M_turns [oM, xI pl, xI k, xI (by' : Int)] (S0, G) (fun r τ => ∃ v, r = .inl v ∧ mTurns h pl k by' G v τ) := by
  have b := hh.1
  refine x_of 6 rfl (Nat.le_of_ble_eq_true rfl) ?_
  show x_A y_M_turns 0 [some oM, some (xI pl), some (xI k), some (xI (by' : Int)), none, none, none, none, none, none] [] (S0, G) 0 0 _
  generalize hQ : (fun (r : XRes) (τ : XM) => ∃ v, r = .inl v ∧ mTurns h pl k by' G v τ) = Q
  -- the second half
  have second : ∀ G1, pFrame G G1 → (∀ f, f < h.2 2 → ∀ q, q < 4 → G1 m_regrets (4 * f + q) = t_R h pl k by' f q ∧ t_R h pl k by' f q ≤ 1200000000) → (∀ f, f < h.2 2 → ∀ m, m ≤ 20 → G1 m_tells (21 * f + m) = t_tl h pl f m) → x_A y_M_turns 75 [some oM, some (xI pl), some (xI k), some (xI (by' : Int)), none, none, none, none, none, none] [] (S0, G1) 0 0 Q := by
    intro G1 f1 i1 i2
    generalize hR : t_R h pl k by' = R at *
    generalize hA : t_A h pl k = A at *
    refine x_ldcw (-2147483648) d_M_turns_75 k_M_453 ⟨by decide, by decide⟩ ?_
    refine x_istore d_M_turns_78 (by decide) ?_
    dsimp only [x_st1, x_st2, x_kill, List.set, List.getElem?_cons_zero, List.getElem?_cons_succ]
    refine x_iconst (0) d_M_turns_80 rfl ⟨by decide, by decide⟩ ?_
    refine x_istore d_M_turns_81 (by decide) ?_
    dsimp only [x_st1, x_st2, x_kill, List.set, List.getElem?_cons_zero, List.getElem?_cons_succ]
    have all : ∀ G', (∀ i, i ≠ m_goes → G' i = G1 i) → (∀ f, f < 0 → G' m_goes f = (t_ls A R (h.2 2) f 0 4).2) → x_A y_M_turns 83 [some oM, some (xI pl), some (xI k), some (xI (by' : Int)), some (xI (t_wo A R (h.2 2) 0)), some (xI ((0 : Nat) : Int)), none, none, none, none] [] (S0, G') 0 0 Q := by
      refine x_up_to (P := fun f => ∀ G', (∀ i, i ≠ m_goes → G' i = G1 i) → (∀ z, z < f → G' m_goes z = (t_ls A R (h.2 2) z 0 4).2) → x_A y_M_turns 83 [some oM, some (xI pl), some (xI k), some (xI (by' : Int)), some (xI (t_wo A R (h.2 2) f)), some (xI (f : Int)), none, none, none, none] [] (S0, G') 0 0 Q) 0 (h.2 2) (Nat.zero_le _) ?_ (fun f _ hf k1 => ?_)
      · intro G2 g1 g2
        have e3 : G2 o_M 3 = h.2 2 := by rw [g1 o_M (by decide)]; exact (f1.rep r).1.2.2.1
        refine x_iload d_M_turns_83 rfl ?_
        refine x_aload_n d_M_turns_85 rfl rfl ?_
        refine x_getIG (kf := 3) d_M_turns_86 rfl rfl rfl in_M f_M_253 ?_
        refine x_icmp_ge (204) d_M_turns_89 (by decide) (fun c => ?_) (fun c => ?_)
        · refine x_iload d_M_turns_204 rfl ?_
          refine x_ireturn d_M_turns_206 rfl ?_ (Nat.zero_le _) (Nat.zero_le _)
          rw [← hQ]
          refine ⟨_, rfl, G2, rfl, f1.tr ⟨fun i _ h2 => g1 i (by intro z; subst z; revert h2; decide), fun k _ => by rw [g1 o_M (by decide)]⟩, ?_, fun f hf => ?_⟩
          · rw [hR, hA]
          · rw [hR, hA]; exact g2 f hf
        · omega
      · intro G2 g1 g2
        have e3 : G2 o_M 3 = h.2 2 := by rw [g1 o_M (by decide)]; exact (f1.rep r).1.2.2.1
        refine x_iload d_M_turns_83 rfl ?_
        refine x_aload_n d_M_turns_85 rfl rfl ?_
        refine x_getIG (kf := 3) d_M_turns_86 rfl rfl rfl in_M f_M_253 ?_
        refine x_icmp_ge (204) d_M_turns_89 (by decide) (fun c => ?_) (fun c => ?_)
        · omega
        · refine x_ldcw (2147483647) d_M_turns_92 k_M_454 ⟨by decide, by decide⟩ ?_
          refine x_istore d_M_turns_95 (by decide) ?_
          dsimp only [x_st1, x_st2, x_kill, List.set, List.getElem?_cons_zero, List.getElem?_cons_succ]
          refine x_iconst (0) d_M_turns_97 rfl ⟨by decide, by decide⟩ ?_
          refine x_istore d_M_turns_98 (by decide) ?_
          dsimp only [x_st1, x_st2, x_kill, List.set, List.getElem?_cons_zero, List.getElem?_cons_succ]
          have plans : ∀ G', (∀ i, i ≠ m_goes → G' i = G1 i) → (∀ z, z ≠ f → G' m_goes z = G2 m_goes z) → G' m_goes f = (t_ls A R (h.2 2) f (G2 m_goes f) 0).2 → x_A y_M_turns 100 [some oM, some (xI pl), some (xI k), some (xI (by' : Int)), some (xI (t_wo A R (h.2 2) f)), some (xI (f : Int)), some (xI (t_ls A R (h.2 2) f (G2 m_goes f) 0).1), some (xI ((0 : Nat) : Int)), none, none] [] (S0, G') 0 0 Q := by
            refine x_up_to (P := fun q => ∀ G', (∀ i, i ≠ m_goes → G' i = G1 i) → (∀ z, z ≠ f → G' m_goes z = G2 m_goes z) → G' m_goes f = (t_ls A R (h.2 2) f (G2 m_goes f) q).2 → x_A y_M_turns 100 [some oM, some (xI pl), some (xI k), some (xI (by' : Int)), some (xI (t_wo A R (h.2 2) f)), some (xI (f : Int)), some (xI (t_ls A R (h.2 2) f (G2 m_goes f) q).1), some (xI (q : Int)), none, none] [] (S0, G') 0 0 Q) 0 4 (Nat.zero_le _) ?_ (fun q _ hq k2 => ?_)
            · intro G3 j1 j2 j3
              have sw : t_wo A R (h.2 2) (f + 1) = max (t_wo A R (h.2 2) f) (t_ls A R (h.2 2) f 0 4).1 := rfl
              have ez := t_ls_z (A := A) (R := R) (n := h.2 2) (f := f) (fun g hg => by have := (i1 g hg 0 (by omega)).2; omega) (G2 m_goes f) 0 3
              have k1 := k1 G3 j1 (fun z hz => by
                rcases Nat.lt_succ_iff_lt_or_eq.1 hz with w | w
                · rw [j2 z (by omega)]; exact g2 z w
                · subst w; rw [j3, ez])
              rw [sw, ← ez] at k1
              refine x_iload d_M_turns_100 rfl ?_
              refine x_iconst (4) d_M_turns_102 rfl ⟨by decide, by decide⟩ ?_
              refine x_icmp_ge (189) d_M_turns_103 (by decide) (fun c2 => ?_) (fun c2 => ?_)
              · refine x_iload d_M_turns_189 rfl ?_
                refine x_iload d_M_turns_191 rfl ?_
                refine x_S1 d_M_turns_193 e_M_turns_JM_max ⟨rfl, rfl, Nat.zero_le _, Nat.zero_le _⟩ rfl rfl (Nat.le_of_ble_eq_true rfl) (s_max _ _ _) ?_
                refine x_istore d_M_turns_196 (by decide) ?_
                dsimp only [x_st1, x_st2, x_kill, List.set, List.getElem?_cons_zero, List.getElem?_cons_succ]
                refine x_iincN d_M_turns_198 rfl (by decide) (by omega) (by omega) ?_
                dsimp only [x_st1, x_st2, x_kill, List.set, List.getElem?_cons_zero, List.getElem?_cons_succ]
                refine x_goto (83) d_M_turns_201 (by decide) ?_
                exact x_sub (fun j v hj => by
                  match j, hj with
                  | 0, hj => exact hj
                  | 1, hj => exact hj
                  | 2, hj => exact hj
                  | 3, hj => exact hj
                  | 4, hj => exact hj
                  | 5, hj => exact hj
                  | 6, hj => cases hj
                  | 7, hj => cases hj
                  | 8, hj => exact hj
                  | 9, hj => exact hj
                  | j + 10, hj => cases hj) k1
              · omega
            · intro G3 j1 j2 j3
              have r3 : mRep h G3 := (f1.tr ⟨fun i _ h2 => j1 i (by intro z; subst z; revert h2; decide), fun k _ => by rw [j1 o_M (by decide)]⟩ : pFrame G G3).rep r
              have st : t_ls A R (h.2 2) f (G2 m_goes f) (q + 1) = if (t_ls A R (h.2 2) f (G2 m_goes f) q).1 ≤ t_gr A R f q (h.2 2) then t_ls A R (h.2 2) f (G2 m_goes f) q else (t_gr A R f q (h.2 2), (q : Int)) := rfl
              generalize t_ls A R (h.2 2) f (G2 m_goes f) q = zz at *
              refine x_iload d_M_turns_100 rfl ?_
              refine x_iconst (4) d_M_turns_102 rfl ⟨by decide, by decide⟩ ?_
              refine x_icmp_ge (189) d_M_turns_103 (by decide) (fun c2 => ?_) (fun c2 => ?_)
              · omega
              · refine x_ldcw (-2147483648) d_M_turns_106 k_M_453 ⟨by decide, by decide⟩ ?_
                refine x_istore d_M_turns_109 (by decide) ?_
                dsimp only [x_st1, x_st2, x_kill, List.set, List.getElem?_cons_zero, List.getElem?_cons_succ]
                refine x_iconst (0) d_M_turns_111 rfl ⟨by decide, by decide⟩ ?_
                refine x_istore d_M_turns_112 (by decide) ?_
                dsimp only [x_st1, x_st2, x_kill, List.set, List.getElem?_cons_zero, List.getElem?_cons_succ]
                refine x_up_to (P := fun g => x_A y_M_turns 114 [some oM, some (xI pl), some (xI k), some (xI (by' : Int)), some (xI (t_wo A R (h.2 2) f)), some (xI (f : Int)), some (xI zz.1), some (xI (q : Int)), some (xI (t_gr A R f q g)), some (xI (g : Int))] [] (S0, G3) 0 0 Q) 0 (h.2 2) (Nat.zero_le _) ?_ (fun g _ hg k3 => ?_)
                · have e4 := r3.1.2.2.1
                  refine x_iload d_M_turns_114 rfl ?_
                  refine x_aload_n d_M_turns_116 rfl rfl ?_
                  refine x_getIG (kf := 3) d_M_turns_117 rfl rfl rfl in_M f_M_253 ?_
                  refine x_icmp_ge (160) d_M_turns_120 (by decide) (fun c3 => ?_) (fun c3 => ?_)
                  · refine x_iload d_M_turns_160 rfl ?_
                    refine x_iload d_M_turns_162 rfl ?_
                    refine x_icmp_lt (170) d_M_turns_164 (by decide) (fun c4 => ?_) (fun c4 => ?_)
                    · rw [st, if_neg (by omega)] at k2
                      refine x_iload d_M_turns_170 rfl ?_
                      refine x_istore d_M_turns_172 (by decide) ?_
                      dsimp only [x_st1, x_st2, x_kill, List.set, List.getElem?_cons_zero, List.getElem?_cons_succ]
                      refine x_aload_n d_M_turns_174 rfl rfl ?_
                      refine x_getF (kf := 72) d_M_turns_175 rfl rfl rfl in_M f_M_183 ?_
                      refine x_iload d_M_turns_178 rfl ?_
                      refine x_iload d_M_turns_180 rfl ?_
                      refine x_iastN (f) d_M_turns_182 rfl (by omega) (by omega) ?_
                      refine x_iincN d_M_turns_183 rfl (by decide) (by omega) (by omega) ?_
                      dsimp only [x_st1, x_st2, x_kill, List.set, List.getElem?_cons_zero, List.getElem?_cons_succ]
                      refine x_goto (100) d_M_turns_186 (by decide) ?_
                      exact x_sub (fun j v hj => by
                        match j, hj with
                        | 0, hj => exact hj
                        | 1, hj => exact hj
                        | 2, hj => exact hj
                        | 3, hj => exact hj
                        | 4, hj => exact hj
                        | 5, hj => exact hj
                        | 6, hj => exact hj
                        | 7, hj => exact hj
                        | 8, hj => cases hj
                        | 9, hj => cases hj
                        | j + 10, hj => cases hj) (k2 _ (fun i hi => (up_cell hi).trans (j1 i hi)) (fun z hz => (up_ne hz).trans (j2 z hz)) (up_same _ _ _ _))
                    · rw [st, if_pos (by omega)] at k2
                      refine x_goto (183) d_M_turns_167 (by decide) ?_
                      refine x_iincN d_M_turns_183 rfl (by decide) (by omega) (by omega) ?_
                      dsimp only [x_st1, x_st2, x_kill, List.set, List.getElem?_cons_zero, List.getElem?_cons_succ]
                      refine x_goto (100) d_M_turns_186 (by decide) ?_
                      exact x_sub (fun j v hj => by
                        match j, hj with
                        | 0, hj => exact hj
                        | 1, hj => exact hj
                        | 2, hj => exact hj
                        | 3, hj => exact hj
                        | 4, hj => exact hj
                        | 5, hj => exact hj
                        | 6, hj => exact hj
                        | 7, hj => exact hj
                        | 8, hj => cases hj
                        | 9, hj => cases hj
                        | j + 10, hj => cases hj) (k2 G3 j1 j2 j3)
                  · omega
                · have e4 := r3.1.2.2.1
                  have sg : t_gr A R f q (g + 1) = if A f g = true then max (t_gr A R f q g) (R g q) else t_gr A R f q g := rfl
                  have al := s_areAlike hh r3 k hk f g (by omega) (by omega)
                  have ea : f_alk (k - h.1 9 0 4) (fun m => G3 m_tells (21 * f + m)) (fun m => G3 m_tells (21 * g + m)) 21 = A f g := by
                    rw [← hA]
                    refine f_alk_cg (fun m hm => ?_) (fun m hm => ?_)
                    · rw [j1 m_tells (by decide)]; exact i2 f hf m (by omega)
                    · rw [j1 m_tells (by decide)]; exact i2 g hg m (by omega)
                  rw [f_fi_n (by omega), f_fi_n (by omega), ea] at al
                  refine x_iload d_M_turns_114 rfl ?_
                  refine x_aload_n d_M_turns_116 rfl rfl ?_
                  refine x_getIG (kf := 3) d_M_turns_117 rfl rfl rfl in_M f_M_253 ?_
                  refine x_icmp_ge (160) d_M_turns_120 (by decide) (fun c3 => ?_) (fun c3 => ?_)
                  · omega
                  · refine x_aload_n d_M_turns_123 rfl rfl ?_
                    refine x_iload_n d_M_turns_124 rfl rfl ?_
                    refine x_iload d_M_turns_125 rfl ?_
                    refine x_iload d_M_turns_127 rfl ?_
                    refine x_V1 d_M_turns_129 e_M_turns_M_areAlike ⟨rfl, rfl, Nat.zero_le _, Nat.zero_le _⟩ rfl rfl rfl rfl (Nat.le_of_ble_eq_true rfl) (al) ?_
                    refine x_if_eq (154) d_M_turns_132 (by decide) (fun c4 => ?_) (fun c4 => ?_)
                    · have c4 := b2i_0 c4
                      rw [sg, if_neg (by rw [c4]; decide)] at k3
                      refine x_iincN d_M_turns_154 rfl (by decide) (by omega) (by omega) ?_
                      dsimp only [x_st1, x_st2, x_kill, List.set, List.getElem?_cons_zero, List.getElem?_cons_succ]
                      refine x_goto (114) d_M_turns_157 (by decide) ?_
                      exact k3
                    · have c4 := b2i_1 c4
                      rw [sg, if_pos c4] at k3
                      refine x_iload d_M_turns_135 rfl ?_
                      refine x_aload_n d_M_turns_137 rfl rfl ?_
                      refine x_getF (kf := 71) d_M_turns_138 rfl rfl rfl in_M f_M_180 ?_
                      refine x_iconst (4) d_M_turns_141 rfl ⟨by decide, by decide⟩ ?_
                      refine x_iload d_M_turns_142 rfl ?_
                      refine x_imulN d_M_turns_144 (by omega) (by omega) ?_
                      refine x_iload d_M_turns_145 rfl ?_
                      refine x_iaddN d_M_turns_147 (by omega) (by omega) ?_
                      refine x_ialdN (4 * g + q) d_M_turns_148 rfl (by omega) (by omega) ?_
                      rw [j1 m_regrets (by decide), (i1 g hg q hq).1]
                      refine x_S1 d_M_turns_149 e_M_turns_JM_max ⟨rfl, rfl, Nat.zero_le _, Nat.zero_le _⟩ rfl rfl (Nat.le_of_ble_eq_true rfl) (s_max _ _ _) ?_
                      refine x_istore d_M_turns_152 (by decide) ?_
                      dsimp only [x_st1, x_st2, x_kill, List.set, List.getElem?_cons_zero, List.getElem?_cons_succ]
                      refine x_iincN d_M_turns_154 rfl (by decide) (by omega) (by omega) ?_
                      dsimp only [x_st1, x_st2, x_kill, List.set, List.getElem?_cons_zero, List.getElem?_cons_succ]
                      refine x_goto (114) d_M_turns_157 (by decide) ?_
                      exact k3
          exact plans G2 g1 (fun z _ => rfl) rfl
    exact all G1 (fun i _ => rfl) (fun f hf => absurd hf (Nat.not_lt_zero f))
  refine x_iconst (0) d_M_turns_0 rfl ⟨by decide, by decide⟩ ?_
  refine x_istore d_M_turns_1 (by decide) ?_
  dsimp only [x_st1, x_st2, x_kill, List.set, List.getElem?_cons_zero, List.getElem?_cons_succ]
  have first : ∀ G', pFrame G G' → (∀ f, f < 0 → ∀ q, q < 4 → G' m_regrets (4 * f + q) = t_R h pl k by' f q ∧ t_R h pl k by' f q ≤ 1200000000) → (∀ f, f < 0 → ∀ m, m ≤ 20 → G' m_tells (21 * f + m) = t_tl h pl f m) → x_A y_M_turns 3 [some oM, some (xI pl), some (xI k), some (xI (by' : Int)), some (xI ((0 : Nat) : Int)), none, none, none, none, none] [] (S0, G') 0 0 Q := by
    refine x_up_to (P := fun n => ∀ G', pFrame G G' → (∀ f, f < n → ∀ q, q < 4 → G' m_regrets (4 * f + q) = t_R h pl k by' f q ∧ t_R h pl k by' f q ≤ 1200000000) → (∀ f, f < n → ∀ m, m ≤ 20 → G' m_tells (21 * f + m) = t_tl h pl f m) → x_A y_M_turns 3 [some oM, some (xI pl), some (xI k), some (xI (by' : Int)), some (xI (n : Int)), none, none, none, none, none] [] (S0, G') 0 0 Q) 0 (h.2 2) (Nat.zero_le _) ?_ (fun n _ hn k1 => ?_)
    · intro G1 f1 i1 i2
      have e3 := (f1.rep r).1.2.2.1
      refine x_iload d_M_turns_3 rfl ?_
      refine x_aload_n d_M_turns_5 rfl rfl ?_
      refine x_getIG (kf := 3) d_M_turns_6 rfl rfl rfl in_M f_M_253 ?_
      refine x_icmp_ge (75) d_M_turns_9 (by decide) (fun c => ?_) (fun c => ?_)
      · exact x_sub (fun j v hj => by
          match j, hj with
          | 0, hj => exact hj
          | 1, hj => exact hj
          | 2, hj => exact hj
          | 3, hj => exact hj
          | 4, hj => cases hj
          | 5, hj => exact hj
          | 6, hj => exact hj
          | 7, hj => exact hj
          | 8, hj => exact hj
          | 9, hj => exact hj
          | j + 10, hj => cases hj) (second G1 f1 i1 i2)
      · omega
    · intro G1 f1 i1 i2
      have r1 := f1.rep r
      have e3 := r1.1.2.2.1
      refine x_iload d_M_turns_3 rfl ?_
      refine x_aload_n d_M_turns_5 rfl rfl ?_
      refine x_getIG (kf := 3) d_M_turns_6 rfl rfl rfl in_M f_M_253 ?_
      refine x_icmp_ge (75) d_M_turns_9 (by decide) (fun c => ?_) (fun c => ?_)
      · omega
      · refine x_aload_n d_M_turns_12 rfl rfl ?_
        refine x_iload d_M_turns_13 rfl ?_
        refine x_iload_n d_M_turns_15 rfl rfl ?_
        refine x_VQ d_M_turns_16 e_M_turns_M_bestOut ⟨rfl, rfl, Nat.zero_le _, Nat.zero_le _⟩ rfl rfl rfl rfl (Nat.le_of_ble_eq_true rfl) (s_bestOut hh r1 (n : Int) (by omega) by' hb) (fun v τ hv => ?_)
        obtain ⟨G2, rfl, f2, rfl, b1, b2⟩ := hv
        show x_A y_M_turns 19 [some oM, some (xI pl), some (xI k), some (xI (by' : Int)), some (xI (n : Int)), none, none, none, none, none] [xI (f_bo h n by' 4)] (S0, G2) 0 0 Q
        refine x_istore d_M_turns_19 (by decide) ?_
        dsimp only [x_st1, x_st2, x_kill, List.set, List.getElem?_cons_zero, List.getElem?_cons_succ]
        refine x_iconst (0) d_M_turns_21 rfl ⟨by decide, by decide⟩ ?_
        refine x_istore d_M_turns_22 (by decide) ?_
        dsimp only [x_st1, x_st2, x_kill, List.set, List.getElem?_cons_zero, List.getElem?_cons_succ]
        have plans : ∀ G', pFrame G G' → (∀ f, f < n → ∀ q, q < 4 → G' m_regrets (4 * f + q) = t_R h pl k by' f q ∧ t_R h pl k by' f q ≤ 1200000000) → (∀ f, f < n → ∀ m, m ≤ 20 → G' m_tells (21 * f + m) = t_tl h pl f m) → (∀ q, q < 0 → G' m_regrets (4 * n + q) = t_R h pl k by' n q ∧ t_R h pl k by' n q ≤ 1200000000) → x_A y_M_turns 24 [some oM, some (xI pl), some (xI k), some (xI (by' : Int)), some (xI (n : Int)), some (xI (f_bo h n by' 4)), some (xI ((0 : Nat) : Int)), none, none, none] [] (S0, G') 0 0 Q := by
          refine x_up_to (P := fun q => ∀ G', pFrame G G' → (∀ f, f < n → ∀ q, q < 4 → G' m_regrets (4 * f + q) = t_R h pl k by' f q ∧ t_R h pl k by' f q ≤ 1200000000) → (∀ f, f < n → ∀ m, m ≤ 20 → G' m_tells (21 * f + m) = t_tl h pl f m) → (∀ z, z < q → G' m_regrets (4 * n + z) = t_R h pl k by' n z ∧ t_R h pl k by' n z ≤ 1200000000) → x_A y_M_turns 24 [some oM, some (xI pl), some (xI k), some (xI (by' : Int)), some (xI (n : Int)), some (xI (f_bo h n by' 4)), some (xI (q : Int)), none, none, none] [] (S0, G') 0 0 Q) 0 4 (Nat.zero_le _) ?_ (fun q _ hq k2 => ?_)
          · intro G3 f3 j1 j2 j3
            have r3 := f3.rep r
            have hl := s_listens hh r3 pl n (by omega) (by rw [f_fi_n (by omega)]; omega)
            rw [f_fi_n (by omega)] at hl
            refine x_iload d_M_turns_24 rfl ?_
            refine x_iconst (4) d_M_turns_26 rfl ⟨by decide, by decide⟩ ?_
            refine x_icmp_ge (62) d_M_turns_27 (by decide) (fun c2 => ?_) (fun c2 => ?_)
            · refine x_aload_n d_M_turns_62 rfl rfl ?_
              refine x_iload_n d_M_turns_63 rfl rfl ?_
              refine x_iload d_M_turns_64 rfl ?_
              refine x_VQ d_M_turns_66 e_M_turns_M_listens ⟨rfl, rfl, Nat.zero_le _, Nat.zero_le _⟩ rfl rfl rfl rfl (Nat.le_of_ble_eq_true rfl) (hl) (fun v τ hv => ?_)
              obtain ⟨rfl, G4, rfl, l1, l2, l3⟩ := hv
              rw [f_fi_n (by omega)] at l3
              show x_A y_M_turns 69 [some oM, some (xI pl), some (xI k), some (xI (by' : Int)), some (xI (n : Int)), some (xI (f_bo h n by' 4)), some (xI ((4 : Nat) : Int)), none, none, none] [] (S0, G4) 0 0 Q
              have f4 : pFrame G G4 := f3.tr ⟨fun i _ h2 => l1 i (by intro z; subst z; revert h2; decide) (by have : m_washed < m_wherever := (by decide); omega), fun k _ => by rw [l1 o_M (by decide) (Or.inl (by decide))]⟩
              have k1 := k1 G4 f4 (fun f hf q hq => by
                rw [l1 m_regrets (by decide) (Or.inr (by decide))]
                rcases Nat.lt_succ_iff_lt_or_eq.1 hf with w | w
                · exact j1 f w q hq
                · subst w; exact j3 q hq) (fun f hf m hm => by
                rcases Nat.lt_succ_iff_lt_or_eq.1 hf with w | w
                · rw [l2 _ (by omega)]; exact j2 f w m hm
                · subst w; exact l3 m hm)
              refine x_iincN d_M_turns_69 rfl (by decide) (by omega) (by omega) ?_
              dsimp only [x_st1, x_st2, x_kill, List.set, List.getElem?_cons_zero, List.getElem?_cons_succ]
              refine x_goto (3) d_M_turns_72 (by decide) ?_
              exact x_sub (fun j v hj => by
                match j, hj with
                | 0, hj => exact hj
                | 1, hj => exact hj
                | 2, hj => exact hj
                | 3, hj => exact hj
                | 4, hj => exact hj
                | 5, hj => cases hj
                | 6, hj => cases hj
                | 7, hj => exact hj
                | 8, hj => exact hj
                | 9, hj => exact hj
                | j + 10, hj => cases hj) k1
            · omega
          · intro G3 f3 j1 j2 j3
            have r3 := f3.rep r
            refine x_iload d_M_turns_24 rfl ?_
            refine x_iconst (4) d_M_turns_26 rfl ⟨by decide, by decide⟩ ?_
            refine x_icmp_ge (62) d_M_turns_27 (by decide) (fun c2 => ?_) (fun c2 => ?_)
            · omega
            · refine x_aload_n d_M_turns_30 rfl rfl ?_
              refine x_getF (kf := 71) d_M_turns_31 rfl rfl rfl in_M f_M_180 ?_
              refine x_iconst (4) d_M_turns_34 rfl ⟨by decide, by decide⟩ ?_
              refine x_iload d_M_turns_35 rfl ?_
              refine x_imulN d_M_turns_37 (by omega) (by omega) ?_
              refine x_iload d_M_turns_38 rfl ?_
              refine x_iaddN d_M_turns_40 (by omega) (by omega) ?_
              refine x_iload d_M_turns_41 rfl ?_
              refine x_aload_n d_M_turns_43 rfl rfl ?_
              refine x_iload_n d_M_turns_44 rfl rfl ?_
              refine x_iload d_M_turns_45 rfl ?_
              refine x_iload_n d_M_turns_47 rfl rfl ?_
              refine x_iload d_M_turns_48 rfl ?_
              refine x_iload_n d_M_turns_50 rfl rfl ?_
              refine x_VQ d_M_turns_51 e_M_turns_M_outBy ⟨rfl, rfl, Nat.zero_le _, Nat.zero_le _⟩ rfl rfl rfl rfl (Nat.le_of_ble_eq_true rfl) (s_outBy hh r3 (pl, (q : Int), k, (n : Int)) (by show -1 ≤ (n : Int) ∧ (n : Int) < _; omega) by' hb) (fun v τ hv => ?_)
              obtain ⟨G4, rfl, f4, -, rfl, o1, o2⟩ := hv.val hh
              show x_A y_M_turns 54 [some oM, some (xI pl), some (xI k), some (xI (by' : Int)), some (xI (n : Int)), some (xI (f_bo h n by' 4)), some (xI (q : Int)), none, none, none] [xI (f_out h (pl, (q : Int), k, (n : Int)) by' (f_made h (h.2 6))), xI (f_bo h n by' 4), xI (4 * (n : Int) + (q : Int)), xR (some m_regrets)] (S0, G4) 0 0 Q
              have eR : t_R h pl k by' n q = f_bo h n by' 4 - f_out h (pl, (q : Int), k, (n : Int)) by' (f_made h (h.2 6)) := rfl
              refine x_isubN d_M_turns_54 (by omega) (by omega) ?_
              rw [← eR]
              refine x_iastN (4 * n + q) d_M_turns_55 rfl (by omega) (by omega) ?_
              have er : G4 m_regrets = G3 m_regrets := f4.1 _ (by decide) (Or.inr (by decide))
              have et : G4 m_tells = G3 m_tells := f4.1 _ (by decide) (Or.inr (by decide))
              refine x_iincN d_M_turns_56 rfl (by decide) (by omega) (by omega) ?_
              dsimp only [x_st1, x_st2, x_kill, List.set, List.getElem?_cons_zero, List.getElem?_cons_succ]
              refine x_goto (24) d_M_turns_59 (by decide) ?_
              refine k2 _ ((f3.tr f4.p).up (by decide) (by decide)) (fun f hf z hz => ?_) (fun f hf m hm => ?_) (fun z hz => ?_)
              · rw [up_ne (by omega), er]; exact j1 f hf z hz
              · rw [up_cell (by decide), et]; exact j2 f hf m hm
              · rcases Nat.lt_succ_iff_lt_or_eq.1 hz with w | w
                · rw [up_ne (by omega), er]; exact j3 z w
                · subst w
                  rw [up_same]
                  exact ⟨rfl, by rw [eR]; omega⟩
        exact plans G2 (f1.tr f2.p) (fun f hf q hq => by rw [f2.1 m_regrets (by decide) (Or.inr (by decide))]; exact i1 f hf q hq) (fun f hf m hm => by rw [f2.1 m_tells (by decide) (Or.inr (by decide))]; exact i2 f hf m hm) (fun q hq => absurd hq (Nat.not_lt_zero q))
  exact first G (pFrame.rf G) (fun f hf => absurd hf (Nat.not_lt_zero f)) (fun f hf => absurd hf (Nat.not_lt_zero f))
