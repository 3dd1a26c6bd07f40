/-! the reference: burns, whole -/
def mBurnt (h : HH) (c : CC) (G : Nat → Nat → Int) : Option XV → XM → Prop := fun v τ => v = none ∧ ∃ G', τ = (S0, G') ∧ mFrame G G' ∧ mSmoke h c G'
theorem s_burns {h : HH} {G : Nat → Nat → Int} (hh : Hwf h) (r : mRep h G) (c : CC) (hc : -1 ≤ c.2.2.2 ∧ c.2.2.2 < h.2 2) : x_M y_M_burns [oM, xI c.1, xI c.2.1, xI c.2.2.1, xI c.2.2.2] (S0, G) (fun r τ => ∃ v, r = .inl v ∧ mBurnt h c G v τ) := by
  have b := hh.1
  refine x_of 3 rfl (Nat.le_of_ble_eq_true rfl) ?_
  show x_A y_M_burns 0 [some oM, some (xI c.1), some (xI c.2.1), some (xI c.2.2.1), some (xI c.2.2.2), none, none, none] [] (S0, G) 0 0 _
  generalize hQ : (fun (r : XRes) (τ : XM) => ∃ v, r = .inl v ∧ mBurnt h c G v τ) = Q
  have minutes : ∀ G', bInv h c G 0 G' → (∀ f, f < 8 → G' m_lostAt f = bLost0 h c 0 f) → x_A y_M_burns 81 [some oM, some (xI c.1), some (xI c.2.1), some (xI c.2.2.1), some (xI c.2.2.2), some (xI ((0 : Nat) : Int)), none, none] [] (S0, G') 0 0 Q := by
    refine x_up_to (P := fun m => ∀ G', bInv h c G m G' → (∀ f, f < 8 → G' m_lostAt f = bLost0 h c m f) → x_A y_M_burns 81 [some oM, some (xI c.1), some (xI c.2.1), some (xI c.2.2.1), some (xI c.2.2.2), some (xI (m : Int)), none, none] [] (S0, G') 0 0 Q) 0 20 (Nat.zero_le _) ?_ (fun m _ hm k => ?_)
    · refine b_first hh r 20 (Nat.le_refl 20) ?_
      intro G' hI ha hl
      obtain ⟨i1, i2, i3, i4⟩ := hI
      refine x_iload d_M_burns_147 rfl ?_
      refine x_bipush (20) d_M_burns_149 rfl ⟨by decide, by decide⟩ ?_
      refine x_icmp_ne (155) d_M_burns_151 (by decide) (fun c0 => ?_) (fun c0 => ?_)
      · exact absurd rfl c0
      · refine x_return d_M_burns_154 rfl ?_ (Nat.zero_le _) (Nat.zero_le _)
        rw [← hQ]
        refine ⟨none, rfl, rfl, G', rfl, i1, fun m hm => ?_, hl⟩
        obtain ⟨z1, z2, z3, z4⟩ := i2 m hm
        refine ⟨z1, fun w hw => ?_, z2, z3, z4⟩
        by_cases q : m = 20
        · subst q; exact ha w hw
        · exact i4 m (by omega) w hw
    · exact b_first hh r m (by omega) (b_step hh r hc m hm k)
  have third : ∀ G', mFrame G G' → (∀ j, j < 168 → G' m_above j = 0 ∧ G' m_mixed j = 0) → (∀ f, f < 8 → G' m_lostAt f = -1) → x_A y_M_burns 57 [some oM, some (xI c.1), some (xI c.2.1), some (xI c.2.2.1), some (xI c.2.2.2), none, none, none] [] (S0, G') 0 0 Q := by
    intro G' f1 f2 f3
    refine x_aload_n d_M_burns_57 rfl rfl ?_
    refine x_getF (kf := 57) d_M_burns_58 rfl rfl rfl in_M f_M_141 ?_
    refine x_iconst (0) d_M_burns_61 rfl ⟨by decide, by decide⟩ ?_
    refine x_iconst (0) d_M_burns_62 rfl ⟨by decide, by decide⟩ ?_
    refine x_iastN (0) d_M_burns_63 rfl (by omega) (by omega) ?_
    refine x_aload_n d_M_burns_64 rfl rfl ?_
    refine x_getF (kf := 58) d_M_burns_65 rfl rfl rfl in_M f_M_144 ?_
    refine x_iconst (0) d_M_burns_68 rfl ⟨by decide, by decide⟩ ?_
    refine x_iconst (0) d_M_burns_69 rfl ⟨by decide, by decide⟩ ?_
    refine x_iastN (0) d_M_burns_70 rfl (by omega) (by omega) ?_
    refine x_aload_n d_M_burns_71 rfl rfl ?_
    refine x_getF (kf := 59) d_M_burns_72 rfl rfl rfl in_M f_M_147 ?_
    refine x_iconst (0) d_M_burns_75 rfl ⟨by decide, by decide⟩ ?_
    refine x_iconst (0) d_M_burns_76 rfl ⟨by decide, by decide⟩ ?_
    refine x_iastN (0) d_M_burns_77 rfl (by omega) (by omega) ?_
    refine x_iconst (0) d_M_burns_78 rfl ⟨by decide, by decide⟩ ?_
    refine x_istore d_M_burns_79 (by decide) ?_
    dsimp only [x_st1, x_st2, x_kill, List.set, List.getElem?_cons_zero, List.getElem?_cons_succ]
    refine minutes _ ⟨((f1.up (by decide) (by decide)).up (by decide) (by decide)).up (by decide) (by decide), fun m' hm' => ?_, fun j j1 j2 => ?_, fun m' hm' => absurd hm' (by omega)⟩ (fun f hf => ?_)
    · have e : m' = 0 := by omega
      subst e
      refine ⟨fun q hq => ?_, ?_, ?_, ?_⟩
      · rw [up_cell (by decide), up_cell (by decide), up_cell (by decide), up_cell (by decide), up_cell (by decide), up_cell (by decide)]
        exact f2 _ (by omega)
      · rw [up_cell (by decide), up_cell (by decide), up_same]; rfl
      · rw [up_cell (by decide), up_same]; rfl
      · rw [up_same]; rfl
    · rw [up_cell (by decide), up_cell (by decide), up_cell (by decide), up_cell (by decide), up_cell (by decide), up_cell (by decide)]
      exact f2 j j2
    · rw [up_cell (by decide), up_cell (by decide), up_cell (by decide)]
      exact f3 f hf
  have second : ∀ G', mFrame G G' → (∀ j, j < 168 → G' m_above j = 0 ∧ G' m_mixed j = 0) → (∀ f, f < 0 → G' m_lostAt f = -1) → x_A y_M_burns 36 [some oM, some (xI c.1), some (xI c.2.1), some (xI c.2.2.1), some (xI c.2.2.2), some (xI ((0 : Nat) : Int)), none, none] [] (S0, G') 0 0 Q := by
    refine x_up_to (P := fun i => ∀ G', mFrame G G' → (∀ j, j < 168 → G' m_above j = 0 ∧ G' m_mixed j = 0) → (∀ f, f < i → G' m_lostAt f = -1) → x_A y_M_burns 36 [some oM, some (xI c.1), some (xI c.2.1), some (xI c.2.2.1), some (xI c.2.2.2), some (xI (i : Int)), none, none] [] (S0, G') 0 0 Q) 0 8 (Nat.zero_le _) ?_ (fun i _ hi k => ?_)
    · intro G' f1 f2 f3
      refine x_iload d_M_burns_36 rfl ?_
      refine x_bipush (8) d_M_burns_38 rfl ⟨by decide, by decide⟩ ?_
      refine x_icmp_ge (57) d_M_burns_40 (by decide) (fun c0 => ?_) (fun c0 => ?_)
      · exact x_sub (fun j v hj => by
          match j, hj with
          | 0, hj => exact hj
          | 1, hj => exact hj
          | 2, hj => exact hj
          | 3, hj => exact hj
          | 4, hj => exact hj
          | 5, hj => cases hj
          | 6, hj => cases hj
          | 7, hj => cases hj
          | j + 8, hj => cases hj) (third G' f1 f2 f3)
      · omega
    · intro G' f1 f2 f3
      refine x_iload d_M_burns_36 rfl ?_
      refine x_bipush (8) d_M_burns_38 rfl ⟨by decide, by decide⟩ ?_
      refine x_icmp_ge (57) d_M_burns_40 (by decide) (fun c0 => ?_) (fun c0 => ?_)
      · omega
      · refine x_aload_n d_M_burns_43 rfl rfl ?_
        refine x_getF (kf := 56) d_M_burns_44 rfl rfl rfl in_M f_M_138 ?_
        refine x_iload d_M_burns_47 rfl ?_
        refine x_iconst (-1) d_M_burns_49 rfl ⟨by decide, by decide⟩ ?_
        refine x_iastN (i) d_M_burns_50 rfl (by omega) (by omega) ?_
        refine x_iincN d_M_burns_51 rfl (by decide) (by omega) (by omega) ?_
        dsimp only [x_st1, x_st2, x_kill, List.set, List.getElem?_cons_zero, List.getElem?_cons_succ]
        refine x_goto (36) d_M_burns_54 (by decide) ?_
        refine k _ (f1.up (by decide) (by decide)) (fun j hj => ?_) (fun f hf => ?_)
        · rw [up_cell (by decide), up_cell (by decide)]; exact f2 j hj
        · by_cases q : f = i
          · subst q; rw [up_same]
          · rw [up_ne q]; exact f3 f (by omega)
  have first : ∀ G', mFrame G G' → (∀ j, j < 0 → G' m_above j = 0 ∧ G' m_mixed j = 0) → x_A y_M_burns 3 [some oM, some (xI c.1), some (xI c.2.1), some (xI c.2.2.1), some (xI c.2.2.2), some (xI ((0 : Nat) : Int)), none, none] [] (S0, G') 0 0 Q := by
    refine x_up_to (P := fun i => ∀ G', mFrame G G' → (∀ j, j < i → G' m_above j = 0 ∧ G' m_mixed j = 0) → x_A y_M_burns 3 [some oM, some (xI c.1), some (xI c.2.1), some (xI c.2.2.1), some (xI c.2.2.2), some (xI (i : Int)), none, none] [] (S0, G') 0 0 Q) 0 168 (Nat.zero_le _) ?_ (fun i _ hi k => ?_)
    · intro G' f1 f2
      refine x_iload d_M_burns_3 rfl ?_
      refine x_sipush (168) d_M_burns_5 rfl ⟨by decide, by decide⟩ ?_
      refine x_icmp_ge (33) d_M_burns_8 (by decide) (fun c0 => ?_) (fun c0 => ?_)
      · refine x_iconst (0) d_M_burns_33 rfl ⟨by decide, by decide⟩ ?_
        refine x_istore d_M_burns_34 (by decide) ?_
        dsimp only [x_st1, x_st2, x_kill, List.set, List.getElem?_cons_zero, List.getElem?_cons_succ]
        exact second G' f1 f2 (fun f hf => absurd hf (by omega))
      · omega
    · intro G' f1 f2
      refine x_iload d_M_burns_3 rfl ?_
      refine x_sipush (168) d_M_burns_5 rfl ⟨by decide, by decide⟩ ?_
      refine x_icmp_ge (33) d_M_burns_8 (by decide) (fun c0 => ?_) (fun c0 => ?_)
      · omega
      · refine x_aload_n d_M_burns_11 rfl rfl ?_
        refine x_getF (kf := 53) d_M_burns_12 rfl rfl rfl in_M f_M_129 ?_
        refine x_iload d_M_burns_15 rfl ?_
        refine x_iconst (0) d_M_burns_17 rfl ⟨by decide, by decide⟩ ?_
        refine x_iastN (i) d_M_burns_18 rfl (by omega) (by omega) ?_
        refine x_aload_n d_M_burns_19 rfl rfl ?_
        refine x_getF (kf := 54) d_M_burns_20 rfl rfl rfl in_M f_M_132 ?_
        refine x_iload d_M_burns_23 rfl ?_
        refine x_iconst (0) d_M_burns_25 rfl ⟨by decide, by decide⟩ ?_
        refine x_iastN (i) d_M_burns_26 rfl (by omega) (by omega) ?_
        refine x_iincN d_M_burns_27 rfl (by decide) (by omega) (by omega) ?_
        dsimp only [x_st1, x_st2, x_kill, List.set, List.getElem?_cons_zero, List.getElem?_cons_succ]
        refine x_goto (3) d_M_burns_30 (by decide) ?_
        refine k _ ((f1.up (by decide) (by decide)).up (by decide) (by decide)) (fun j hj => ?_)
        rw [up_cell (i := m_mixed) (a := m_above) (by decide)]
        by_cases q : j = i
        · subst q
          rw [up_same, up_same]
          exact ⟨rfl, rfl⟩
        · rw [up_ne q, up_ne q, up_cell (by decide)]
          exact f2 j (by omega)
  refine x_iconst (0) d_M_burns_0 rfl ⟨by decide, by decide⟩ ?_
  refine x_istore d_M_burns_1 (by decide) ?_
  dsimp only [x_st1, x_st2, x_kill, List.set, List.getElem?_cons_zero, List.getElem?_cons_succ]
  exact first G (fun _ _ => rfl) (fun j hj => absurd hj (by omega))
