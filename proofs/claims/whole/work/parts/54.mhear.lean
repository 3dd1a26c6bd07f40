/-! the reference: listens, areAlike, bestOut -/
def f_tell (h : HH) (c : CC) (m : Nat) : Nat → Int
  | 0 => 0
  | p + 1 => if x_and (x_shr (h.1 9 0 2) p) 1 = 1 ∧ h.1 9 0 3 ≤ (sk h c m).1 p + (sk h c m).2.1 p then x_or (f_tell h c m p) (x_shl 1 p) else f_tell h c m p
/-- behind listens: what the gauges tell of the fire with the row i -/
def mHeard (h : HH) (pl : Int) (i : Nat) (G : Nat → Nat → Int) : Option XV → XM → Prop := fun v τ => v = none ∧ ∃ G', τ = (S0, G') ∧ (∀ z, z ≠ m_tells → (z < m_above ∨ m_washed < z) → G' z = G z) ∧ (∀ j, (j < 21 * i ∨ 21 * i + 21 ≤ j) → G' m_tells j = G m_tells j) ∧ ∀ m, m ≤ 20 → G' m_tells (21 * i + m) = f_tell h (pl, pl, 0, f_fi i) m (h.2 0)
theorem s_listens {h : HH} {G : Nat → Nat → Int} (hh : Hwf h) (r : mRep h G) (pl : Int) (i : Nat) (hi : i ≤ 4) (hf : -1 ≤ f_fi i ∧ f_fi i < h.2 2) : x_M y_M_listens [oM, xI pl, xI (f_fi i)] (S0, G) (fun r τ => ∃ v, r = .inl v ∧ mHeard h pl i G v τ) := by
  have b := hh.1
  have dl := hh.2.2.2.2.2.2.2.2.2.2
  refine x_of 3 rfl (Nat.le_of_ble_eq_true rfl) ?_
  show x_A y_M_listens 0 [some oM, some (xI pl), some (xI (f_fi i)), none, none, none] [] (S0, G) 0 0 _
  generalize hQ : (fun (r : XRes) (τ : XM) => ∃ v, r = .inl v ∧ mHeard h pl i G v τ) = Q
  refine x_aload_n d_M_listens_0 rfl rfl ?_
  refine x_iload_n d_M_listens_1 rfl rfl ?_
  refine x_iload_n d_M_listens_2 rfl rfl ?_
  refine x_iconst (0) d_M_listens_3 rfl ⟨by decide, by decide⟩ ?_
  refine x_iload_n d_M_listens_4 rfl rfl ?_
  refine x_VQ d_M_listens_5 e_M_listens_M_burns ⟨rfl, rfl, Nat.zero_le _, Nat.zero_le _⟩ rfl rfl rfl rfl (Nat.le_of_ble_eq_true rfl) (s_burns hh r (pl, pl, 0, f_fi i) hf) (fun v τ hv => ?_)
  obtain ⟨rfl, G1, rfl, f1, sm⟩ := hv
  show x_A y_M_listens 8 [some oM, some (xI pl), some (xI (f_fi i)), none, none, none] [] (S0, G1) 0 0 Q
  have r1 := f1.rep r
  have hcc : -1 ≤ ((pl, pl, 0, f_fi i) : CC).2.2.2 ∧ ((pl, pl, 0, f_fi i) : CC).2.2.2 < h.2 2 := hf
  generalize hc : ((pl, pl, 0, f_fi i) : CC) = c at *
  have rest : x_A y_M_listens 22 [some oM, some (xI pl), some (xI (f_fi i)), some (xI ((21 * i : Nat) : Int)), none, none] [] (S0, G1) 0 0 Q := by
    refine x_iconst (0) d_M_listens_22 rfl ⟨by decide, by decide⟩ ?_
    refine x_istore d_M_listens_23 (by decide) ?_
    dsimp only [x_st1, x_st2, x_kill, List.set, List.getElem?_cons_zero, List.getElem?_cons_succ]
    have all : ∀ G', (∀ z, z ≠ m_tells → G' z = G1 z) → (∀ j, (j < 21 * i ∨ 21 * i + 21 ≤ j) → G' m_tells j = G1 m_tells j) → (∀ m, m < 0 → G' m_tells (21 * i + m) = f_tell h c m (h.2 0)) → x_A y_M_listens 25 [some oM, some (xI pl), some (xI (f_fi i)), some (xI ((21 * i : Nat) : Int)), some (xI ((0 : Nat) : Int)), none] [] (S0, G') 0 0 Q := by
      refine x_up_to (P := fun m => ∀ G', (∀ z, z ≠ m_tells → G' z = G1 z) → (∀ j, (j < 21 * i ∨ 21 * i + 21 ≤ j) → G' m_tells j = G1 m_tells j) → (∀ n, n < m → G' m_tells (21 * i + n) = f_tell h c n (h.2 0)) → x_A y_M_listens 25 [some oM, some (xI pl), some (xI (f_fi i)), some (xI ((21 * i : Nat) : Int)), some (xI (m : Int)), none] [] (S0, G') 0 0 Q) 0 21 (Nat.zero_le _) ?_ (fun m _ hm k => ?_)
      · intro G2 g1 g2 g3
        refine x_iload d_M_listens_25 rfl ?_
        refine x_bipush (20) d_M_listens_27 rfl ⟨by decide, by decide⟩ ?_
        refine x_icmp_gt (129) d_M_listens_29 (by decide) (fun c0 => ?_) (fun c0 => ?_)
        · refine x_return d_M_listens_129 rfl ?_ (Nat.zero_le _) (Nat.zero_le _)
          rw [← hQ]
          refine ⟨_, rfl, rfl, G2, rfl, fun z h1 h2 => (g1 z h1).trans (f1 z h2), fun j hj => (g2 j hj).trans (by rw [f1 m_tells (Or.inr (by decide))]), fun m hm => ?_⟩
          rw [hc]
          exact g3 m (by omega)
        · omega
      · intro G2 g1 g2 g3
        have skl := (sm.1 m (by omega)).1
        have sb := (sk_le hh hcc (m := m) (by omega)).1
        refine x_iload d_M_listens_25 rfl ?_
        refine x_bipush (20) d_M_listens_27 rfl ⟨by decide, by decide⟩ ?_
        refine x_icmp_gt (129) d_M_listens_29 (by decide) (fun c0 => ?_) (fun c0 => ?_)
        · omega
        · refine x_aload_n d_M_listens_32 rfl rfl ?_
          refine x_getF (kf := 70) d_M_listens_33 rfl rfl rfl in_M f_M_177 ?_
          refine x_iload_n d_M_listens_36 rfl rfl ?_
          refine x_iload d_M_listens_37 rfl ?_
          refine x_iaddN d_M_listens_39 (by omega) (by omega) ?_
          refine x_iconst (0) d_M_listens_40 rfl ⟨by decide, by decide⟩ ?_
          refine x_iastN (21 * i + m) d_M_listens_41 rfl (by omega) (by omega) ?_
          refine x_iconst (0) d_M_listens_42 rfl ⟨by decide, by decide⟩ ?_
          refine x_istore d_M_listens_43 (by decide) ?_
          dsimp only [x_st1, x_st2, x_kill, List.set, List.getElem?_cons_zero, List.getElem?_cons_succ]
          have inner : ∀ G', (∀ z, z ≠ m_tells → G' z = G1 z) → (∀ j, j ≠ 21 * i + m → G' m_tells j = G2 m_tells j) → G' m_tells (21 * i + m) = f_tell h c m 0 → x_A y_M_listens 45 [some oM, some (xI pl), some (xI (f_fi i)), some (xI ((21 * i : Nat) : Int)), some (xI (m : Int)), some (xI ((0 : Nat) : Int))] [] (S0, G') 0 0 Q := by
            refine x_up_to (P := fun p => ∀ G', (∀ z, z ≠ m_tells → G' z = G1 z) → (∀ j, j ≠ 21 * i + m → G' m_tells j = G2 m_tells j) → G' m_tells (21 * i + m) = f_tell h c m p → x_A y_M_listens 45 [some oM, some (xI pl), some (xI (f_fi i)), some (xI ((21 * i : Nat) : Int)), some (xI (m : Int)), some (xI (p : Int))] [] (S0, G') 0 0 Q) 0 (h.2 0) (Nat.zero_le _) ?_ (fun p _ hp k2 => ?_)
            · intro G3 k1 k3 k4
              have e3 : G3 o_M 1 = h.2 0 := by rw [k1 o_M (by decide)]; exact r1.1.1
              refine x_iload d_M_listens_45 rfl ?_
              refine x_aload_n d_M_listens_47 rfl rfl ?_
              refine x_getIG (kf := 1) d_M_listens_48 rfl rfl rfl in_M f_M_228 ?_
              refine x_icmp_ge (123) d_M_listens_51 (by decide) (fun c1 => ?_) (fun c1 => ?_)
              · refine x_iincN d_M_listens_123 rfl (by decide) (by omega) (by omega) ?_
                dsimp only [x_st1, x_st2, x_kill, List.set, List.getElem?_cons_zero, List.getElem?_cons_succ]
                refine x_goto (25) d_M_listens_126 (by decide) ?_
                exact x_sub (fun j v hj => by
                  match j, hj with
                  | 0, hj => exact hj
                  | 1, hj => exact hj
                  | 2, hj => exact hj
                  | 3, hj => exact hj
                  | 4, hj => exact hj
                  | 5, hj => cases hj
                  | j + 6, hj => cases hj) (k G3 k1 (fun j hj => (k3 j (by omega)).trans (g2 j hj)) (fun n hn => by
                  rcases Nat.lt_succ_iff_lt_or_eq.1 hn with z | z
                  · rw [k3 _ (by omega)]; exact g3 n z
                  · subst z; exact k4))
              · omega
            · intro G3 k1 k3 k4
              have e3 : G3 o_M 1 = h.2 0 := by rw [k1 o_M (by decide)]; exact r1.1.1
              have e4 : G3 o_M 12 = h.1 9 0 2 := by rw [k1 o_M (by decide)]; exact r1.2.2.2.2.2.2.2.2.2.2.2.2.1
              have e5 : G3 o_M 13 = h.1 9 0 3 := by rw [k1 o_M (by decide)]; exact r1.2.2.2.2.2.2.2.2.2.2.2.2.2.1
              have e6 : G3 m_above (8 * m + p) = (sk h c m).1 p := by rw [k1 m_above (by decide)]; exact (skl p (by omega)).1
              have e7 : G3 m_mixed (8 * m + p) = (sk h c m).2.1 p := by rw [k1 m_mixed (by decide)]; exact (skl p (by omega)).2
              have sbp := sb p
              have st : f_tell h c m (p + 1) = if x_and (x_shr (h.1 9 0 2) p) 1 = 1 ∧ h.1 9 0 3 ≤ (sk h c m).1 p + (sk h c m).2.1 p then x_or (f_tell h c m p) (x_shl 1 p) else f_tell h c m p := rfl
              have skip : ¬ (x_and (x_shr (h.1 9 0 2) p) 1 = 1 ∧ h.1 9 0 3 ≤ (sk h c m).1 p + (sk h c m).2.1 p) → x_A y_M_listens 117 [some oM, some (xI pl), some (xI (f_fi i)), some (xI ((21 * i : Nat) : Int)), some (xI (m : Int)), some (xI (p : Int))] [] (S0, G3) 0 0 Q := by
                intro nz
                refine x_iincN d_M_listens_117 rfl (by decide) (by omega) (by omega) ?_
                dsimp only [x_st1, x_st2, x_kill, List.set, List.getElem?_cons_zero, List.getElem?_cons_succ]
                refine x_goto (45) d_M_listens_120 (by decide) ?_
                exact k2 G3 k1 k3 (by rw [st, if_neg nz]; exact k4)
              refine x_iload d_M_listens_45 rfl ?_
              refine x_aload_n d_M_listens_47 rfl rfl ?_
              refine x_getIG (kf := 1) d_M_listens_48 rfl rfl rfl in_M f_M_228 ?_
              refine x_icmp_ge (123) d_M_listens_51 (by decide) (fun c1 => ?_) (fun c1 => ?_)
              · omega
              · refine x_aload_n d_M_listens_54 rfl rfl ?_
                refine x_getIG (kf := 12) d_M_listens_55 rfl rfl rfl in_M f_M_272 ?_
                rw [e4]
                refine x_iload d_M_listens_58 rfl ?_
                refine x_ishr d_M_listens_60 ?_
                refine x_iconst (1) d_M_listens_61 rfl ⟨by decide, by decide⟩ ?_
                refine x_iand d_M_listens_62 ?_
                refine x_iconst (1) d_M_listens_63 rfl ⟨by decide, by decide⟩ ?_
                refine x_icmp_ne (117) d_M_listens_64 (by decide) (fun c2 => ?_) (fun c2 => ?_)
                · exact skip (fun q => c2 q.1)
                · refine x_aload_n d_M_listens_67 rfl rfl ?_
                  refine x_getF (kf := 53) d_M_listens_68 rfl rfl rfl in_M f_M_129 ?_
                  refine x_bipush (8) d_M_listens_71 rfl ⟨by decide, by decide⟩ ?_
                  refine x_iload d_M_listens_73 rfl ?_
                  refine x_imulN d_M_listens_75 (by omega) (by omega) ?_
                  refine x_iload d_M_listens_76 rfl ?_
                  refine x_iaddN d_M_listens_78 (by omega) (by omega) ?_
                  refine x_ialdN (8 * m + p) d_M_listens_79 rfl (by omega) (by omega) ?_
                  refine x_aload_n d_M_listens_80 rfl rfl ?_
                  refine x_getF (kf := 54) d_M_listens_81 rfl rfl rfl in_M f_M_132 ?_
                  refine x_bipush (8) d_M_listens_84 rfl ⟨by decide, by decide⟩ ?_
                  refine x_iload d_M_listens_86 rfl ?_
                  refine x_imulN d_M_listens_88 (by omega) (by omega) ?_
                  refine x_iload d_M_listens_89 rfl ?_
                  refine x_iaddN d_M_listens_91 (by omega) (by omega) ?_
                  refine x_ialdN (8 * m + p) d_M_listens_92 rfl (by omega) (by omega) ?_
                  rw [e6, e7]
                  refine x_iaddN d_M_listens_93 (by omega) (by omega) ?_
                  refine x_aload_n d_M_listens_94 rfl rfl ?_
                  refine x_getIG (kf := 13) d_M_listens_95 rfl rfl rfl in_M f_M_16 ?_
                  rw [e5]
                  refine x_icmp_lt (117) d_M_listens_98 (by decide) (fun c3 => ?_) (fun c3 => ?_)
                  · exact skip (fun q => by have := q.2; omega)
                  · refine x_aload_n d_M_listens_101 rfl rfl ?_
                    refine x_getF (kf := 70) d_M_listens_102 rfl rfl rfl in_M f_M_177 ?_
                    refine x_iload_n d_M_listens_105 rfl rfl ?_
                    refine x_iload d_M_listens_106 rfl ?_
                    refine x_iaddN d_M_listens_108 (by omega) (by omega) ?_
                    refine x_dup2 d_M_listens_109 rfl rfl ?_
                    refine x_ialdN (21 * i + m) d_M_listens_110 rfl (by omega) (by omega) ?_
                    rw [k4]
                    refine x_iconst (1) d_M_listens_111 rfl ⟨by decide, by decide⟩ ?_
                    refine x_iload d_M_listens_112 rfl ?_
                    refine x_ishl d_M_listens_114 ?_
                    refine x_ior d_M_listens_115 ?_
                    refine x_iastN (21 * i + m) d_M_listens_116 rfl (by omega) (by omega) ?_
                    refine x_iincN d_M_listens_117 rfl (by decide) (by omega) (by omega) ?_
                    dsimp only [x_st1, x_st2, x_kill, List.set, List.getElem?_cons_zero, List.getElem?_cons_succ]
                    refine x_goto (45) d_M_listens_120 (by decide) ?_
                    exact k2 _ (fun z hz => (up_cell hz).trans (k1 z hz)) (fun j hj => (up_ne hj).trans (k3 j hj)) (by rw [up_same, st, if_pos ⟨c2, by omega⟩])
          exact inner _ (fun z hz => (up_cell hz).trans (g1 z hz)) (fun j hj => up_ne hj) (up_same _ _ _ _)
    exact all G1 (fun z _ => rfl) (fun j _ => rfl) (fun m hm => absurd hm (Nat.not_lt_zero m))
  by_cases i4 : i = 4
  · have e4 : f_fi i = -1 := by unfold f_fi; rw [if_pos i4]
    rw [e4] at rest ⊢
    refine x_bipush (21) d_M_listens_8 rfl ⟨by decide, by decide⟩ ?_
    refine x_iload_n d_M_listens_10 rfl rfl ?_
    refine x_iconst (-1) d_M_listens_11 rfl ⟨by decide, by decide⟩ ?_
    refine x_icmp_ne (19) d_M_listens_12 (by decide) (fun c0 => ?_) (fun c0 => ?_)
    · exact absurd rfl c0
    · subst i4
      refine x_iconst (4) d_M_listens_15 rfl ⟨by decide, by decide⟩ ?_
      refine x_goto (20) d_M_listens_16 (by decide) ?_
      refine x_imulN d_M_listens_20 (by omega) (by omega) ?_
      refine x_istore_n d_M_listens_21 rfl (by decide) ?_
      dsimp only [x_st1, x_st2, x_kill, List.set, List.getElem?_cons_zero, List.getElem?_cons_succ]
      exact rest
  · have e4 : f_fi i = i := by unfold f_fi; rw [if_neg i4]
    rw [e4] at rest ⊢
    refine x_bipush (21) d_M_listens_8 rfl ⟨by decide, by decide⟩ ?_
    refine x_iload_n d_M_listens_10 rfl rfl ?_
    refine x_iconst (-1) d_M_listens_11 rfl ⟨by decide, by decide⟩ ?_
    refine x_icmp_ne (19) d_M_listens_12 (by decide) (fun c0 => ?_) (fun c0 => ?_)
    · refine x_iload_n d_M_listens_19 rfl rfl ?_
      refine x_imulN d_M_listens_20 (by omega) (by omega) ?_
      refine x_istore_n d_M_listens_21 rfl (by decide) ?_
      dsimp only [x_st1, x_st2, x_kill, List.set, List.getElem?_cons_zero, List.getElem?_cons_succ]
      exact rest
    · omega
