/-! the reference: tries, goesAlone -/
abbrev T3 : Type := Int × Int × Int
def g3 (G : Nat → Nat → Int) (i : Nat) : T3 := (G m_dose i, G m_outMinute i, G m_deed i)
def aF (i : Nat) (G G' : Nat → Nat → Int) : Prop := (∀ z, z ≠ m_dose → z ≠ m_outMinute → z ≠ m_deed → G' z = G z) ∧ ∀ j, j ≠ i → g3 G' j = g3 G j
theorem aF.rf (i : Nat) (G : Nat → Nat → Int) : aF i G G := ⟨fun _ _ _ _ => rfl, fun _ _ => rfl⟩
theorem aF.tr {i : Nat} {G1 G2 G3 : Nat → Nat → Int} (a : aF i G1 G2) (b : aF i G2 G3) : aF i G1 G3 := ⟨fun z h1 h2 h3 => (b.1 z h1 h2 h3).trans (a.1 z h1 h2 h3), fun j hj => (b.2 j hj).trans (a.2 j hj)⟩
theorem aF.p {i : Nat} {G G' : Nat → Nat → Int} (a : aF i G G') : pFrame G G' := ⟨fun z _ h2 => a.1 z (by intro q; subst q; revert h2; decide) (by intro q; subst q; revert h2; decide) (by intro q; subst q; revert h2; decide), fun k _ => by rw [a.1 o_M (by decide) (by decide) (by decide)]⟩
theorem aF.put (i : Nat) (G : Nat → Nat → Int) (a b c : Int) : aF i G (up (up (up G m_dose i a) m_outMinute i b) m_deed i c) ∧ g3 (up (up (up G m_dose i a) m_outMinute i b) m_deed i c) i = (a, b, c) := by
  have d1 : m_dose ≠ m_outMinute := by decide
  have d2 : m_dose ≠ m_deed := by decide
  have d3 : m_outMinute ≠ m_deed := by decide
  refine ⟨⟨fun z h1 h2 h3 => by rw [up_cell h3, up_cell h2, up_cell h1], fun j hj => ?_⟩, ?_⟩
  · unfold g3
    rw [up_cell d2, up_cell d1, up_ne hj, up_cell d3, up_ne hj, up_cell d1.symm, up_ne hj, up_cell d3.symm, up_cell d2.symm]
  · unfold g3
    rw [up_cell d2, up_cell d1, up_same, up_cell d3, up_same, up_same]
def a_try (z : T3) (what v minute : Int) : T3 := if z.1 < v ∨ (v = z.1 ∧ z.2.1 ≤ minute) then z else (v, minute, what)
theorem a_try_bd {z : T3} {what v minute : Int} (h1 : 0 ≤ z.1 ∧ z.1 ≤ 1000000000000) (h2 : 0 ≤ v) : 0 ≤ (a_try z what v minute).1 ∧ (a_try z what v minute).1 ≤ 1000000000000 := by
  unfold a_try
  split
  · exact h1
  · rename_i q
    have : ¬ z.1 < v := fun x => q (Or.inl x)
    show 0 ≤ v ∧ v ≤ _
    omega
def mTried (i : Nat) (z : T3) (G : Nat → Nat → Int) : Option XV → XM → Prop := fun v τ => v = none ∧ ∃ G', τ = (S0, G') ∧ aF i G G' ∧ g3 G' i = z
theorem s_tries (G : Nat → Nat → Int) {i : Nat} (hi : i < 168) (what v minute : Int) : x_M y_M_tries [oM, xI (i : Int), xI what, xL v, xI minute] (S0, G) (fun r τ => ∃ u, r = .inl u ∧ mTried i (a_try (g3 G i) what v minute) G u τ) := by
  refine x_of 0 rfl (Nat.le_of_ble_eq_true rfl) ?_
  show x_A y_M_tries 0 [some oM, some (xI (i : Int)), some (xI what), some (xL v), none, some (xI minute)] [] (S0, G) 0 0 _
  generalize hQ : (fun (r : XRes) (τ : XM) => ∃ u, r = .inl u ∧ mTried i (a_try (g3 G i) what v minute) G u τ) = Q
  have keep : (G m_dose i < v ∨ (v = G m_dose i ∧ G m_outMinute i ≤ minute)) → Q (.inl none) (S0, G) := by
    intro z
    rw [← hQ]
    exact ⟨_, rfl, rfl, G, rfl, aF.rf i G, by unfold a_try; exact (if_pos z).symm⟩
  have put : ¬ (G m_dose i < v ∨ (v = G m_dose i ∧ G m_outMinute i ≤ minute)) → x_A y_M_tries 34 [some oM, some (xI (i : Int)), some (xI what), some (xL v), none, some (xI minute)] [] (S0, G) 0 0 Q := by
    intro z
    refine x_aload_n d_M_tries_34 rfl rfl ?_
    refine x_getF (kf := 75) d_M_tries_35 rfl rfl rfl in_M f_M_192 ?_
    refine x_iload_n d_M_tries_38 rfl rfl ?_
    refine x_lload_n d_M_tries_39 rfl rfl ?_
    refine x_lastN (i) d_M_tries_40 rfl (by omega) (by omega) ?_
    refine x_aload_n d_M_tries_41 rfl rfl ?_
    refine x_getF (kf := 76) d_M_tries_42 rfl rfl rfl in_M f_M_196 ?_
    refine x_iload_n d_M_tries_45 rfl rfl ?_
    refine x_iload d_M_tries_46 rfl ?_
    refine x_iastN (i) d_M_tries_48 rfl (by omega) (by omega) ?_
    refine x_aload_n d_M_tries_49 rfl rfl ?_
    refine x_getF (kf := 77) d_M_tries_50 rfl rfl rfl in_M f_M_199 ?_
    refine x_iload_n d_M_tries_53 rfl rfl ?_
    refine x_iload_n d_M_tries_54 rfl rfl ?_
    refine x_iastN (i) d_M_tries_55 rfl (by omega) (by omega) ?_
    refine x_return d_M_tries_56 rfl ?_ (Nat.zero_le _) (Nat.zero_le _)
    rw [← hQ]
    have q := aF.put i G v minute what
    exact ⟨_, rfl, rfl, _, rfl, q.1, by rw [q.2]; unfold a_try; exact (if_neg z).symm⟩
  refine x_lload_n d_M_tries_0 rfl rfl ?_
  refine x_aload_n d_M_tries_1 rfl rfl ?_
  refine x_getF (kf := 75) d_M_tries_2 rfl rfl rfl in_M f_M_192 ?_
  refine x_iload_n d_M_tries_5 rfl rfl ?_
  refine x_laldN (i) d_M_tries_6 rfl (by omega) (by omega) ?_
  refine x_lcmp_ d_M_tries_7 ?_
  refine x_if_gt (33) d_M_tries_8 (by decide) (fun c1 => ?_) (fun c1 => ?_)
  · have h1 : G m_dose i < v := by unfold x_lcmp at c1; split at c1 <;> (try split at c1) <;> omega
    refine x_return d_M_tries_33 rfl ?_ (Nat.zero_le _) (Nat.zero_le _)
    exact keep (Or.inl h1)
  · have h1 : ¬ G m_dose i < v := by unfold x_lcmp at c1; split at c1 <;> (try split at c1) <;> omega
    refine x_lload_n d_M_tries_11 rfl rfl ?_
    refine x_aload_n d_M_tries_12 rfl rfl ?_
    refine x_getF (kf := 75) d_M_tries_13 rfl rfl rfl in_M f_M_192 ?_
    refine x_iload_n d_M_tries_16 rfl rfl ?_
    refine x_laldN (i) d_M_tries_17 rfl (by omega) (by omega) ?_
    refine x_lcmp_ d_M_tries_18 ?_
    refine x_if_ne (34) d_M_tries_19 (by decide) (fun c2 => ?_) (fun c2 => ?_)
    · have h2 : v ≠ G m_dose i := by unfold x_lcmp at c2; split at c2 <;> (try split at c2) <;> omega
      exact put (fun z => by rcases z with z | z <;> omega)
    · have h2 : v = G m_dose i := by unfold x_lcmp at c2; split at c2 <;> (try split at c2) <;> omega
      refine x_iload d_M_tries_22 rfl ?_
      refine x_aload_n d_M_tries_24 rfl rfl ?_
      refine x_getF (kf := 76) d_M_tries_25 rfl rfl rfl in_M f_M_196 ?_
      refine x_iload_n d_M_tries_28 rfl rfl ?_
      refine x_ialdN (i) d_M_tries_29 rfl (by omega) (by omega) ?_
      refine x_icmp_lt (34) d_M_tries_30 (by decide) (fun c3 => ?_) (fun c3 => ?_)
      · exact put (fun z => by rcases z with z | z <;> omega)
      · refine x_return d_M_tries_33 rfl ?_ (Nat.zero_le _) (Nat.zero_le _)
        exact keep (Or.inr ⟨h2, by omega⟩)
