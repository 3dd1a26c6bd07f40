/-! the reference: areAlike, bestOut -/
def f_alk (k : Int) (t1 t2 : Nat → Int) : Nat → Bool
  | 0 => true
  | m + 1 => f_alk k t1 t2 m && (decide (k < (m : Int)) || decide (t1 m = t2 m))
theorem f_alk_s (k : Int) (t1 t2 : Nat → Int) (m : Nat) : f_alk k t1 t2 (m + 1) = (f_alk k t1 t2 m && (decide (k < (m : Int)) || decide (t1 m = t2 m))) := rfl
theorem f_alk_0 {k : Int} {t1 t2 : Nat → Int} {m n : Nat} (a : f_alk k t1 t2 m = false) (b : m ≤ n) : f_alk k t1 t2 n = false := by
  induction b with
  | refl => exact a
  | step b ih => rw [f_alk_s, ih, Bool.false_and]
theorem f_alk_1 {k : Int} {t1 t2 : Nat → Int} {m n : Nat} (a : f_alk k t1 t2 m = true) (c : k < (m : Int)) (b : m ≤ n) : f_alk k t1 t2 n = true := by
  induction b with
  | refl => exact a
  | @step n b ih =>
    have b : m ≤ n := b
    rw [f_alk_s, ih, decide_eq_true (show k < (n : Int) by omega)]
    rfl
theorem f_alk_cg {k : Int} {t1 t2 u1 u2 : Nat → Int} {n : Nat} (a : ∀ m, m < n → t1 m = u1 m) (b : ∀ m, m < n → t2 m = u2 m) : f_alk k t1 t2 n = f_alk k u1 u2 n := by
  induction n with
  | zero => rfl
  | succ n ih => rw [f_alk_s, f_alk_s, ih (fun m hm => a m (by omega)) (fun m hm => b m (by omega)), a n (by omega), b n (by omega)]
theorem s_areAlike {h : HH} {G : Nat → Nat → Int} (hh : Hwf h) (r : mRep h G) (k : Int) (hk : 0 ≤ k ∧ k ≤ 21) (i j : Nat) (hi : i ≤ 4) (hj : j ≤ 4) : x_M y_M_areAlike [oM, xI k, xI (f_fi i), xI (f_fi j)] (S0, G) (x_is (.inl (some (xI (b2i (f_alk (k - h.1 9 0 4) (fun m => G m_tells (21 * i + m)) (fun m => G m_tells (21 * j + m)) 21))))) (S0, G)) := by
  have dl := hh.2.2.2.2.2.2.2.2.2.2
  have e5 := r.2.2.2.2.2.2.2.2.2.2.2.2.2.2
  refine x_of 3 rfl (Nat.le_of_ble_eq_true rfl) ?_
  show x_A y_M_areAlike 0 [some oM, some (xI k), some (xI (f_fi i)), some (xI (f_fi j)), none, none, none] [] (S0, G) 0 0 _
  generalize hQ : (x_is (.inl (some (xI (b2i (f_alk (k - h.1 9 0 4) (fun m => G m_tells (21 * i + m)) (fun m => G m_tells (21 * j + m)) 21))))) (S0, G)) = Q
  have rest : x_A y_M_areAlike 30 [some oM, some (xI k), some (xI (f_fi i)), some (xI (f_fi j)), some (xI ((21 * i : Nat) : Int)), some (xI ((21 * j : Nat) : Int)), none] [] (S0, G) 0 0 Q := by
    refine x_iconst (0) d_M_areAlike_30 rfl ⟨by decide, by decide⟩ ?_
    refine x_istore d_M_areAlike_31 (by decide) ?_
    dsimp only [x_st1, x_st2, x_kill, List.set, List.getElem?_cons_zero, List.getElem?_cons_succ]
    have all : f_alk (k - h.1 9 0 4) (fun m => G m_tells (21 * i + m)) (fun m => G m_tells (21 * j + m)) 0 = true → x_A y_M_areAlike 33 [some oM, some (xI k), some (xI (f_fi i)), some (xI (f_fi j)), some (xI ((21 * i : Nat) : Int)), some (xI ((21 * j : Nat) : Int)), some (xI ((0 : Nat) : Int))] [] (S0, G) 0 0 Q := by
      refine x_up_to (P := fun m => f_alk (k - h.1 9 0 4) (fun m => G m_tells (21 * i + m)) (fun m => G m_tells (21 * j + m)) m = true → x_A y_M_areAlike 33 [some oM, some (xI k), some (xI (f_fi i)), some (xI (f_fi j)), some (xI ((21 * i : Nat) : Int)), some (xI ((21 * j : Nat) : Int)), some (xI (m : Int))] [] (S0, G) 0 0 Q) 0 21 (Nat.zero_le _) ?_ (fun m _ hm k2 => ?_)
      · intro a
        refine x_iload d_M_areAlike_33 rfl ?_
        refine x_bipush (20) d_M_areAlike_35 rfl ⟨by decide, by decide⟩ ?_
        refine x_iload_n d_M_areAlike_37 rfl rfl ?_
        refine x_aload_n d_M_areAlike_38 rfl rfl ?_
        refine x_getIG (kf := 14) d_M_areAlike_39 rfl rfl rfl in_M f_M_19 ?_
        rw [e5]
        refine x_isubN d_M_areAlike_42 (by omega) (by omega) ?_
        refine x_S1 d_M_areAlike_43 e_M_areAlike_JM_min ⟨rfl, rfl, Nat.zero_le _, Nat.zero_le _⟩ rfl rfl (Nat.le_of_ble_eq_true rfl) (s_min _ _ _) ?_
        refine x_icmp_gt (80) d_M_areAlike_46 (by decide) (fun c => ?_) (fun c => ?_)
        · refine x_iconst (1) d_M_areAlike_80 rfl ⟨by decide, by decide⟩ ?_
          refine x_zreturn d_M_areAlike_81 rfl (by first | exact Or.inl rfl | exact Or.inr rfl | (split <;> first | exact Or.inl rfl | exact Or.inr rfl) | assumption) ?_ (Nat.zero_le _) (Nat.zero_le _)
          rw [← hQ, a]
          exact ⟨rfl, rfl⟩
        · have : min 20 (k - h.1 9 0 4) ≤ 20 := Int.min_le_left _ _
          omega
      · intro a
        refine x_iload d_M_areAlike_33 rfl ?_
        refine x_bipush (20) d_M_areAlike_35 rfl ⟨by decide, by decide⟩ ?_
        refine x_iload_n d_M_areAlike_37 rfl rfl ?_
        refine x_aload_n d_M_areAlike_38 rfl rfl ?_
        refine x_getIG (kf := 14) d_M_areAlike_39 rfl rfl rfl in_M f_M_19 ?_
        rw [e5]
        refine x_isubN d_M_areAlike_42 (by omega) (by omega) ?_
        refine x_S1 d_M_areAlike_43 e_M_areAlike_JM_min ⟨rfl, rfl, Nat.zero_le _, Nat.zero_le _⟩ rfl rfl (Nat.le_of_ble_eq_true rfl) (s_min _ _ _) ?_
        refine x_icmp_gt (80) d_M_areAlike_46 (by decide) (fun c => ?_) (fun c => ?_)
        · refine x_iconst (1) d_M_areAlike_80 rfl ⟨by decide, by decide⟩ ?_
          refine x_zreturn d_M_areAlike_81 rfl (by first | exact Or.inl rfl | exact Or.inr rfl | (split <;> first | exact Or.inl rfl | exact Or.inr rfl) | assumption) ?_ (Nat.zero_le _) (Nat.zero_le _)
          have a2 := f_alk_1 a (show k - h.1 9 0 4 < (m : Int) by rw [Int.min_def] at c; split at c <;> omega) (Nat.le_of_lt hm)
          rw [← hQ, a2]
          exact ⟨rfl, rfl⟩
        · refine x_aload_n d_M_areAlike_49 rfl rfl ?_
          refine x_getF (kf := 70) d_M_areAlike_50 rfl rfl rfl in_M f_M_177 ?_
          refine x_iload d_M_areAlike_53 rfl ?_
          refine x_iload d_M_areAlike_55 rfl ?_
          refine x_iaddN d_M_areAlike_57 (by omega) (by omega) ?_
          refine x_ialdN (21 * i + m) d_M_areAlike_58 rfl (by omega) (by omega) ?_
          refine x_aload_n d_M_areAlike_59 rfl rfl ?_
          refine x_getF (kf := 70) d_M_areAlike_60 rfl rfl rfl in_M f_M_177 ?_
          refine x_iload d_M_areAlike_63 rfl ?_
          refine x_iload d_M_areAlike_65 rfl ?_
          refine x_iaddN d_M_areAlike_67 (by omega) (by omega) ?_
          refine x_ialdN (21 * j + m) d_M_areAlike_68 rfl (by omega) (by omega) ?_
          refine x_icmp_eq (74) d_M_areAlike_69 (by decide) (fun c1 => ?_) (fun c1 => ?_)
          · refine x_iincN d_M_areAlike_74 rfl (by decide) (by omega) (by omega) ?_
            dsimp only [x_st1, x_st2, x_kill, List.set, List.getElem?_cons_zero, List.getElem?_cons_succ]
            refine x_goto (33) d_M_areAlike_77 (by decide) ?_
            exact k2 (by rw [f_alk_s, a, decide_eq_true c1, Bool.or_true]; rfl)
          · refine x_iconst (0) d_M_areAlike_72 rfl ⟨by decide, by decide⟩ ?_
            refine x_zreturn d_M_areAlike_73 rfl (by first | exact Or.inl rfl | exact Or.inr rfl | (split <;> first | exact Or.inl rfl | exact Or.inr rfl) | assumption) ?_ (Nat.zero_le _) (Nat.zero_le _)
            have hle : ¬ (k - h.1 9 0 4 < (m : Int)) := by rw [Int.min_def] at c; split at c <;> omega
            have a2 := f_alk_0 (show f_alk (k - h.1 9 0 4) (fun m => G m_tells (21 * i + m)) (fun m => G m_tells (21 * j + m)) (m + 1) = false by rw [f_alk_s, a, decide_eq_false hle, decide_eq_false c1]; rfl) hm
            rw [← hQ, a2]
            exact ⟨rfl, rfl⟩
    exact all rfl
  have two : x_A y_M_areAlike 15 [some oM, some (xI k), some (xI (f_fi i)), some (xI (f_fi j)), some (xI ((21 * i : Nat) : Int)), none, none] [] (S0, G) 0 0 Q := by
    clear hQ
    by_cases i4 : j = 4
    · have e4 : f_fi j = -1 := by unfold f_fi; rw [if_pos i4]
      rw [e4] at rest ⊢
      refine x_bipush (21) d_M_areAlike_15 rfl ⟨by decide, by decide⟩ ?_
      refine x_iload_n d_M_areAlike_17 rfl rfl ?_
      refine x_iconst (-1) d_M_areAlike_18 rfl ⟨by decide, by decide⟩ ?_
      refine x_icmp_ne (26) d_M_areAlike_19 (by decide) (fun c0 => ?_) (fun c0 => ?_)
      · exact absurd rfl c0
      · subst i4
        refine x_iconst (4) d_M_areAlike_22 rfl ⟨by decide, by decide⟩ ?_
        refine x_goto (27) d_M_areAlike_23 (by decide) ?_
        refine x_imulN d_M_areAlike_27 (by omega) (by omega) ?_
        refine x_istore d_M_areAlike_28 (by decide) ?_
        dsimp only [x_st1, x_st2, x_kill, List.set, List.getElem?_cons_zero, List.getElem?_cons_succ]
        exact rest
    · have e4 : f_fi j = j := by unfold f_fi; rw [if_neg i4]
      rw [e4] at rest ⊢
      refine x_bipush (21) d_M_areAlike_15 rfl ⟨by decide, by decide⟩ ?_
      refine x_iload_n d_M_areAlike_17 rfl rfl ?_
      refine x_iconst (-1) d_M_areAlike_18 rfl ⟨by decide, by decide⟩ ?_
      refine x_icmp_ne (26) d_M_areAlike_19 (by decide) (fun c0 => ?_) (fun c0 => ?_)
      · refine x_iload_n d_M_areAlike_26 rfl rfl ?_
        refine x_imulN d_M_areAlike_27 (by omega) (by omega) ?_
        refine x_istore d_M_areAlike_28 (by decide) ?_
        dsimp only [x_st1, x_st2, x_kill, List.set, List.getElem?_cons_zero, List.getElem?_cons_succ]
        exact rest
      · omega
  clear hQ rest
  by_cases i4 : i = 4
  · have e4 : f_fi i = -1 := by unfold f_fi; rw [if_pos i4]
    rw [e4] at two ⊢
    refine x_bipush (21) d_M_areAlike_0 rfl ⟨by decide, by decide⟩ ?_
    refine x_iload_n d_M_areAlike_2 rfl rfl ?_
    refine x_iconst (-1) d_M_areAlike_3 rfl ⟨by decide, by decide⟩ ?_
    refine x_icmp_ne (11) d_M_areAlike_4 (by decide) (fun c0 => ?_) (fun c0 => ?_)
    · exact absurd rfl c0
    · subst i4
      refine x_iconst (4) d_M_areAlike_7 rfl ⟨by decide, by decide⟩ ?_
      refine x_goto (12) d_M_areAlike_8 (by decide) ?_
      refine x_imulN d_M_areAlike_12 (by omega) (by omega) ?_
      refine x_istore d_M_areAlike_13 (by decide) ?_
      dsimp only [x_st1, x_st2, x_kill, List.set, List.getElem?_cons_zero, List.getElem?_cons_succ]
      exact two
  · have e4 : f_fi i = i := by unfold f_fi; rw [if_neg i4]
    rw [e4] at two ⊢
    refine x_bipush (21) d_M_areAlike_0 rfl ⟨by decide, by decide⟩ ?_
    refine x_iload_n d_M_areAlike_2 rfl rfl ?_
    refine x_iconst (-1) d_M_areAlike_3 rfl ⟨by decide, by decide⟩ ?_
    refine x_icmp_ne (11) d_M_areAlike_4 (by decide) (fun c0 => ?_) (fun c0 => ?_)
    · refine x_iload_n d_M_areAlike_11 rfl rfl ?_
      refine x_imulN d_M_areAlike_12 (by omega) (by omega) ?_
      refine x_istore d_M_areAlike_13 (by decide) ?_
      dsimp only [x_st1, x_st2, x_kill, List.set, List.getElem?_cons_zero, List.getElem?_cons_succ]
      exact two
    · omega
theorem mOut.val {h : HH} (hh : Hwf h) {c : CC} {by' : Nat} {set : Int} {G : Nat → Nat → Int} {v : Option XV} {τ : XM} (a : mOut h c by' (h.1 9 0 1).toNat set G v τ) : ∃ G', τ = (S0, G') ∧ bFrame G G' ∧ mSmoke h c G' ∧ v = some (xI (f_out h c by' set)) ∧ 0 ≤ f_out h c by' set ∧ f_out h c by' set ≤ 1200000000 := by
  obtain ⟨G', N, L, V, rfl, f, sm, w, -, -, ec, mi, -, rfl⟩ := a
  have e : f_out h c by' set = V := mv_eq mi
  have b0 : ∀ S, 0 ≤ cut N S ∧ cut N S ≤ 1200000000 := by
    intro S
    have := su_bd (f := fun k => ind S (N.2.1 k) (N.2.2.1 k) (N.2.2.2 k)) (c := 0) (d := 1000000) (n := N.1) (fun k hk => by have := w.2 k hk; unfold ind; split <;> omega)
    have hK := w.1
    have h2 : (N.1 : Int) * 1000000 ≤ 1200 * 1000000 := Int.mul_le_mul_of_nonneg_right (by omega) (by omega)
    unfold cut
    omega
  obtain ⟨⟨S, s1, s2⟩, s3⟩ := mi
  have := b0 S
  rw [ec S, s2] at this
  rw [e]
  exact ⟨G', rfl, f, sm, rfl, this.1, this.2⟩
/-- the best that a plan can do -/
noncomputable def f_bo (h : HH) (f : Int) (by' : Nat) : Nat → Int
  | 0 => 0
  | p + 1 => max (f_bo h f by' p) (f_out h ((p : Int), (p : Int), 0, f) by' (f_made h (h.2 6)))
def mBest (h : HH) (f : Int) (by' : Nat) (G : Nat → Nat → Int) : Option XV → XM → Prop := fun v τ => ∃ G', τ = (S0, G') ∧ bFrame G G' ∧ v = some (xI (f_bo h f by' 4)) ∧ 0 ≤ f_bo h f by' 4 ∧ f_bo h f by' 4 ≤ 1200000000
theorem s_bestOut {h : HH} {G : Nat → Nat → Int} (hh : Hwf h) (r : mRep h G) (f : Int) (hf : -1 ≤ f ∧ f < h.2 2) (by' : Nat) (hb : by' ≤ 20) : x_M y_M_bestOut [oM, xI f, xI (by' : Int)] (S0, G) (fun r τ => ∃ v, r = .inl v ∧ mBest h f by' G v τ) := by
  refine x_of 2 rfl (Nat.le_of_ble_eq_true rfl) ?_
  show x_A y_M_bestOut 0 [some oM, some (xI f), some (xI (by' : Int)), none, none] [] (S0, G) 0 0 _
  generalize hQ : (fun (r : XRes) (τ : XM) => ∃ v, r = .inl v ∧ mBest h f by' G v τ) = Q
  refine x_iconst (0) d_M_bestOut_0 rfl ⟨by decide, by decide⟩ ?_
  refine x_istore_n d_M_bestOut_1 rfl (by decide) ?_
  dsimp only [x_st1, x_st2, x_kill, List.set, List.getElem?_cons_zero, List.getElem?_cons_succ]
  refine x_iconst (0) d_M_bestOut_2 rfl ⟨by decide, by decide⟩ ?_
  refine x_istore d_M_bestOut_3 (by decide) ?_
  dsimp only [x_st1, x_st2, x_kill, List.set, List.getElem?_cons_zero, List.getElem?_cons_succ]
  have all : ∀ G', bFrame G G' → (0 ≤ f_bo h f by' 0 ∧ f_bo h f by' 0 ≤ 1200000000) → x_A y_M_bestOut 5 [some oM, some (xI f), some (xI (by' : Int)), some (xI (f_bo h f by' 0)), some (xI ((0 : Nat) : Int))] [] (S0, G') 0 0 Q := by
    refine x_up_to (P := fun p => ∀ G', bFrame G G' → (0 ≤ f_bo h f by' p ∧ f_bo h f by' p ≤ 1200000000) → x_A y_M_bestOut 5 [some oM, some (xI f), some (xI (by' : Int)), some (xI (f_bo h f by' p)), some (xI (p : Int))] [] (S0, G') 0 0 Q) 0 4 (Nat.zero_le _) ?_ (fun p _ hp k => ?_)
    · intro G1 f1 bb
      refine x_iload d_M_bestOut_5 rfl ?_
      refine x_iconst (4) d_M_bestOut_7 rfl ⟨by decide, by decide⟩ ?_
      refine x_icmp_ge (33) d_M_bestOut_8 (by decide) (fun c => ?_) (fun c => ?_)
      · refine x_iload_n d_M_bestOut_33 rfl rfl ?_
        refine x_ireturn d_M_bestOut_34 rfl ?_ (Nat.zero_le _) (Nat.zero_le _)
        rw [← hQ]
        exact ⟨_, rfl, G1, rfl, f1, rfl, bb⟩
      · omega
    · intro G1 f1 bb
      have st : f_bo h f by' (p + 1) = max (f_bo h f by' p) (f_out h ((p : Int), (p : Int), 0, f) by' (f_made h (h.2 6))) := rfl
      refine x_iload d_M_bestOut_5 rfl ?_
      refine x_iconst (4) d_M_bestOut_7 rfl ⟨by decide, by decide⟩ ?_
      refine x_icmp_ge (33) d_M_bestOut_8 (by decide) (fun c => ?_) (fun c => ?_)
      · omega
      · refine x_iload_n d_M_bestOut_11 rfl rfl ?_
        refine x_aload_n d_M_bestOut_12 rfl rfl ?_
        refine x_iload d_M_bestOut_13 rfl ?_
        refine x_iload d_M_bestOut_15 rfl ?_
        refine x_iconst (0) d_M_bestOut_17 rfl ⟨by decide, by decide⟩ ?_
        refine x_iload_n d_M_bestOut_18 rfl rfl ?_
        refine x_iload_n d_M_bestOut_19 rfl rfl ?_
        refine x_VQ d_M_bestOut_20 e_M_bestOut_M_outBy ⟨rfl, rfl, Nat.zero_le _, Nat.zero_le _⟩ rfl rfl rfl rfl (Nat.le_of_ble_eq_true rfl) (s_outBy hh (f1.rep r) ((p : Int), (p : Int), 0, f) hf by' hb) (fun v τ hv => ?_)
        obtain ⟨G2, rfl, f2, -, rfl, b1, b2⟩ := hv.val hh
        show x_A y_M_bestOut 23 [some oM, some (xI f), some (xI (by' : Int)), some (xI (f_bo h f by' p)), some (xI (p : Int))] [xI (f_out h ((p : Int), (p : Int), 0, f) by' (f_made h (h.2 6))), xI (f_bo h f by' p)] (S0, G2) 0 0 Q
        refine x_S1 d_M_bestOut_23 e_M_bestOut_JM_max ⟨rfl, rfl, Nat.zero_le _, Nat.zero_le _⟩ rfl rfl (Nat.le_of_ble_eq_true rfl) (s_max _ _ _) ?_
        rw [← st]
        refine x_istore_n d_M_bestOut_26 rfl (by decide) ?_
        dsimp only [x_st1, x_st2, x_kill, List.set, List.getElem?_cons_zero, List.getElem?_cons_succ]
        refine x_iincN d_M_bestOut_27 rfl (by decide) (by omega) (by omega) ?_
        dsimp only [x_st1, x_st2, x_kill, List.set, List.getElem?_cons_zero, List.getElem?_cons_succ]
        refine x_goto (5) d_M_bestOut_30 (by decide) ?_
        exact k G2 (f1.tr f2) (by rw [st, Int.max_def]; split <;> omega)
  exact all G (bFrame.rf G) (by show 0 ≤ (0 : Int) ∧ (0 : Int) ≤ _; omega)
