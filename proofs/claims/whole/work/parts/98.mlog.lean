/-! the reference: the log -/
def h00 : HH := (fun T _ c => if T = 9 then (if c = 0 then 1000 else if c = 1 then 1 else if c = 3 then 1 else if c = 4 then 1 else 0) else 0, fun T => if T = 9 then 1 else 0)
def mHist (R : Nat → Nat → Int) (hs : Nat → HH) (base done logged : Nat) : Prop := (base ≤ done ∧ done ≤ logged ∧ logged ≤ 600) ∧ hs 0 = h00 ∧ (∀ i, i ≤ logged → Hwf (hs i)) ∧ ∀ i, i < logged → hs (i + 1) = rAp (R i) (hs i) ∧ rOk (R i) (hs i)
def mActs (R : Nat → Nat → Int) (logged : Nat) (G : Nat → Nat → Int) : Prop := ∀ i, i < logged → ∀ j, j < 7 → G m_acts (7 * i + j) = R i j
def mLog (R : Nat → Nat → Int) (hs : Nat → HH) (base done logged : Nat) (G : Nat → Nat → Int) : Prop := mHist R hs base done logged ∧ mActs R logged G ∧ mRep (hs done) G ∧ G o_M 50 = done ∧ G o_M 51 = logged ∧ G o_M 52 = base
/-- nothing but house and log is otherwise -/
def lFrame (G G' : Nat → Nat → Int) : Prop := (∀ i, (i < 63 ∨ 98 < i) → G' i = G i) ∧ G' o_M 68 = G o_M 68
theorem lFrame.rf (G : Nat → Nat → Int) : lFrame G G := ⟨fun _ _ => rfl, rfl⟩
theorem lFrame.tr {G1 G2 G3 : Nat → Nat → Int} (a : lFrame G1 G2) (b : lFrame G2 G3) : lFrame G1 G3 := ⟨fun i h => (b.1 i h).trans (a.1 i h), b.2.trans a.2⟩
theorem hFrame.l {G G' : Nat → Nat → Int} (a : hFrame G G') : lFrame G G' := ⟨fun i h => a.1 i (by omega), a.2 68 (Or.inr (by decide))⟩
theorem lFrame.fld (G : Nat → Nat → Int) {k : Nat} (hk : k ≠ 68) (z : Int) : lFrame G (up G o_M k z) := ⟨fun i hi => up_cell (show i ≠ o_M by show i ≠ 63; omega), up_ne (Ne.symm hk)⟩
def nRec (R : Nat → Nat → Int) (k : Nat) (R' : Nat → Int) : Nat → Nat → Int := fun i => if i = k then R' else R i
def v7 (k a b c d e f : Int) : Nat → Int
  | 0 => k
  | 1 => a
  | 2 => b
  | 3 => c
  | 4 => d
  | 5 => e
  | _ => f
section MLg
variable {R : Nat → Nat → Int} {hs : Nat → HH} {base k logged : Nat} {G : Nat → Nat → Int}
def mTold (R : Nat → Nat → Int) (hs : Nat → HH) (base k : Nat) (R' : Nat → Int) (G : Nat → Nat → Int) : Option XV → XM → Prop := fun v τ => v = none ∧ ∃ G', τ = (S0, G') ∧ mLog (nRec R k R') (nH hs k (rAp R' (hs k))) (max base (k + 1 - 100)) (k + 1) (k + 1) G' ∧ lFrame G G' ∧ G' o_M 0 = G o_M 0
theorem s_act (x : mLog R hs base k logged G) (hk : k < 600) (kd a b c d e f : Int) (ok : rOk (v7 kd a b c d e f) (hs k)) (wf : Hwf (rAp (v7 kd a b c d e f) (hs k))) : x_M y_M_act [oM, xI kd, xI a, xI b, xI c, xI d, xI e, xI f] (S0, G) (fun r τ => ∃ v, r = .inl v ∧ mTold R hs base k (v7 kd a b c d e f) G v τ) := by
  obtain ⟨hi, ac, rp, e1, e2, e3⟩ := x
  have hb := hi.1
  refine x_of 1 rfl (Nat.le_of_ble_eq_true rfl) ?_
  show x_A y_M_act 0 [some oM, some (xI kd), some (xI a), some (xI b), some (xI c), some (xI d), some (xI e), some (xI f), none] [] (S0, G) 0 0 _
  generalize hQ : (fun (r : XRes) (τ : XM) => ∃ v, r = .inl v ∧ mTold R hs base k (v7 kd a b c d e f) G v τ) = Q
  refine x_bipush (7) d_M_act_0 rfl ⟨by decide, by decide⟩ ?_
  refine x_aload_n d_M_act_2 rfl rfl ?_
  refine x_getIG (kf := 50) d_M_act_3 rfl rfl rfl in_M f_M_231 ?_
  rw [e1]
  refine x_imulN d_M_act_6 (by omega) (by omega) ?_
  refine x_istore d_M_act_7 (by decide) ?_
  dsimp only [x_st1, x_st2, x_kill, List.set, List.getElem?_cons_zero, List.getElem?_cons_succ]
  refine x_aload_n d_M_act_9 rfl rfl ?_
  refine x_getF (kf := 49) d_M_act_10 rfl rfl rfl in_M f_M_126 ?_
  refine x_iload d_M_act_13 rfl ?_
  refine x_iload_n d_M_act_15 rfl rfl ?_
  refine x_iastN ((7 * k + 0)) d_M_act_16 rfl (by omega) (by omega) ?_
  refine x_aload_n d_M_act_17 rfl rfl ?_
  refine x_getF (kf := 49) d_M_act_18 rfl rfl rfl in_M f_M_126 ?_
  refine x_iload d_M_act_21 rfl ?_
  refine x_iconst (1) d_M_act_23 rfl ⟨by decide, by decide⟩ ?_
  refine x_iaddN d_M_act_24 (by omega) (by omega) ?_
  refine x_iload_n d_M_act_25 rfl rfl ?_
  refine x_iastN ((7 * k + 1)) d_M_act_26 rfl (by omega) (by omega) ?_
  refine x_aload_n d_M_act_27 rfl rfl ?_
  refine x_getF (kf := 49) d_M_act_28 rfl rfl rfl in_M f_M_126 ?_
  refine x_iload d_M_act_31 rfl ?_
  refine x_iconst (2) d_M_act_33 rfl ⟨by decide, by decide⟩ ?_
  refine x_iaddN d_M_act_34 (by omega) (by omega) ?_
  refine x_iload_n d_M_act_35 rfl rfl ?_
  refine x_iastN ((7 * k + 2)) d_M_act_36 rfl (by omega) (by omega) ?_
  refine x_aload_n d_M_act_37 rfl rfl ?_
  refine x_getF (kf := 49) d_M_act_38 rfl rfl rfl in_M f_M_126 ?_
  refine x_iload d_M_act_41 rfl ?_
  refine x_iconst (3) d_M_act_43 rfl ⟨by decide, by decide⟩ ?_
  refine x_iaddN d_M_act_44 (by omega) (by omega) ?_
  refine x_iload d_M_act_45 rfl ?_
  refine x_iastN ((7 * k + 3)) d_M_act_47 rfl (by omega) (by omega) ?_
  refine x_aload_n d_M_act_48 rfl rfl ?_
  refine x_getF (kf := 49) d_M_act_49 rfl rfl rfl in_M f_M_126 ?_
  refine x_iload d_M_act_52 rfl ?_
  refine x_iconst (4) d_M_act_54 rfl ⟨by decide, by decide⟩ ?_
  refine x_iaddN d_M_act_55 (by omega) (by omega) ?_
  refine x_iload d_M_act_56 rfl ?_
  refine x_iastN ((7 * k + 4)) d_M_act_58 rfl (by omega) (by omega) ?_
  refine x_aload_n d_M_act_59 rfl rfl ?_
  refine x_getF (kf := 49) d_M_act_60 rfl rfl rfl in_M f_M_126 ?_
  refine x_iload d_M_act_63 rfl ?_
  refine x_iconst (5) d_M_act_65 rfl ⟨by decide, by decide⟩ ?_
  refine x_iaddN d_M_act_66 (by omega) (by omega) ?_
  refine x_iload d_M_act_67 rfl ?_
  refine x_iastN ((7 * k + 5)) d_M_act_69 rfl (by omega) (by omega) ?_
  refine x_aload_n d_M_act_70 rfl rfl ?_
  refine x_getF (kf := 49) d_M_act_71 rfl rfl rfl in_M f_M_126 ?_
  refine x_iload d_M_act_74 rfl ?_
  refine x_bipush (6) d_M_act_76 rfl ⟨by decide, by decide⟩ ?_
  refine x_iaddN d_M_act_78 (by omega) (by omega) ?_
  refine x_iload d_M_act_79 rfl ?_
  refine x_iastN ((7 * k + 6)) d_M_act_81 rfl (by omega) (by omega) ?_
  generalize hG1 : up (up (up (up (up (up (up G m_acts (7 * k + 0) kd) m_acts (7 * k + 1) a) m_acts (7 * k + 2) b) m_acts (7 * k + 3) c) m_acts (7 * k + 4) d) m_acts (7 * k + 5) e) m_acts (7 * k + 6) f = G1
  have o1 : ∀ i, i ≠ m_acts → G1 i = G i := fun i h => by rw [← hG1, up_cell h, up_cell h, up_cell h, up_cell h, up_cell h, up_cell h, up_cell h]
  have a1 : ∀ i j, j < 7 → G1 m_acts (7 * i + j) = if i = k then v7 kd a b c d e f j else G m_acts (7 * i + j) := by
    intro i j hj
    rw [← hG1]
    by_cases q : i = k
    · subst q
      rw [if_pos rfl]
      match j, hj with
      | 0, _ => rw [up_ne (by omega), up_ne (by omega), up_ne (by omega), up_ne (by omega), up_ne (by omega), up_ne (by omega), up_same]; rfl
      | 1, _ => rw [up_ne (by omega), up_ne (by omega), up_ne (by omega), up_ne (by omega), up_ne (by omega), up_same]; rfl
      | 2, _ => rw [up_ne (by omega), up_ne (by omega), up_ne (by omega), up_ne (by omega), up_same]; rfl
      | 3, _ => rw [up_ne (by omega), up_ne (by omega), up_ne (by omega), up_same]; rfl
      | 4, _ => rw [up_ne (by omega), up_ne (by omega), up_same]; rfl
      | 5, _ => rw [up_ne (by omega), up_same]; rfl
      | 6, _ => rw [up_same]; rfl
      | j + 7, hj => omega
    · rw [if_neg q, up_ne (by omega), up_ne (by omega), up_ne (by omega), up_ne (by omega), up_ne (by omega), up_ne (by omega), up_ne (by omega)]
  have oM1 : G1 o_M = G o_M := o1 _ (by decide)
  have rp1 : mRep (hs k) G1 := rp.same (fun k _ _ => by rw [oM1]) (fun i h1 h2 => o1 i (by intro z; subst z; revert h2; decide))
  have cd := s_does (hi.2.2.1 k hb.2.1) rp1 (v7 kd a b c d e f) ok (at' := k) (by omega) (fun j hj => by rw [a1 k j hj, if_pos rfl])
  refine x_aload_n d_M_act_82 rfl rfl ?_
  refine x_aload_n d_M_act_83 rfl rfl ?_
  refine x_getIG (kf := 50) d_M_act_84 rfl rfl rfl in_M f_M_231 ?_
  rw [oM1, e1]
  refine x_VQ d_M_act_87 e_M_act_M_does ⟨rfl, rfl, Nat.zero_le _, Nat.zero_le _⟩ rfl rfl rfl rfl (Nat.le_of_ble_eq_true rfl) (cd) (fun v τ H => ?_)
  obtain ⟨rfl, G2, rfl, H1, H2⟩ := H
  have f50 : G2 o_M 50 = k := by rw [H2.2 50 (by omega), oM1]; exact e1
  have f52 : G2 o_M 52 = base := by rw [H2.2 52 (by omega), oM1]; exact e3
  show x_A y_M_act 90 [some oM, some (xI kd), some (xI a), some (xI b), some (xI c), some (xI d), some (xI e), some (xI f), some (xI (7 * (k : Int)))] [] (S0, G2) 0 0 Q
  refine x_aload_n d_M_act_90 rfl rfl ?_
  refine x_dup d_M_act_91 rfl ?_
  refine x_getIG (kf := 50) d_M_act_92 rfl rfl rfl in_M f_M_231 ?_
  rw [f50]
  refine x_iconst (1) d_M_act_95 rfl ⟨by decide, by decide⟩ ?_
  refine x_iaddN d_M_act_96 (by omega) (by omega) ?_
  refine x_putIG (kf := 50) tyX12 d_M_act_97 rfl rfl rfl in_M f_M_231 tyX12_ok nmX12 (by decide +kernel) rfl ?_
  refine x_aload_n d_M_act_100 rfl rfl ?_
  refine x_aload_n d_M_act_101 rfl rfl ?_
  refine x_getIG (kf := 50) d_M_act_102 rfl rfl rfl in_M f_M_231 ?_
  rw [up_same]
  refine x_putIG (kf := 51) tyX12 d_M_act_105 rfl rfl rfl in_M f_M_238 tyX12_ok nmX12 (by decide +kernel) rfl ?_
  refine x_aload_n d_M_act_108 rfl rfl ?_
  refine x_aload_n d_M_act_109 rfl rfl ?_
  refine x_getIG (kf := 52) d_M_act_110 rfl rfl rfl in_M f_M_241 ?_
  rw [up_ne (by decide), up_ne (by decide), f52]
  refine x_aload_n d_M_act_113 rfl rfl ?_
  refine x_getIG (kf := 50) d_M_act_114 rfl rfl rfl in_M f_M_231 ?_
  rw [up_ne (by decide), up_same]
  refine x_bipush (100) d_M_act_117 rfl ⟨by decide, by decide⟩ ?_
  refine x_isubN d_M_act_119 (by omega) (by omega) ?_
  refine x_S1 d_M_act_120 e_M_act_JM_max ⟨rfl, rfl, Nat.zero_le _, Nat.zero_le _⟩ rfl rfl (Nat.le_of_ble_eq_true rfl) (s_max _ _ _) ?_
  refine x_putIG (kf := 52) tyX12 d_M_act_123 rfl rfl rfl in_M f_M_241 tyX12_ok nmX12 (by decide +kernel) rfl ?_
  refine x_return d_M_act_126 rfl ?_ (Nat.zero_le _) (Nat.zero_le _)
  rw [← hQ]
  have lf : lFrame G (up (up (up G2 o_M 50 ((k : Int) + 1)) o_M 51 ((k : Int) + 1)) o_M 52 (max (base : Int) ((k : Int) + 1 - 100))) := by
    refine lFrame.tr (G2 := G2) (lFrame.tr (G2 := G1) ⟨fun i h => o1 i (by show i ≠ 98; omega), by rw [oM1]⟩ H2.l) ?_
    exact (lFrame.fld G2 (by decide) _).tr ((lFrame.fld _ (by decide) _).tr (lFrame.fld _ (by decide) _))
  refine ⟨_, rfl, rfl, _, rfl, ⟨⟨by omega, ?_, fun i hi' => ?_, fun i hi' => ?_⟩, fun i hi' j hj => ?_, ?_, ?_, ?_, ?_⟩, lf, ?_⟩
  · unfold nH; rw [if_pos (Nat.zero_le _)]; exact hi.2.1
  · unfold nH
    split
    · exact hi.2.2.1 i (by omega)
    · exact wf
  · unfold nH nRec
    by_cases q : i = k
    · subst q
      rw [if_neg (by omega), if_pos rfl, if_pos (Nat.le_refl _)]
      exact ⟨rfl, ok⟩
    · rw [if_pos (by omega), if_neg q, if_pos (by omega)]
      exact hi.2.2.2 i (by omega)
  · rw [up_cell (show m_acts ≠ o_M by decide), up_cell (show m_acts ≠ o_M by decide), up_cell (show m_acts ≠ o_M by decide), H2.1 m_acts (Or.inr (by decide)), a1 i j hj]
    unfold nRec
    by_cases q : i = k
    · rw [if_pos q, if_pos q]
    · rw [if_neg q, if_neg q]; exact ac i (by omega) j hj
  · unfold nH
    rw [if_neg (by omega)]
    exact H1.same (fun k h1 h2 => by rw [up_ne (by omega), up_ne (by omega), up_ne (by omega)]) (fun i h1 h2 => by
      have : i ≠ o_M := by intro z; subst z; revert h1; decide
      rw [up_cell this, up_cell this, up_cell this])
  · rw [up_ne (by decide), up_ne (by decide), up_same]; omega
  · rw [up_ne (by decide), up_same]; omega
  · rw [up_same]; omega
  · rw [up_ne (by decide), up_ne (by decide), up_ne (by decide), H2.2 0 (by omega), oM1]
def mUn (R : Nat → Nat → Int) (hs : Nat → HH) (base k' logged : Nat) (G : Nat → Nat → Int) : Option XV → XM → Prop := fun v τ => v = some (xI 1) ∧ ∃ G', τ = (S0, G') ∧ mLog R hs base k' logged G' ∧ lFrame G G' ∧ G' o_M 0 = 0
def mUn0 (R : Nat → Nat → Int) (hs : Nat → HH) (base k logged : Nat) (G : Nat → Nat → Int) : Option XV → XM → Prop := fun v τ => v = some (xI 0) ∧ ∃ G', τ = (S0, G') ∧ mLog R hs base k logged G' ∧ lFrame G G' ∧ G' o_M 0 = 0
theorem mLog.thrown (x : mLog R hs base k logged G) (z : Int) : mLog R hs base k logged (up G o_M 0 z) := by
  obtain ⟨hi, ac, rp, e1, e2, e3⟩ := x
  refine ⟨hi, fun i h1 j h2 => by rw [up_cell (show m_acts ≠ o_M by decide)]; exact ac i h1 j h2, rp.same (fun k h1 _ => up_ne (by omega)) (fun i h1 h2 => up_cell (by intro q; subst q; revert h1; decide)), ?_, ?_, ?_⟩
  · rw [up_ne (by decide)]; exact e1
  · rw [up_ne (by decide)]; exact e2
  · rw [up_ne (by decide)]; exact e3
theorem s_redo0 (x : mLog R hs base k logged G) (hk : k = logged) : x_M y_M_redo [oM] (S0, G) (fun r τ => ∃ v, r = .inl v ∧ mUn0 R hs base k logged G v τ) := by
  have x' := x.thrown 0
  obtain ⟨hi, ac, rp, e1, e2, e3⟩ := x
  refine x_of 0 rfl (Nat.le_of_ble_eq_true rfl) ?_
  show x_A y_M_redo 0 [some oM] [] (S0, G) 0 0 _
  generalize hQ : (fun (r : XRes) (τ : XM) => ∃ v, r = .inl v ∧ mUn0 R hs base k logged G v τ) = Q
  refine x_aload_n d_M_redo_0 rfl rfl ?_
  refine x_iconst (0) d_M_redo_1 rfl ⟨by decide, by decide⟩ ?_
  refine x_putIG (kf := 0) tyX12 d_M_redo_2 rfl rfl rfl in_M f_M_217 tyX12_ok nmX12 (by decide +kernel) rfl ?_
  refine x_aload_n d_M_redo_5 rfl rfl ?_
  refine x_getIG (kf := 50) d_M_redo_6 rfl rfl rfl in_M f_M_231 ?_
  rw [up_ne (by decide), e1]
  refine x_aload_n d_M_redo_9 rfl rfl ?_
  refine x_getIG (kf := 51) d_M_redo_10 rfl rfl rfl in_M f_M_238 ?_
  rw [up_ne (by decide), e2]
  refine x_icmp_ne (18) d_M_redo_13 (by decide) (fun g => ?_) (fun g => ?_)
  · omega
  · refine x_iconst (0) d_M_redo_16 rfl ⟨by decide, by decide⟩ ?_
    refine x_zreturn d_M_redo_17 rfl (by first | exact Or.inl rfl | exact Or.inr rfl | (split <;> first | exact Or.inl rfl | exact Or.inr rfl) | assumption) ?_ (Nat.zero_le _) (Nat.zero_le _)
    rw [← hQ]
    exact ⟨_, rfl, rfl, _, rfl, x', lFrame.fld G (by decide) 0, up_same _ _ _ _⟩
theorem s_redo (x : mLog R hs base k logged G) (hk : k < logged) : x_M y_M_redo [oM] (S0, G) (fun r τ => ∃ v, r = .inl v ∧ mUn R hs base (k + 1) logged G v τ) := by
  have x' := x.thrown 0
  obtain ⟨hi, ac, rp, e1, e2, e3⟩ := x
  have hb := hi.1
  have st := hi.2.2.2 k hk
  have cd := s_does (hi.2.2.1 k (by omega)) x'.2.2.1 (R k) st.2 (at' := k) (by omega) (fun j hj => x'.2.1 k hk j hj)
  refine x_of 0 rfl (Nat.le_of_ble_eq_true rfl) ?_
  show x_A y_M_redo 0 [some oM] [] (S0, G) 0 0 _
  generalize hQ : (fun (r : XRes) (τ : XM) => ∃ v, r = .inl v ∧ mUn R hs base (k + 1) logged G v τ) = Q
  refine x_aload_n d_M_redo_0 rfl rfl ?_
  refine x_iconst (0) d_M_redo_1 rfl ⟨by decide, by decide⟩ ?_
  refine x_putIG (kf := 0) tyX12 d_M_redo_2 rfl rfl rfl in_M f_M_217 tyX12_ok nmX12 (by decide +kernel) rfl ?_
  refine x_aload_n d_M_redo_5 rfl rfl ?_
  refine x_getIG (kf := 50) d_M_redo_6 rfl rfl rfl in_M f_M_231 ?_
  rw [up_ne (by decide), e1]
  refine x_aload_n d_M_redo_9 rfl rfl ?_
  refine x_getIG (kf := 51) d_M_redo_10 rfl rfl rfl in_M f_M_238 ?_
  rw [up_ne (by decide), e2]
  refine x_icmp_ne (18) d_M_redo_13 (by decide) (fun g => ?_) (fun g => ?_)
  · refine x_aload_n d_M_redo_18 rfl rfl ?_
    refine x_aload_n d_M_redo_19 rfl rfl ?_
    refine x_getIG (kf := 50) d_M_redo_20 rfl rfl rfl in_M f_M_231 ?_
    rw [up_ne (by decide), e1]
    refine x_VQ d_M_redo_23 e_M_redo_M_does ⟨rfl, rfl, Nat.zero_le _, Nat.zero_le _⟩ rfl rfl rfl rfl (Nat.le_of_ble_eq_true rfl) (cd) (fun v τ H => ?_)
    obtain ⟨rfl, G2, rfl, H1, H2⟩ := H
    rw [← st.1] at H1
    have f50 : G2 o_M 50 = k := by rw [H2.2 50 (by omega), up_ne (by decide)]; exact e1
    show x_A y_M_redo 26 [some oM] [] (S0, G2) 0 0 Q
    refine x_aload_n d_M_redo_26 rfl rfl ?_
    refine x_dup d_M_redo_27 rfl ?_
    refine x_getIG (kf := 50) d_M_redo_28 rfl rfl rfl in_M f_M_231 ?_
    rw [f50]
    refine x_iconst (1) d_M_redo_31 rfl ⟨by decide, by decide⟩ ?_
    refine x_iaddN d_M_redo_32 (by omega) (by omega) ?_
    refine x_putIG (kf := 50) tyX12 d_M_redo_33 rfl rfl rfl in_M f_M_231 tyX12_ok nmX12 (by decide +kernel) rfl ?_
    refine x_iconst (1) d_M_redo_36 rfl ⟨by decide, by decide⟩ ?_
    refine x_zreturn d_M_redo_37 rfl (by first | exact Or.inl rfl | exact Or.inr rfl | (split <;> first | exact Or.inl rfl | exact Or.inr rfl) | assumption) ?_ (Nat.zero_le _) (Nat.zero_le _)
    rw [← hQ]
    refine ⟨_, rfl, rfl, _, rfl, ⟨⟨by omega, hi.2⟩, fun i hi' j hj => ?_, ?_, ?_, ?_, ?_⟩, ((lFrame.fld G (by decide) 0).tr H2.l).tr (lFrame.fld _ (by decide) _), ?_⟩
    · rw [up_cell (show m_acts ≠ o_M by decide), H2.1 m_acts (Or.inr (by decide))]
      exact x'.2.1 i hi' j hj
    · exact H1.same (fun k h1 h2 => up_ne (by omega)) (fun i h1 h2 => up_cell (by intro q; subst q; revert h1; decide))
    · rw [up_same]; omega
    · rw [up_ne (by decide), H2.2 51 (by omega), up_ne (by decide)]; exact e2
    · rw [up_ne (by decide), H2.2 52 (by omega), up_ne (by decide)]; exact e3
    · rw [up_ne (by decide), H2.2 0 (by omega), up_same]
  · omega
theorem s_undo0 (x : mLog R hs base k logged G) (hk : k = base) : x_M y_M_undo [oM] (S0, G) (fun r τ => ∃ v, r = .inl v ∧ mUn0 R hs base k logged G v τ) := by
  have x' := x.thrown 0
  obtain ⟨hi, ac, rp, e1, e2, e3⟩ := x
  refine x_of 1 rfl (Nat.le_of_ble_eq_true rfl) ?_
  show x_A y_M_undo 0 [some oM, none] [] (S0, G) 0 0 _
  generalize hQ : (fun (r : XRes) (τ : XM) => ∃ v, r = .inl v ∧ mUn0 R hs base k logged G v τ) = Q
  refine x_aload_n d_M_undo_0 rfl rfl ?_
  refine x_iconst (0) d_M_undo_1 rfl ⟨by decide, by decide⟩ ?_
  refine x_putIG (kf := 0) tyX12 d_M_undo_2 rfl rfl rfl in_M f_M_217 tyX12_ok nmX12 (by decide +kernel) rfl ?_
  refine x_aload_n d_M_undo_5 rfl rfl ?_
  refine x_getIG (kf := 50) d_M_undo_6 rfl rfl rfl in_M f_M_231 ?_
  rw [up_ne (by decide), e1]
  refine x_aload_n d_M_undo_9 rfl rfl ?_
  refine x_getIG (kf := 52) d_M_undo_10 rfl rfl rfl in_M f_M_241 ?_
  rw [up_ne (by decide), e3]
  refine x_icmp_ne (18) d_M_undo_13 (by decide) (fun g => ?_) (fun g => ?_)
  · omega
  · refine x_iconst (0) d_M_undo_16 rfl ⟨by decide, by decide⟩ ?_
    refine x_zreturn d_M_undo_17 rfl (by first | exact Or.inl rfl | exact Or.inr rfl | (split <;> first | exact Or.inl rfl | exact Or.inr rfl) | assumption) ?_ (Nat.zero_le _) (Nat.zero_le _)
    rw [← hQ]
    exact ⟨_, rfl, rfl, _, rfl, x', lFrame.fld G (by decide) 0, up_same _ _ _ _⟩
theorem s_undo (x : mLog R hs base (k + 1) logged G) (hk : base ≤ k) : x_M y_M_undo [oM] (S0, G) (fun r τ => ∃ v, r = .inl v ∧ mUn R hs base k logged G v τ) := by
  obtain ⟨hi, ac, rp, e1, e2, e3⟩ := x
  have hb := hi.1
  refine x_of 1 rfl (Nat.le_of_ble_eq_true rfl) ?_
  show x_A y_M_undo 0 [some oM, none] [] (S0, G) 0 0 _
  generalize hQ : (fun (r : XRes) (τ : XM) => ∃ v, r = .inl v ∧ mUn R hs base k logged G v τ) = Q
  have loop : ∀ G' : Nat → Nat → Int, (∀ i, i ≠ o_M → G' i = G i) → G' o_M 0 = 0 → G' o_M 50 = (k : Int) → G' o_M 51 = (logged : Int) → G' o_M 52 = (base : Int) → G' o_M 68 = G o_M 68 → mRep (hs 0) G' → x_A y_M_undo 102 [some oM, some (xI ((0 : Nat) : Int))] [] (S0, G') 0 0 Q := by
    intro G' g0 g1 g2 g3 g4 g5 g6
    refine x_up_to (P := fun n => ∀ G' : Nat → Nat → Int, (∀ i, (i < 63 ∨ 97 < i) → G' i = G i) → G' o_M 0 = 0 → G' o_M 50 = (k : Int) → G' o_M 51 = (logged : Int) → G' o_M 52 = (base : Int) → G' o_M 68 = G o_M 68 → mRep (hs n) G' → x_A y_M_undo 102 [some oM, some (xI (n : Int))] [] (S0, G') 0 0 Q) 0 k (Nat.zero_le _) (fun G' g0 g1 g2 g3 g4 g5 g6 => ?_) (fun n _ hn kk G' g0 g1 g2 g3 g4 g5 g6 => ?_) G' (fun i h => g0 i (by show i ≠ 63; omega)) g1 g2 g3 g4 g5 g6
    · refine x_iload_n d_M_undo_102 rfl rfl ?_
      refine x_aload_n d_M_undo_103 rfl rfl ?_
      refine x_getIG (kf := 50) d_M_undo_104 rfl rfl rfl in_M f_M_231 ?_
      rw [g2]
      refine x_icmp_ge (121) d_M_undo_107 (by decide) (fun g => ?_) (fun g => ?_)
      · refine x_iconst (1) d_M_undo_121 rfl ⟨by decide, by decide⟩ ?_
        refine x_zreturn d_M_undo_122 rfl (by first | exact Or.inl rfl | exact Or.inr rfl | (split <;> first | exact Or.inl rfl | exact Or.inr rfl) | assumption) ?_ (Nat.zero_le _) (Nat.zero_le _)
        rw [← hQ]
        exact ⟨_, rfl, rfl, _, rfl, ⟨⟨by omega, hi.2⟩, fun i h1 j h2 => by rw [g0 m_acts (Or.inr (by decide))]; exact ac i h1 j h2, g6, g2, g3, g4⟩, ⟨fun i h => g0 i (by omega), g5⟩, g1⟩
      · omega
    · have st := hi.2.2.2 n (by omega)
      have cd := s_does (hi.2.2.1 n (by omega)) g6 (R n) st.2 (at' := n) (by omega) (fun j hj => by rw [g0 m_acts (Or.inr (by decide))]; exact ac n (by omega) j hj)
      rw [← st.1] at cd
      refine x_iload_n d_M_undo_102 rfl rfl ?_
      refine x_aload_n d_M_undo_103 rfl rfl ?_
      refine x_getIG (kf := 50) d_M_undo_104 rfl rfl rfl in_M f_M_231 ?_
      rw [g2]
      refine x_icmp_ge (121) d_M_undo_107 (by decide) (fun g => ?_) (fun g => ?_)
      · omega
      · refine x_aload_n d_M_undo_110 rfl rfl ?_
        refine x_iload_n d_M_undo_111 rfl rfl ?_
        refine x_VQ d_M_undo_112 e_M_undo_M_does ⟨rfl, rfl, Nat.zero_le _, Nat.zero_le _⟩ rfl rfl rfl rfl (Nat.le_of_ble_eq_true rfl) (cd) (fun v τ H => ?_)
        obtain ⟨rfl, G2, rfl, H1, H2⟩ := H
        show x_A y_M_undo 115 [some oM, some (xI (n : Int))] [] (S0, G2) 0 0 Q
        refine x_iincN d_M_undo_115 rfl (by decide) (by omega) (by omega) ?_
        dsimp only [x_st1, x_st2, x_kill, List.set, List.getElem?_cons_zero, List.getElem?_cons_succ]
        refine x_goto (102) d_M_undo_118 (by decide) ?_
        exact kk G2 (fun i h => (H2.1 i h).trans (g0 i h)) (by rw [H2.2 0 (by omega)]; exact g1) (by rw [H2.2 50 (by omega)]; exact g2) (by rw [H2.2 51 (by omega)]; exact g3) (by rw [H2.2 52 (by omega)]; exact g4) (by rw [H2.2 68 (by omega)]; exact g5) H1
  refine x_aload_n d_M_undo_0 rfl rfl ?_
  refine x_iconst (0) d_M_undo_1 rfl ⟨by decide, by decide⟩ ?_
  refine x_putIG (kf := 0) tyX12 d_M_undo_2 rfl rfl rfl in_M f_M_217 tyX12_ok nmX12 (by decide +kernel) rfl ?_
  refine x_aload_n d_M_undo_5 rfl rfl ?_
  refine x_getIG (kf := 50) d_M_undo_6 rfl rfl rfl in_M f_M_231 ?_
  rw [up_ne (by decide), e1]
  refine x_aload_n d_M_undo_9 rfl rfl ?_
  refine x_getIG (kf := 52) d_M_undo_10 rfl rfl rfl in_M f_M_241 ?_
  rw [up_ne (by decide), e3]
  refine x_icmp_ne (18) d_M_undo_13 (by decide) (fun g => ?_) (fun g => ?_)
  · refine x_aload_n d_M_undo_18 rfl rfl ?_
    refine x_dup d_M_undo_19 rfl ?_
    refine x_getIG (kf := 50) d_M_undo_20 rfl rfl rfl in_M f_M_231 ?_
    rw [up_ne (by decide), e1]
    refine x_iconst (1) d_M_undo_23 rfl ⟨by decide, by decide⟩ ?_
    refine x_isubN d_M_undo_24 (by omega) (by omega) ?_
    refine x_putIG (kf := 50) tyX12 d_M_undo_25 rfl rfl rfl in_M f_M_231 tyX12_ok nmX12 (by decide +kernel) rfl ?_
    refine x_aload_n d_M_undo_28 rfl rfl ?_
    refine x_iconst (0) d_M_undo_29 rfl ⟨by decide, by decide⟩ ?_
    refine x_putIG (kf := 1) tyX12 d_M_undo_30 rfl rfl rfl in_M f_M_228 tyX12_ok nmX12 (by decide +kernel) rfl ?_
    refine x_aload_n d_M_undo_33 rfl rfl ?_
    refine x_iconst (0) d_M_undo_34 rfl ⟨by decide, by decide⟩ ?_
    refine x_putIG (kf := 2) tyX12 d_M_undo_35 rfl rfl rfl in_M f_M_250 tyX12_ok nmX12 (by decide +kernel) rfl ?_
    refine x_aload_n d_M_undo_38 rfl rfl ?_
    refine x_iconst (0) d_M_undo_39 rfl ⟨by decide, by decide⟩ ?_
    refine x_putIG (kf := 3) tyX12 d_M_undo_40 rfl rfl rfl in_M f_M_253 tyX12_ok nmX12 (by decide +kernel) rfl ?_
    refine x_aload_n d_M_undo_43 rfl rfl ?_
    refine x_iconst (0) d_M_undo_44 rfl ⟨by decide, by decide⟩ ?_
    refine x_putIG (kf := 4) tyX12 d_M_undo_45 rfl rfl rfl in_M f_M_256 tyX12_ok nmX12 (by decide +kernel) rfl ?_
    refine x_aload_n d_M_undo_48 rfl rfl ?_
    refine x_iconst (0) d_M_undo_49 rfl ⟨by decide, by decide⟩ ?_
    refine x_putIG (kf := 5) tyX12 d_M_undo_50 rfl rfl rfl in_M f_M_259 tyX12_ok nmX12 (by decide +kernel) rfl ?_
    refine x_aload_n d_M_undo_53 rfl rfl ?_
    refine x_iconst (0) d_M_undo_54 rfl ⟨by decide, by decide⟩ ?_
    refine x_putIG (kf := 6) tyX12 d_M_undo_55 rfl rfl rfl in_M f_M_262 tyX12_ok nmX12 (by decide +kernel) rfl ?_
    refine x_aload_n d_M_undo_58 rfl rfl ?_
    refine x_iconst (0) d_M_undo_59 rfl ⟨by decide, by decide⟩ ?_
    refine x_putIG (kf := 7) tyX12 d_M_undo_60 rfl rfl rfl in_M f_M_269 tyX12_ok nmX12 (by decide +kernel) rfl ?_
    refine x_aload_n d_M_undo_63 rfl rfl ?_
    refine x_iconst (0) d_M_undo_64 rfl ⟨by decide, by decide⟩ ?_
    refine x_putIG (kf := 8) tyX12 d_M_undo_65 rfl rfl rfl in_M f_M_275 tyX12_ok nmX12 (by decide +kernel) rfl ?_
    refine x_aload_n d_M_undo_68 rfl rfl ?_
    refine x_iconst (0) d_M_undo_69 rfl ⟨by decide, by decide⟩ ?_
    refine x_putIG (kf := 9) tyX12 d_M_undo_70 rfl rfl rfl in_M f_M_278 tyX12_ok nmX12 (by decide +kernel) rfl ?_
    refine x_aload_n d_M_undo_73 rfl rfl ?_
    refine x_sipush (1000) d_M_undo_74 rfl ⟨by decide, by decide⟩ ?_
    refine x_putIG (kf := 10) tyX12 d_M_undo_77 rfl rfl rfl in_M f_M_7 tyX12_ok nmX12 (by decide +kernel) rfl ?_
    refine x_aload_n d_M_undo_80 rfl rfl ?_
    refine x_iconst (1) d_M_undo_81 rfl ⟨by decide, by decide⟩ ?_
    refine x_putIG (kf := 11) tyX12 d_M_undo_82 rfl rfl rfl in_M f_M_13 tyX12_ok nmX12 (by decide +kernel) rfl ?_
    refine x_aload_n d_M_undo_85 rfl rfl ?_
    refine x_iconst (0) d_M_undo_86 rfl ⟨by decide, by decide⟩ ?_
    refine x_putIG (kf := 12) tyX12 d_M_undo_87 rfl rfl rfl in_M f_M_272 tyX12_ok nmX12 (by decide +kernel) rfl ?_
    refine x_aload_n d_M_undo_90 rfl rfl ?_
    refine x_iconst (1) d_M_undo_91 rfl ⟨by decide, by decide⟩ ?_
    refine x_putIG (kf := 13) tyX12 d_M_undo_92 rfl rfl rfl in_M f_M_16 tyX12_ok nmX12 (by decide +kernel) rfl ?_
    refine x_aload_n d_M_undo_95 rfl rfl ?_
    refine x_iconst (1) d_M_undo_96 rfl ⟨by decide, by decide⟩ ?_
    refine x_putIG (kf := 14) tyX12 d_M_undo_97 rfl rfl rfl in_M f_M_19 tyX12_ok nmX12 (by decide +kernel) rfl ?_
    refine x_iconst (0) d_M_undo_100 rfl ⟨by decide, by decide⟩ ?_
    refine x_istore_n d_M_undo_101 rfl (by decide) ?_
    dsimp only [x_st1, x_st2, x_kill, List.set, List.getElem?_cons_zero, List.getElem?_cons_succ]
    refine loop _ (fun i h => ?_) ?_ ?_ ?_ ?_ ?_ ?_
    · simp only [up_cell h]
    · simp [up]
    · simp [up]
    · simp [up]; exact e2
    · simp [up]; exact e3
    · simp [up]
    · rw [hi.2.1]
      refine mRep.from ⟨fun T hT => ⟨?_, fun c hc r hr => ?_⟩, fun c hc => ?_⟩
      · match T, hT with
        | 0, _ => simp [up, h00]
        | 1, _ => simp [up, h00]
        | 2, _ => simp [up, h00]
        | 3, _ => simp [up, h00]
        | 4, _ => simp [up, h00]
        | 5, _ => simp [up, h00]
        | 6, _ => simp [up, h00]
        | 7, _ => simp [up, h00]
        | 8, _ => simp [up, h00]
        | T + 9, hT => omega
      · have : r < if T = 9 then 1 else 0 := hr
        rw [if_neg (by omega)] at this
        omega
      · match c, hc with
        | 0, _ => simp [up, h00]
        | 1, _ => simp [up, h00]
        | 2, _ => simp [up, h00]
        | 3, _ => simp [up, h00]
        | 4, _ => simp [up, h00]
        | c + 5, hc => omega
  · omega
end MLg
