/-! the reference: what is told -/
def aRes (R : Nat → Nat → Int) (hs : Nat → HH) (base k logged : Nat) (rec : Option (Nat → Int)) (G : Nat → Nat → Int) : Prop := match rec with
  | none => mLog R hs base k logged G
  | some R' => mLog (nRec R k R') (nH hs k (rAp R' (hs k))) (max base (k + 1 - 100)) (k + 1) (k + 1) G
def mPubA (R : Nat → Nat → Int) (hs : Nat → HH) (base k logged : Nat) (code V : Int) (rec : Option (Nat → Int)) (G : Nat → Nat → Int) : Option XV → XM → Prop := fun v τ => v = some (xI V) ∧ ∃ G', τ = (S0, G') ∧ lFrame G G' ∧ G' o_M 0 = code ∧ aRes R hs base k logged rec G'
section MPb
variable {R : Nat → Nat → Int} {hs : Nat → HH} {base k logged : Nat} {G : Nat → Nat → Int}
theorem mPubA.no (x : mLog R hs base k logged G) (c V : Int) : mPubA R hs base k logged c V none G (some (xI V)) (S0, up (up G o_M 0 0) o_M 0 c) :=
  ⟨rfl, _, rfl, (lFrame.fld G (by decide) 0).tr (lFrame.fld _ (by decide) c), up_same _ _ _ _, (x.thrown 0).thrown c⟩
theorem mPubA.full (x : mLog R hs base k logged G) (V : Int) : mPubA R hs base k logged 0 V none G (some (xI V)) (S0, up G o_M 0 0) :=
  ⟨rfl, _, rfl, lFrame.fld G (by decide) 0, up_same _ _ _ _, x.thrown 0⟩
theorem h9_of (x : mLog R hs base k logged G) : (hs k).2 9 = 1 := by
  have key : ∀ i, i ≤ logged → (hs i).2 9 = 1 := by
    intro i hi
    induction i with
    | zero => rw [x.1.2.1]; rfl
    | succ i ih =>
      have := x.1.2.2.2 i (by omega)
      rw [this.1]
      have ih := ih (by omega)
      unfold rAp
      by_cases q0 : R i 0 = 0
      · rw [if_pos q0]; exact ih
      rw [if_neg q0]
      by_cases q1 : R i 0 = 1
      · rw [if_pos q1]; exact ih
      rw [if_neg q1]
      by_cases q2 : R i 0 = 2
      · rw [if_pos q2]; exact ih
      rw [if_neg q2]
      by_cases q3 : R i 0 = 3
      · rw [if_pos q3]; exact ih
      rw [if_neg q3]
      by_cases q4 : R i 0 = 4
      · rw [if_pos q4]; exact ih
      rw [if_neg q4]
      by_cases q5 : R i 0 = 5
      · rw [if_pos q5]; exact ih
      rw [if_neg q5]
      by_cases q6 : R i 0 = 6
      · rw [if_pos q6]; exact ih
      rw [if_neg q6]
      by_cases q7 : R i 0 = 7
      · rw [if_pos q7]; exact ih
      rw [if_neg q7]
      by_cases q8 : R i 0 = 8
      · rw [if_pos q8]; exact ih
      rw [if_neg q8]
      by_cases q9 : R i 0 = 9
      · rw [if_pos q9]; exact ih
      rw [if_neg q9]
      by_cases q10 : R i 0 = 10
      · rw [if_pos q10]; exact ih
      rw [if_neg q10]
      by_cases q11 : R i 0 = 11
      · rw [if_pos q11]; exact ih
      rw [if_neg q11]
      by_cases q12 : R i 0 = 12
      · rw [if_pos q12]; exact ih
      rw [if_neg q12]
      exact ih
  exact key k x.1.1.2.1
def c_piece (h : HH) (a b : Int) : Int := if (f_wi a 1 200 = 0) ∨ (f_wi b 0 40 = 0) then 1 else 0
def r_piece (h : HH) (a b : Int) : Option (Nat → Int) := if c_piece h a b = 0 ∧ ¬ h.2 0 = 8 then some (v7 0 a b 0 0 0 0) else none
def a_piece (h : HH) (a b : Int) : Int := if c_piece h a b = 0 then if h.2 0 = 8 then -1 else (h.2 0 : Int) else 0
theorem s_piece (x : mLog R hs base k logged G) (hk : k < 600) (a b : Int) : x_M y_M_piece [oM, xI a, xI b] (S0, G) (fun r τ => ∃ v, r = .inl v ∧ mPubA R hs base k logged (c_piece (hs k) a b) (a_piece (hs k) a b) (r_piece (hs k) a b) G v τ) := by
  have hh := x.1.2.2.1 k x.1.1.2.1
  have bb := hh.1
  have r := (x.thrown 0).2.2.1
  have e0 := r.to
  have h9 := h9_of x
  refine x_of 0 rfl (Nat.le_of_ble_eq_true rfl) ?_
  show x_A y_M_piece 0 [some oM, some (xI a), some (xI b)] [] (S0, G) 0 0 _
  generalize hQ : (fun (r : XRes) (τ : XM) => ∃ v, r = .inl v ∧ mPubA R hs base k logged (c_piece (hs k) a b) (a_piece (hs k) a b) (r_piece (hs k) a b) G v τ) = Q
  have f0 : ((f_wi a 1 200 = 0) ∨ (f_wi b 0 40 = 0)) → x_A y_M_piece 29 [some oM, some (xI a), some (xI b)] [] (S0, up G o_M 0 0) 0 0 Q := by
    intro z
    have eC : c_piece (hs k) a b = 1 := by unfold c_piece; rw [if_pos z]
    have eV : a_piece (hs k) a b = 0 := by unfold a_piece; rw [if_neg (by omega)]
    have eR : r_piece (hs k) a b = none := by unfold r_piece; rw [if_neg (by omega)]
    refine x_aload_n d_M_piece_29 rfl rfl ?_
    refine x_iconst (1) d_M_piece_30 rfl ⟨by decide, by decide⟩ ?_
    refine x_V1 d_M_piece_31 e_M_piece_M_fails ⟨rfl, rfl, Nat.zero_le _, Nat.zero_le _⟩ rfl rfl rfl rfl (Nat.le_of_ble_eq_true rfl) (s_fails (up G o_M 0 0) 1) ?_
    refine x_ireturn d_M_piece_34 rfl ?_ (Nat.zero_le _) (Nat.zero_le _)
    rw [← hQ, eC, eV, eR]
    exact ⟨_, rfl, mPubA.no x 1 0⟩
  refine x_aload_n d_M_piece_0 rfl rfl ?_
  refine x_iconst (0) d_M_piece_1 rfl ⟨by decide, by decide⟩ ?_
  refine x_putIG (kf := 0) tyX12 d_M_piece_2 rfl rfl rfl in_M f_M_217 tyX12_ok nmX12 (by decide +kernel) rfl ?_
  refine x_iload_n d_M_piece_5 rfl rfl ?_
  refine x_i2l d_M_piece_6 ?_
  refine x_lconst (1) d_M_piece_7 rfl ⟨by decide, by decide⟩ ?_
  refine x_ldc2 (200) d_M_piece_8 k_M_281 ⟨by decide, by decide⟩ ?_
  refine x_S1 d_M_piece_11 e_M_piece_M_within ⟨rfl, rfl, Nat.zero_le _, Nat.zero_le _⟩ rfl rfl (Nat.le_of_ble_eq_true rfl) (s_within _ _ _ _) ?_
  refine x_if_eq (29) d_M_piece_14 (by decide) (fun g0_0 => ?_) (fun g0_0 => ?_)
  · exact f0 (Or.inl g0_0)
  · have g0_0 : ¬ (f_wi a 1 200 = 0) := g0_0
    refine x_iload_n d_M_piece_17 rfl rfl ?_
    refine x_i2l d_M_piece_18 ?_
    refine x_lconst (0) d_M_piece_19 rfl ⟨by decide, by decide⟩ ?_
    refine x_ldc2 (40) d_M_piece_20 k_M_283 ⟨by decide, by decide⟩ ?_
    refine x_S1 d_M_piece_23 e_M_piece_M_within ⟨rfl, rfl, Nat.zero_le _, Nat.zero_le _⟩ rfl rfl (Nat.le_of_ble_eq_true rfl) (s_within _ _ _ _) ?_
    refine x_if_ne (35) d_M_piece_26 (by decide) (fun g0_1 => ?_) (fun g0_1 => ?_)
    · have g0_1 : ¬ (f_wi b 0 40 = 0) := g0_1
      have n0 : ¬ ((f_wi a 1 200 = 0) ∨ (f_wi b 0 40 = 0)) := by
        intro z
        rcases z with z | z
        · exact g0_0 z
        · exact g0_1 z
      have eC : c_piece (hs k) a b = 0 := by unfold c_piece; rw [if_neg n0]
      have q0_0 := f_wi_1 g0_0
      have q0_1 := f_wi_1 g0_1
      have es := (e0.1 0 (by decide)).1
      refine x_aload_n d_M_piece_35 rfl rfl ?_
      refine x_getIG (kf := 1) d_M_piece_36 rfl rfl rfl in_M f_M_228 ?_
      rw [show up G o_M 0 0 o_M 1 = ((hs k).2 0 : Int) from es]
      refine x_bipush (8) d_M_piece_39 rfl ⟨by decide, by decide⟩ ?_
      refine x_icmp_ne (46) d_M_piece_41 (by decide) (fun gf => ?_) (fun gf => ?_)
      · have eR : r_piece (hs k) a b = some (v7 0 a b 0 0 0 0) := by unfold r_piece; rw [if_pos ⟨eC, by omega⟩]
        have eV : a_piece (hs k) a b = ((hs k).2 0 : Int) := by unfold a_piece; rw [if_pos eC, if_neg (by omega)]
        have ok : rOk (v7 0 a b 0 0 0 0) (hs k) := by
          unfold rOk v7; simp <;> omega
        have wf : Hwf (rAp (v7 0 a b 0 0 0 0) (hs k)) := (Hwf.add0 hh h9 (by omega) (v := v6 a b 21 0 0 0) (by show 1 ≤ a ∧ a ≤ 200 ∧ 0 ≤ b ∧ b ≤ 40 ∧ (0 : Int) ≤ 21 ∧ (21 : Int) ≤ 21; omega)).1
        have ca := s_act (x.thrown 0) hk 0 a b 0 0 0 0 ok wf
        refine x_aload_n d_M_piece_46 rfl rfl ?_
        refine x_iconst (0) d_M_piece_47 rfl ⟨by decide, by decide⟩ ?_
        refine x_iload_n d_M_piece_48 rfl rfl ?_
        refine x_iload_n d_M_piece_49 rfl rfl ?_
        refine x_iconst (0) d_M_piece_50 rfl ⟨by decide, by decide⟩ ?_
        refine x_iconst (0) d_M_piece_51 rfl ⟨by decide, by decide⟩ ?_
        refine x_iconst (0) d_M_piece_52 rfl ⟨by decide, by decide⟩ ?_
        refine x_iconst (0) d_M_piece_53 rfl ⟨by decide, by decide⟩ ?_
        refine x_VQ d_M_piece_54 e_M_piece_M_act ⟨rfl, rfl, Nat.zero_le _, Nat.zero_le _⟩ rfl rfl rfl rfl (Nat.le_of_ble_eq_true rfl) (ca) (fun v τ H => ?_)
        obtain ⟨rfl, G1, rfl, H1, H2, H3⟩ := H
        rw [up_same] at H3
        have lf := (lFrame.fld G (by decide) 0).tr H2
        have sz := (H1.2.2.1.to.1 0 (by decide)).1
        rw [show (nH hs k (rAp (v7 0 a b 0 0 0 0) (hs k)) (k + 1)).2 0 = (hs k).2 0 + 1 from by unfold nH; rw [if_neg (by omega)]; rfl] at sz
        show x_A y_M_piece 57 [some oM, some (xI a), some (xI b)] [] (S0, G1) 0 0 Q
        refine x_aload_n d_M_piece_57 rfl rfl ?_
        refine x_getIG (kf := 1) d_M_piece_58 rfl rfl rfl in_M f_M_228 ?_
        rw [show G1 o_M 1 = (((hs k).2 0 + 1 : Nat) : Int) from sz]
        refine x_iconst (1) d_M_piece_61 rfl ⟨by decide, by decide⟩ ?_
        refine x_isubN d_M_piece_62 (by omega) (by omega) ?_
        refine x_ireturn d_M_piece_63 rfl ?_ (Nat.zero_le _) (Nat.zero_le _)
        rw [show (((hs k).2 0 + 1 : Nat) : Int) - 1 = ((hs k).2 0 : Int) by omega]
        rw [← hQ, eC, eR, eV]
        exact ⟨_, rfl, rfl, G1, rfl, lf, H3, H1⟩
      · have eR : r_piece (hs k) a b = none := by unfold r_piece; rw [if_neg (fun z => z.2 (by omega))]
        have eV : a_piece (hs k) a b = -1 := by unfold a_piece; rw [if_pos eC, if_pos (by omega)]
        refine x_iconst (-1) d_M_piece_44 rfl ⟨by decide, by decide⟩ ?_
        refine x_ireturn d_M_piece_45 rfl ?_ (Nat.zero_le _) (Nat.zero_le _)
        rw [← hQ, eC, eR, eV]
        exact ⟨_, rfl, mPubA.full x (-1)⟩
    · exact f0 (Or.inr ((by have g0_1 := g0_1; first | exact g0_1 | omega)))
def c_drill (h : HH) (a b : Int) : Int := if (f_wi a 0 20 = 0) ∨ (f_wi b 0 600 = 0) then 1 else 0
def r_drill (h : HH) (a b : Int) : Option (Nat → Int) := if c_drill h a b = 0 ∧ ¬ h.2 7 = 10 then some (v7 12 a b 0 0 0 0) else none
def a_drill (h : HH) (a b : Int) : Int := if c_drill h a b = 0 then if h.2 7 = 10 then -1 else (h.2 7 : Int) else 0
theorem s_drill (x : mLog R hs base k logged G) (hk : k < 600) (a b : Int) : x_M y_M_drill [oM, xI a, xI b] (S0, G) (fun r τ => ∃ v, r = .inl v ∧ mPubA R hs base k logged (c_drill (hs k) a b) (a_drill (hs k) a b) (r_drill (hs k) a b) G v τ) := by
  have hh := x.1.2.2.1 k x.1.1.2.1
  have bb := hh.1
  have r := (x.thrown 0).2.2.1
  have e0 := r.to
  have h9 := h9_of x
  refine x_of 0 rfl (Nat.le_of_ble_eq_true rfl) ?_
  show x_A y_M_drill 0 [some oM, some (xI a), some (xI b)] [] (S0, G) 0 0 _
  generalize hQ : (fun (r : XRes) (τ : XM) => ∃ v, r = .inl v ∧ mPubA R hs base k logged (c_drill (hs k) a b) (a_drill (hs k) a b) (r_drill (hs k) a b) G v τ) = Q
  have f0 : ((f_wi a 0 20 = 0) ∨ (f_wi b 0 600 = 0)) → x_A y_M_drill 24 [some oM, some (xI a), some (xI b)] [] (S0, up G o_M 0 0) 0 0 Q := by
    intro z
    have eC : c_drill (hs k) a b = 1 := by unfold c_drill; rw [if_pos z]
    have eV : a_drill (hs k) a b = 0 := by unfold a_drill; rw [if_neg (by omega)]
    have eR : r_drill (hs k) a b = none := by unfold r_drill; rw [if_neg (by omega)]
    refine x_aload_n d_M_drill_24 rfl rfl ?_
    refine x_iconst (1) d_M_drill_25 rfl ⟨by decide, by decide⟩ ?_
    refine x_V1 d_M_drill_26 e_M_drill_M_fails ⟨rfl, rfl, Nat.zero_le _, Nat.zero_le _⟩ rfl rfl rfl rfl (Nat.le_of_ble_eq_true rfl) (s_fails (up G o_M 0 0) 1) ?_
    refine x_ireturn d_M_drill_29 rfl ?_ (Nat.zero_le _) (Nat.zero_le _)
    rw [← hQ, eC, eV, eR]
    exact ⟨_, rfl, mPubA.no x 1 0⟩
  refine x_aload_n d_M_drill_0 rfl rfl ?_
  refine x_iconst (0) d_M_drill_1 rfl ⟨by decide, by decide⟩ ?_
  refine x_putIG (kf := 0) tyX12 d_M_drill_2 rfl rfl rfl in_M f_M_217 tyX12_ok nmX12 (by decide +kernel) rfl ?_
  refine x_iload_n d_M_drill_5 rfl rfl ?_
  refine x_S1 d_M_drill_6 e_M_drill_M_isMinute ⟨rfl, rfl, Nat.zero_le _, Nat.zero_le _⟩ rfl rfl (Nat.le_of_ble_eq_true rfl) (s_isMinute _ _) ?_
  refine x_if_eq (24) d_M_drill_9 (by decide) (fun g0_0 => ?_) (fun g0_0 => ?_)
  · exact f0 (Or.inl g0_0)
  · have g0_0 : ¬ (f_wi a 0 20 = 0) := g0_0
    refine x_iload_n d_M_drill_12 rfl rfl ?_
    refine x_i2l d_M_drill_13 ?_
    refine x_lconst (0) d_M_drill_14 rfl ⟨by decide, by decide⟩ ?_
    refine x_ldc2 (600) d_M_drill_15 k_M_464 ⟨by decide, by decide⟩ ?_
    refine x_S1 d_M_drill_18 e_M_drill_M_within ⟨rfl, rfl, Nat.zero_le _, Nat.zero_le _⟩ rfl rfl (Nat.le_of_ble_eq_true rfl) (s_within _ _ _ _) ?_
    refine x_if_ne (30) d_M_drill_21 (by decide) (fun g0_1 => ?_) (fun g0_1 => ?_)
    · have g0_1 : ¬ (f_wi b 0 600 = 0) := g0_1
      have n0 : ¬ ((f_wi a 0 20 = 0) ∨ (f_wi b 0 600 = 0)) := by
        intro z
        rcases z with z | z
        · exact g0_0 z
        · exact g0_1 z
      have eC : c_drill (hs k) a b = 0 := by unfold c_drill; rw [if_neg n0]
      have q0_0 := f_wi_1 g0_0
      have q0_1 := f_wi_1 g0_1
      have es := (e0.1 7 (by decide)).1
      refine x_aload_n d_M_drill_30 rfl rfl ?_
      refine x_getIG (kf := 8) d_M_drill_31 rfl rfl rfl in_M f_M_275 ?_
      rw [show up G o_M 0 0 o_M 8 = ((hs k).2 7 : Int) from es]
      refine x_bipush (10) d_M_drill_34 rfl ⟨by decide, by decide⟩ ?_
      refine x_icmp_ne (41) d_M_drill_36 (by decide) (fun gf => ?_) (fun gf => ?_)
      · have eR : r_drill (hs k) a b = some (v7 12 a b 0 0 0 0) := by unfold r_drill; rw [if_pos ⟨eC, by omega⟩]
        have eV : a_drill (hs k) a b = ((hs k).2 7 : Int) := by unfold a_drill; rw [if_pos eC, if_neg (by omega)]
        have ok : rOk (v7 12 a b 0 0 0 0) (hs k) := by
          unfold rOk v7; simp <;> omega
        have wf : Hwf (rAp (v7 12 a b 0 0 0 0) (hs k)) := (Hwf.add7 hh h9 (by omega) (v := v6 a b 0 0 0 0) (by show 0 ≤ a ∧ a ≤ 20 ∧ 0 ≤ b ∧ b ≤ 600; omega)).1
        have ca := s_act (x.thrown 0) hk 12 a b 0 0 0 0 ok wf
        refine x_aload_n d_M_drill_41 rfl rfl ?_
        refine x_bipush (12) d_M_drill_42 rfl ⟨by decide, by decide⟩ ?_
        refine x_iload_n d_M_drill_44 rfl rfl ?_
        refine x_iload_n d_M_drill_45 rfl rfl ?_
        refine x_iconst (0) d_M_drill_46 rfl ⟨by decide, by decide⟩ ?_
        refine x_iconst (0) d_M_drill_47 rfl ⟨by decide, by decide⟩ ?_
        refine x_iconst (0) d_M_drill_48 rfl ⟨by decide, by decide⟩ ?_
        refine x_iconst (0) d_M_drill_49 rfl ⟨by decide, by decide⟩ ?_
        refine x_VQ d_M_drill_50 e_M_drill_M_act ⟨rfl, rfl, Nat.zero_le _, Nat.zero_le _⟩ rfl rfl rfl rfl (Nat.le_of_ble_eq_true rfl) (ca) (fun v τ H => ?_)
        obtain ⟨rfl, G1, rfl, H1, H2, H3⟩ := H
        rw [up_same] at H3
        have lf := (lFrame.fld G (by decide) 0).tr H2
        have sz := (H1.2.2.1.to.1 7 (by decide)).1
        rw [show (nH hs k (rAp (v7 12 a b 0 0 0 0) (hs k)) (k + 1)).2 7 = (hs k).2 7 + 1 from by unfold nH; rw [if_neg (by omega)]; rfl] at sz
        show x_A y_M_drill 53 [some oM, some (xI a), some (xI b)] [] (S0, G1) 0 0 Q
        refine x_aload_n d_M_drill_53 rfl rfl ?_
        refine x_getIG (kf := 8) d_M_drill_54 rfl rfl rfl in_M f_M_275 ?_
        rw [show G1 o_M 8 = (((hs k).2 7 + 1 : Nat) : Int) from sz]
        refine x_iconst (1) d_M_drill_57 rfl ⟨by decide, by decide⟩ ?_
        refine x_isubN d_M_drill_58 (by omega) (by omega) ?_
        refine x_ireturn d_M_drill_59 rfl ?_ (Nat.zero_le _) (Nat.zero_le _)
        rw [show (((hs k).2 7 + 1 : Nat) : Int) - 1 = ((hs k).2 7 : Int) by omega]
        rw [← hQ, eC, eR, eV]
        exact ⟨_, rfl, rfl, G1, rfl, lf, H3, H1⟩
      · have eR : r_drill (hs k) a b = none := by unfold r_drill; rw [if_neg (fun z => z.2 (by omega))]
        have eV : a_drill (hs k) a b = -1 := by unfold a_drill; rw [if_pos eC, if_pos (by omega)]
        refine x_iconst (-1) d_M_drill_39 rfl ⟨by decide, by decide⟩ ?_
        refine x_ireturn d_M_drill_40 rfl ?_ (Nat.zero_le _) (Nat.zero_le _)
        rw [← hQ, eC, eR, eV]
        exact ⟨_, rfl, mPubA.full x (-1)⟩
    · exact f0 (Or.inr ((by have g0_1 := g0_1; first | exact g0_1 | omega)))
def c_group (h : HH) (a b c : Int) : Int := if (f_wi a 0 (h.2 0 - 1) = 0) then 1 else if (f_wi b 1 60 = 0) ∨ (f_wi c 0 20 = 0) then 2 else 0
def r_group (h : HH) (a b c : Int) : Option (Nat → Int) := if c_group h a b c = 0 ∧ ¬ h.2 5 = 10 then some (v7 7 a b c 0 0 0) else none
def a_group (h : HH) (a b c : Int) : Int := if c_group h a b c = 0 then if h.2 5 = 10 then -1 else (h.2 5 : Int) else 0
theorem s_group (x : mLog R hs base k logged G) (hk : k < 600) (a b c : Int) : x_M y_M_group [oM, xI a, xI b, xI c] (S0, G) (fun r τ => ∃ v, r = .inl v ∧ mPubA R hs base k logged (c_group (hs k) a b c) (a_group (hs k) a b c) (r_group (hs k) a b c) G v τ) := by
  have hh := x.1.2.2.1 k x.1.1.2.1
  have bb := hh.1
  have r := (x.thrown 0).2.2.1
  have e0 := r.to
  have h9 := h9_of x
  refine x_of 0 rfl (Nat.le_of_ble_eq_true rfl) ?_
  show x_A y_M_group 0 [some oM, some (xI a), some (xI b), some (xI c)] [] (S0, G) 0 0 _
  generalize hQ : (fun (r : XRes) (τ : XM) => ∃ v, r = .inl v ∧ mPubA R hs base k logged (c_group (hs k) a b c) (a_group (hs k) a b c) (r_group (hs k) a b c) G v τ) = Q
  have f0 : ((f_wi a 0 ((hs k).2 0 - 1) = 0)) → x_A y_M_group 13 [some oM, some (xI a), some (xI b), some (xI c)] [] (S0, up G o_M 0 0) 0 0 Q := by
    intro z
    have eC : c_group (hs k) a b c = 1 := by unfold c_group; rw [if_pos z]
    have eV : a_group (hs k) a b c = 0 := by unfold a_group; rw [if_neg (by omega)]
    have eR : r_group (hs k) a b c = none := by unfold r_group; rw [if_neg (by omega)]
    refine x_aload_n d_M_group_13 rfl rfl ?_
    refine x_iconst (1) d_M_group_14 rfl ⟨by decide, by decide⟩ ?_
    refine x_V1 d_M_group_15 e_M_group_M_fails ⟨rfl, rfl, Nat.zero_le _, Nat.zero_le _⟩ rfl rfl rfl rfl (Nat.le_of_ble_eq_true rfl) (s_fails (up G o_M 0 0) 1) ?_
    refine x_ireturn d_M_group_18 rfl ?_ (Nat.zero_le _) (Nat.zero_le _)
    rw [← hQ, eC, eV, eR]
    exact ⟨_, rfl, mPubA.no x 1 0⟩
  refine x_aload_n d_M_group_0 rfl rfl ?_
  refine x_iconst (0) d_M_group_1 rfl ⟨by decide, by decide⟩ ?_
  refine x_putIG (kf := 0) tyX12 d_M_group_2 rfl rfl rfl in_M f_M_217 tyX12_ok nmX12 (by decide +kernel) rfl ?_
  refine x_aload_n d_M_group_5 rfl rfl ?_
  refine x_iload_n d_M_group_6 rfl rfl ?_
  refine x_V1 d_M_group_7 e_M_group_M_isPiece ⟨rfl, rfl, Nat.zero_le _, Nat.zero_le _⟩ rfl rfl rfl rfl (Nat.le_of_ble_eq_true rfl) (s_isPiece hh r _) ?_
  refine x_if_ne (19) d_M_group_10 (by decide) (fun g0_0 => ?_) (fun g0_0 => ?_)
  · have g0_0 : ¬ (f_wi a 0 ((hs k).2 0 - 1) = 0) := g0_0
    have n0 : ¬ ((f_wi a 0 ((hs k).2 0 - 1) = 0)) := by
      intro z
      exact g0_0 z
    have f1 : ((f_wi b 1 60 = 0) ∨ (f_wi c 0 20 = 0)) → x_A y_M_group 38 [some oM, some (xI a), some (xI b), some (xI c)] [] (S0, up G o_M 0 0) 0 0 Q := by
      intro z
      have eC : c_group (hs k) a b c = 2 := by unfold c_group; rw [if_neg n0, if_pos z]
      have eV : a_group (hs k) a b c = 0 := by unfold a_group; rw [if_neg (by omega)]
      have eR : r_group (hs k) a b c = none := by unfold r_group; rw [if_neg (by omega)]
      refine x_aload_n d_M_group_38 rfl rfl ?_
      refine x_iconst (2) d_M_group_39 rfl ⟨by decide, by decide⟩ ?_
      refine x_V1 d_M_group_40 e_M_group_M_fails ⟨rfl, rfl, Nat.zero_le _, Nat.zero_le _⟩ rfl rfl rfl rfl (Nat.le_of_ble_eq_true rfl) (s_fails (up G o_M 0 0) 2) ?_
      refine x_ireturn d_M_group_43 rfl ?_ (Nat.zero_le _) (Nat.zero_le _)
      rw [← hQ, eC, eV, eR]
      exact ⟨_, rfl, mPubA.no x 2 0⟩
    refine x_iload_n d_M_group_19 rfl rfl ?_
    refine x_i2l d_M_group_20 ?_
    refine x_lconst (1) d_M_group_21 rfl ⟨by decide, by decide⟩ ?_
    refine x_ldc2 (60) d_M_group_22 k_M_319 ⟨by decide, by decide⟩ ?_
    refine x_S1 d_M_group_25 e_M_group_M_within ⟨rfl, rfl, Nat.zero_le _, Nat.zero_le _⟩ rfl rfl (Nat.le_of_ble_eq_true rfl) (s_within _ _ _ _) ?_
    refine x_if_eq (38) d_M_group_28 (by decide) (fun g1_0 => ?_) (fun g1_0 => ?_)
    · exact f1 (Or.inl g1_0)
    · have g1_0 : ¬ (f_wi b 1 60 = 0) := g1_0
      refine x_iload_n d_M_group_31 rfl rfl ?_
      refine x_S1 d_M_group_32 e_M_group_M_isMinute ⟨rfl, rfl, Nat.zero_le _, Nat.zero_le _⟩ rfl rfl (Nat.le_of_ble_eq_true rfl) (s_isMinute _ _) ?_
      refine x_if_ne (44) d_M_group_35 (by decide) (fun g1_1 => ?_) (fun g1_1 => ?_)
      · have g1_1 : ¬ (f_wi c 0 20 = 0) := g1_1
        have n1 : ¬ ((f_wi b 1 60 = 0) ∨ (f_wi c 0 20 = 0)) := by
          intro z
          rcases z with z | z
          · exact g1_0 z
          · exact g1_1 z
        have eC : c_group (hs k) a b c = 0 := by unfold c_group; rw [if_neg n0, if_neg n1]
        have q0_0 := f_wi_1 g0_0
        have q1_0 := f_wi_1 g1_0
        have q1_1 := f_wi_1 g1_1
        have es := (e0.1 5 (by decide)).1
        refine x_aload_n d_M_group_44 rfl rfl ?_
        refine x_getIG (kf := 6) d_M_group_45 rfl rfl rfl in_M f_M_262 ?_
        rw [show up G o_M 0 0 o_M 6 = ((hs k).2 5 : Int) from es]
        refine x_bipush (10) d_M_group_48 rfl ⟨by decide, by decide⟩ ?_
        refine x_icmp_ne (55) d_M_group_50 (by decide) (fun gf => ?_) (fun gf => ?_)
        · have eR : r_group (hs k) a b c = some (v7 7 a b c 0 0 0) := by unfold r_group; rw [if_pos ⟨eC, by omega⟩]
          have eV : a_group (hs k) a b c = ((hs k).2 5 : Int) := by unfold a_group; rw [if_pos eC, if_neg (by omega)]
          have ok : rOk (v7 7 a b c 0 0 0) (hs k) := by
            unfold rOk v7; simp <;> omega
          have wf : Hwf (rAp (v7 7 a b c 0 0 0) (hs k)) := (Hwf.add5 hh h9 (by omega) (v := v6 a b c 0 0 0) (by show 0 ≤ a ∧ a < (hs k).2 0 ∧ 1 ≤ b ∧ b ≤ 60 ∧ 0 ≤ c ∧ c ≤ 20; omega)).1
          have ca := s_act (x.thrown 0) hk 7 a b c 0 0 0 ok wf
          refine x_aload_n d_M_group_55 rfl rfl ?_
          refine x_bipush (7) d_M_group_56 rfl ⟨by decide, by decide⟩ ?_
          refine x_iload_n d_M_group_58 rfl rfl ?_
          refine x_iload_n d_M_group_59 rfl rfl ?_
          refine x_iload_n d_M_group_60 rfl rfl ?_
          refine x_iconst (0) d_M_group_61 rfl ⟨by decide, by decide⟩ ?_
          refine x_iconst (0) d_M_group_62 rfl ⟨by decide, by decide⟩ ?_
          refine x_iconst (0) d_M_group_63 rfl ⟨by decide, by decide⟩ ?_
          refine x_VQ d_M_group_64 e_M_group_M_act ⟨rfl, rfl, Nat.zero_le _, Nat.zero_le _⟩ rfl rfl rfl rfl (Nat.le_of_ble_eq_true rfl) (ca) (fun v τ H => ?_)
          obtain ⟨rfl, G1, rfl, H1, H2, H3⟩ := H
          rw [up_same] at H3
          have lf := (lFrame.fld G (by decide) 0).tr H2
          have sz := (H1.2.2.1.to.1 5 (by decide)).1
          rw [show (nH hs k (rAp (v7 7 a b c 0 0 0) (hs k)) (k + 1)).2 5 = (hs k).2 5 + 1 from by unfold nH; rw [if_neg (by omega)]; rfl] at sz
          show x_A y_M_group 67 [some oM, some (xI a), some (xI b), some (xI c)] [] (S0, G1) 0 0 Q
          refine x_aload_n d_M_group_67 rfl rfl ?_
          refine x_getIG (kf := 6) d_M_group_68 rfl rfl rfl in_M f_M_262 ?_
          rw [show G1 o_M 6 = (((hs k).2 5 + 1 : Nat) : Int) from sz]
          refine x_iconst (1) d_M_group_71 rfl ⟨by decide, by decide⟩ ?_
          refine x_isubN d_M_group_72 (by omega) (by omega) ?_
          refine x_ireturn d_M_group_73 rfl ?_ (Nat.zero_le _) (Nat.zero_le _)
          rw [show (((hs k).2 5 + 1 : Nat) : Int) - 1 = ((hs k).2 5 : Int) by omega]
          rw [← hQ, eC, eR, eV]
          exact ⟨_, rfl, rfl, G1, rfl, lf, H3, H1⟩
        · have eR : r_group (hs k) a b c = none := by unfold r_group; rw [if_neg (fun z => z.2 (by omega))]
          have eV : a_group (hs k) a b c = -1 := by unfold a_group; rw [if_pos eC, if_pos (by omega)]
          refine x_iconst (-1) d_M_group_53 rfl ⟨by decide, by decide⟩ ?_
          refine x_ireturn d_M_group_54 rfl ?_ (Nat.zero_le _) (Nat.zero_le _)
          rw [← hQ, eC, eR, eV]
          exact ⟨_, rfl, mPubA.full x (-1)⟩
      · exact f1 (Or.inr ((by have g1_1 := g1_1; first | exact g1_1 | omega)))
  · exact f0 ((by have g0_0 := g0_0; first | exact g0_0 | omega))
def c_door (h : HH) (a b c : Int) : Int := if (f_wi a 0 (h.2 0 - 1) = 0) then 1 else if (f_wi b 1 40 = 0) ∨ (f_wi c 1 1000 = 0) then 2 else 0
def r_door (h : HH) (a b c : Int) : Option (Nat → Int) := if c_door h a b c = 0 ∧ ¬ h.2 6 = 6 then some (v7 9 a b c 0 0 0) else none
def a_door (h : HH) (a b c : Int) : Int := if c_door h a b c = 0 then if h.2 6 = 6 then -1 else (h.2 6 : Int) else 0
theorem s_door (x : mLog R hs base k logged G) (hk : k < 600) (a b c : Int) : x_M y_M_door [oM, xI a, xI b, xI c] (S0, G) (fun r τ => ∃ v, r = .inl v ∧ mPubA R hs base k logged (c_door (hs k) a b c) (a_door (hs k) a b c) (r_door (hs k) a b c) G v τ) := by
  have hh := x.1.2.2.1 k x.1.1.2.1
  have bb := hh.1
  have r := (x.thrown 0).2.2.1
  have e0 := r.to
  have h9 := h9_of x
  refine x_of 0 rfl (Nat.le_of_ble_eq_true rfl) ?_
  show x_A y_M_door 0 [some oM, some (xI a), some (xI b), some (xI c)] [] (S0, G) 0 0 _
  generalize hQ : (fun (r : XRes) (τ : XM) => ∃ v, r = .inl v ∧ mPubA R hs base k logged (c_door (hs k) a b c) (a_door (hs k) a b c) (r_door (hs k) a b c) G v τ) = Q
  have f0 : ((f_wi a 0 ((hs k).2 0 - 1) = 0)) → x_A y_M_door 13 [some oM, some (xI a), some (xI b), some (xI c)] [] (S0, up G o_M 0 0) 0 0 Q := by
    intro z
    have eC : c_door (hs k) a b c = 1 := by unfold c_door; rw [if_pos z]
    have eV : a_door (hs k) a b c = 0 := by unfold a_door; rw [if_neg (by omega)]
    have eR : r_door (hs k) a b c = none := by unfold r_door; rw [if_neg (by omega)]
    refine x_aload_n d_M_door_13 rfl rfl ?_
    refine x_iconst (1) d_M_door_14 rfl ⟨by decide, by decide⟩ ?_
    refine x_V1 d_M_door_15 e_M_door_M_fails ⟨rfl, rfl, Nat.zero_le _, Nat.zero_le _⟩ rfl rfl rfl rfl (Nat.le_of_ble_eq_true rfl) (s_fails (up G o_M 0 0) 1) ?_
    refine x_ireturn d_M_door_18 rfl ?_ (Nat.zero_le _) (Nat.zero_le _)
    rw [← hQ, eC, eV, eR]
    exact ⟨_, rfl, mPubA.no x 1 0⟩
  refine x_aload_n d_M_door_0 rfl rfl ?_
  refine x_iconst (0) d_M_door_1 rfl ⟨by decide, by decide⟩ ?_
  refine x_putIG (kf := 0) tyX12 d_M_door_2 rfl rfl rfl in_M f_M_217 tyX12_ok nmX12 (by decide +kernel) rfl ?_
  refine x_aload_n d_M_door_5 rfl rfl ?_
  refine x_iload_n d_M_door_6 rfl rfl ?_
  refine x_V1 d_M_door_7 e_M_door_M_isPiece ⟨rfl, rfl, Nat.zero_le _, Nat.zero_le _⟩ rfl rfl rfl rfl (Nat.le_of_ble_eq_true rfl) (s_isPiece hh r _) ?_
  refine x_if_ne (19) d_M_door_10 (by decide) (fun g0_0 => ?_) (fun g0_0 => ?_)
  · have g0_0 : ¬ (f_wi a 0 ((hs k).2 0 - 1) = 0) := g0_0
    have n0 : ¬ ((f_wi a 0 ((hs k).2 0 - 1) = 0)) := by
      intro z
      exact g0_0 z
    have f1 : ((f_wi b 1 40 = 0) ∨ (f_wi c 1 1000 = 0)) → x_A y_M_door 43 [some oM, some (xI a), some (xI b), some (xI c)] [] (S0, up G o_M 0 0) 0 0 Q := by
      intro z
      have eC : c_door (hs k) a b c = 2 := by unfold c_door; rw [if_neg n0, if_pos z]
      have eV : a_door (hs k) a b c = 0 := by unfold a_door; rw [if_neg (by omega)]
      have eR : r_door (hs k) a b c = none := by unfold r_door; rw [if_neg (by omega)]
      refine x_aload_n d_M_door_43 rfl rfl ?_
      refine x_iconst (2) d_M_door_44 rfl ⟨by decide, by decide⟩ ?_
      refine x_V1 d_M_door_45 e_M_door_M_fails ⟨rfl, rfl, Nat.zero_le _, Nat.zero_le _⟩ rfl rfl rfl rfl (Nat.le_of_ble_eq_true rfl) (s_fails (up G o_M 0 0) 2) ?_
      refine x_ireturn d_M_door_48 rfl ?_ (Nat.zero_le _) (Nat.zero_le _)
      rw [← hQ, eC, eV, eR]
      exact ⟨_, rfl, mPubA.no x 2 0⟩
    refine x_iload_n d_M_door_19 rfl rfl ?_
    refine x_i2l d_M_door_20 ?_
    refine x_lconst (1) d_M_door_21 rfl ⟨by decide, by decide⟩ ?_
    refine x_ldc2 (40) d_M_door_22 k_M_283 ⟨by decide, by decide⟩ ?_
    refine x_S1 d_M_door_25 e_M_door_M_within ⟨rfl, rfl, Nat.zero_le _, Nat.zero_le _⟩ rfl rfl (Nat.le_of_ble_eq_true rfl) (s_within _ _ _ _) ?_
    refine x_if_eq (43) d_M_door_28 (by decide) (fun g1_0 => ?_) (fun g1_0 => ?_)
    · exact f1 (Or.inl g1_0)
    · have g1_0 : ¬ (f_wi b 1 40 = 0) := g1_0
      refine x_iload_n d_M_door_31 rfl rfl ?_
      refine x_i2l d_M_door_32 ?_
      refine x_lconst (1) d_M_door_33 rfl ⟨by decide, by decide⟩ ?_
      refine x_ldc2 (1000) d_M_door_34 k_M_321 ⟨by decide, by decide⟩ ?_
      refine x_S1 d_M_door_37 e_M_door_M_within ⟨rfl, rfl, Nat.zero_le _, Nat.zero_le _⟩ rfl rfl (Nat.le_of_ble_eq_true rfl) (s_within _ _ _ _) ?_
      refine x_if_ne (49) d_M_door_40 (by decide) (fun g1_1 => ?_) (fun g1_1 => ?_)
      · have g1_1 : ¬ (f_wi c 1 1000 = 0) := g1_1
        have n1 : ¬ ((f_wi b 1 40 = 0) ∨ (f_wi c 1 1000 = 0)) := by
          intro z
          rcases z with z | z
          · exact g1_0 z
          · exact g1_1 z
        have eC : c_door (hs k) a b c = 0 := by unfold c_door; rw [if_neg n0, if_neg n1]
        have q0_0 := f_wi_1 g0_0
        have q1_0 := f_wi_1 g1_0
        have q1_1 := f_wi_1 g1_1
        have es := (e0.1 6 (by decide)).1
        refine x_aload_n d_M_door_49 rfl rfl ?_
        refine x_getIG (kf := 7) d_M_door_50 rfl rfl rfl in_M f_M_269 ?_
        rw [show up G o_M 0 0 o_M 7 = ((hs k).2 6 : Int) from es]
        refine x_bipush (6) d_M_door_53 rfl ⟨by decide, by decide⟩ ?_
        refine x_icmp_ne (60) d_M_door_55 (by decide) (fun gf => ?_) (fun gf => ?_)
        · have eR : r_door (hs k) a b c = some (v7 9 a b c 0 0 0) := by unfold r_door; rw [if_pos ⟨eC, by omega⟩]
          have eV : a_door (hs k) a b c = ((hs k).2 6 : Int) := by unfold a_door; rw [if_pos eC, if_neg (by omega)]
          have ok : rOk (v7 9 a b c 0 0 0) (hs k) := by
            unfold rOk v7; simp <;> omega
          have wf : Hwf (rAp (v7 9 a b c 0 0 0) (hs k)) := (Hwf.add6 hh h9 (by omega) (v := v6 a b c 0 0 0) (by show 0 ≤ a ∧ a < (hs k).2 0 ∧ 1 ≤ b ∧ b ≤ 40 ∧ 1 ≤ c ∧ c ≤ 1000 ∧ (0 : Int) ≤ 0 ∧ (0 : Int) ≤ 1; omega)).1
          have ca := s_act (x.thrown 0) hk 9 a b c 0 0 0 ok wf
          refine x_aload_n d_M_door_60 rfl rfl ?_
          refine x_bipush (9) d_M_door_61 rfl ⟨by decide, by decide⟩ ?_
          refine x_iload_n d_M_door_63 rfl rfl ?_
          refine x_iload_n d_M_door_64 rfl rfl ?_
          refine x_iload_n d_M_door_65 rfl rfl ?_
          refine x_iconst (0) d_M_door_66 rfl ⟨by decide, by decide⟩ ?_
          refine x_iconst (0) d_M_door_67 rfl ⟨by decide, by decide⟩ ?_
          refine x_iconst (0) d_M_door_68 rfl ⟨by decide, by decide⟩ ?_
          refine x_VQ d_M_door_69 e_M_door_M_act ⟨rfl, rfl, Nat.zero_le _, Nat.zero_le _⟩ rfl rfl rfl rfl (Nat.le_of_ble_eq_true rfl) (ca) (fun v τ H => ?_)
          obtain ⟨rfl, G1, rfl, H1, H2, H3⟩ := H
          rw [up_same] at H3
          have lf := (lFrame.fld G (by decide) 0).tr H2
          have sz := (H1.2.2.1.to.1 6 (by decide)).1
          rw [show (nH hs k (rAp (v7 9 a b c 0 0 0) (hs k)) (k + 1)).2 6 = (hs k).2 6 + 1 from by unfold nH; rw [if_neg (by omega)]; rfl] at sz
          show x_A y_M_door 72 [some oM, some (xI a), some (xI b), some (xI c)] [] (S0, G1) 0 0 Q
          refine x_aload_n d_M_door_72 rfl rfl ?_
          refine x_getIG (kf := 7) d_M_door_73 rfl rfl rfl in_M f_M_269 ?_
          rw [show G1 o_M 7 = (((hs k).2 6 + 1 : Nat) : Int) from sz]
          refine x_iconst (1) d_M_door_76 rfl ⟨by decide, by decide⟩ ?_
          refine x_isubN d_M_door_77 (by omega) (by omega) ?_
          refine x_ireturn d_M_door_78 rfl ?_ (Nat.zero_le _) (Nat.zero_le _)
          rw [show (((hs k).2 6 + 1 : Nat) : Int) - 1 = ((hs k).2 6 : Int) by omega]
          rw [← hQ, eC, eR, eV]
          exact ⟨_, rfl, rfl, G1, rfl, lf, H3, H1⟩
        · have eR : r_door (hs k) a b c = none := by unfold r_door; rw [if_neg (fun z => z.2 (by omega))]
          have eV : a_door (hs k) a b c = -1 := by unfold a_door; rw [if_pos eC, if_pos (by omega)]
          refine x_iconst (-1) d_M_door_58 rfl ⟨by decide, by decide⟩ ?_
          refine x_ireturn d_M_door_59 rfl ?_ (Nat.zero_le _) (Nat.zero_le _)
          rw [← hQ, eC, eR, eV]
          exact ⟨_, rfl, mPubA.full x (-1)⟩
      · exact f1 (Or.inr ((by have g1_1 := g1_1; first | exact g1_1 | omega)))
  · exact f0 ((by have g0_0 := g0_0; first | exact g0_0 | omega))
def c_way (h : HH) (a b c d e : Int) : Int := if (f_wi a 0 (h.2 0 - 1) = 0) ∨ (f_wi b 0 (h.2 0 - 1) = 0) then 1 else if (a = b) ∨ (f_wi c 1 4 = 0) ∨ (f_wi d 1 40 = 0) ∨ (f_wi e (-8) 8 = 0) then 2 else 0
def r_way (h : HH) (a b c d e : Int) : Option (Nat → Int) := if c_way h a b c d e = 0 ∧ ¬ h.2 1 = 12 then some (v7 1 a b c d e 0) else none
def a_way (h : HH) (a b c d e : Int) : Int := if c_way h a b c d e = 0 then if h.2 1 = 12 then -1 else (h.2 1 : Int) else 0
theorem s_way (x : mLog R hs base k logged G) (hk : k < 600) (a b c d e : Int) : x_M y_M_way [oM, xI a, xI b, xI c, xI d, xI e] (S0, G) (fun r τ => ∃ v, r = .inl v ∧ mPubA R hs base k logged (c_way (hs k) a b c d e) (a_way (hs k) a b c d e) (r_way (hs k) a b c d e) G v τ) := by
  have hh := x.1.2.2.1 k x.1.1.2.1
  have bb := hh.1
  have r := (x.thrown 0).2.2.1
  have e0 := r.to
  have h9 := h9_of x
  refine x_of 0 rfl (Nat.le_of_ble_eq_true rfl) ?_
  show x_A y_M_way 0 [some oM, some (xI a), some (xI b), some (xI c), some (xI d), some (xI e)] [] (S0, G) 0 0 _
  generalize hQ : (fun (r : XRes) (τ : XM) => ∃ v, r = .inl v ∧ mPubA R hs base k logged (c_way (hs k) a b c d e) (a_way (hs k) a b c d e) (r_way (hs k) a b c d e) G v τ) = Q
  have f0 : ((f_wi a 0 ((hs k).2 0 - 1) = 0) ∨ (f_wi b 0 ((hs k).2 0 - 1) = 0)) → x_A y_M_way 21 [some oM, some (xI a), some (xI b), some (xI c), some (xI d), some (xI e)] [] (S0, up G o_M 0 0) 0 0 Q := by
    intro z
    have eC : c_way (hs k) a b c d e = 1 := by unfold c_way; rw [if_pos z]
    have eV : a_way (hs k) a b c d e = 0 := by unfold a_way; rw [if_neg (by omega)]
    have eR : r_way (hs k) a b c d e = none := by unfold r_way; rw [if_neg (by omega)]
    refine x_aload_n d_M_way_21 rfl rfl ?_
    refine x_iconst (1) d_M_way_22 rfl ⟨by decide, by decide⟩ ?_
    refine x_V1 d_M_way_23 e_M_way_M_fails ⟨rfl, rfl, Nat.zero_le _, Nat.zero_le _⟩ rfl rfl rfl rfl (Nat.le_of_ble_eq_true rfl) (s_fails (up G o_M 0 0) 1) ?_
    refine x_ireturn d_M_way_26 rfl ?_ (Nat.zero_le _) (Nat.zero_le _)
    rw [← hQ, eC, eV, eR]
    exact ⟨_, rfl, mPubA.no x 1 0⟩
  refine x_aload_n d_M_way_0 rfl rfl ?_
  refine x_iconst (0) d_M_way_1 rfl ⟨by decide, by decide⟩ ?_
  refine x_putIG (kf := 0) tyX12 d_M_way_2 rfl rfl rfl in_M f_M_217 tyX12_ok nmX12 (by decide +kernel) rfl ?_
  refine x_aload_n d_M_way_5 rfl rfl ?_
  refine x_iload_n d_M_way_6 rfl rfl ?_
  refine x_V1 d_M_way_7 e_M_way_M_isPiece ⟨rfl, rfl, Nat.zero_le _, Nat.zero_le _⟩ rfl rfl rfl rfl (Nat.le_of_ble_eq_true rfl) (s_isPiece hh r _) ?_
  refine x_if_eq (21) d_M_way_10 (by decide) (fun g0_0 => ?_) (fun g0_0 => ?_)
  · exact f0 (Or.inl g0_0)
  · have g0_0 : ¬ (f_wi a 0 ((hs k).2 0 - 1) = 0) := g0_0
    refine x_aload_n d_M_way_13 rfl rfl ?_
    refine x_iload_n d_M_way_14 rfl rfl ?_
    refine x_V1 d_M_way_15 e_M_way_M_isPiece ⟨rfl, rfl, Nat.zero_le _, Nat.zero_le _⟩ rfl rfl rfl rfl (Nat.le_of_ble_eq_true rfl) (s_isPiece hh r _) ?_
    refine x_if_ne (27) d_M_way_18 (by decide) (fun g0_1 => ?_) (fun g0_1 => ?_)
    · have g0_1 : ¬ (f_wi b 0 ((hs k).2 0 - 1) = 0) := g0_1
      have n0 : ¬ ((f_wi a 0 ((hs k).2 0 - 1) = 0) ∨ (f_wi b 0 ((hs k).2 0 - 1) = 0)) := by
        intro z
        rcases z with z | z
        · exact g0_0 z
        · exact g0_1 z
      have f1 : ((a = b) ∨ (f_wi c 1 4 = 0) ∨ (f_wi d 1 40 = 0) ∨ (f_wi e (-8) 8 = 0)) → x_A y_M_way 72 [some oM, some (xI a), some (xI b), some (xI c), some (xI d), some (xI e)] [] (S0, up G o_M 0 0) 0 0 Q := by
        intro z
        have eC : c_way (hs k) a b c d e = 2 := by unfold c_way; rw [if_neg n0, if_pos z]
        have eV : a_way (hs k) a b c d e = 0 := by unfold a_way; rw [if_neg (by omega)]
        have eR : r_way (hs k) a b c d e = none := by unfold r_way; rw [if_neg (by omega)]
        refine x_aload_n d_M_way_72 rfl rfl ?_
        refine x_iconst (2) d_M_way_73 rfl ⟨by decide, by decide⟩ ?_
        refine x_V1 d_M_way_74 e_M_way_M_fails ⟨rfl, rfl, Nat.zero_le _, Nat.zero_le _⟩ rfl rfl rfl rfl (Nat.le_of_ble_eq_true rfl) (s_fails (up G o_M 0 0) 2) ?_
        refine x_ireturn d_M_way_77 rfl ?_ (Nat.zero_le _) (Nat.zero_le _)
        rw [← hQ, eC, eV, eR]
        exact ⟨_, rfl, mPubA.no x 2 0⟩
      refine x_iload_n d_M_way_27 rfl rfl ?_
      refine x_iload_n d_M_way_28 rfl rfl ?_
      refine x_icmp_eq (72) d_M_way_29 (by decide) (fun g1_0 => ?_) (fun g1_0 => ?_)
      · exact f1 (Or.inl g1_0)
      · have g1_0 : ¬ (a = b) := g1_0
        refine x_iload_n d_M_way_32 rfl rfl ?_
        refine x_i2l d_M_way_33 ?_
        refine x_lconst (1) d_M_way_34 rfl ⟨by decide, by decide⟩ ?_
        refine x_ldc2 (4) d_M_way_35 k_M_297 ⟨by decide, by decide⟩ ?_
        refine x_S1 d_M_way_38 e_M_way_M_within ⟨rfl, rfl, Nat.zero_le _, Nat.zero_le _⟩ rfl rfl (Nat.le_of_ble_eq_true rfl) (s_within _ _ _ _) ?_
        refine x_if_eq (72) d_M_way_41 (by decide) (fun g1_1 => ?_) (fun g1_1 => ?_)
        · exact f1 (Or.inr (Or.inl g1_1))
        · have g1_1 : ¬ (f_wi c 1 4 = 0) := g1_1
          refine x_iload d_M_way_44 rfl ?_
          refine x_i2l d_M_way_46 ?_
          refine x_lconst (1) d_M_way_47 rfl ⟨by decide, by decide⟩ ?_
          refine x_ldc2 (40) d_M_way_48 k_M_283 ⟨by decide, by decide⟩ ?_
          refine x_S1 d_M_way_51 e_M_way_M_within ⟨rfl, rfl, Nat.zero_le _, Nat.zero_le _⟩ rfl rfl (Nat.le_of_ble_eq_true rfl) (s_within _ _ _ _) ?_
          refine x_if_eq (72) d_M_way_54 (by decide) (fun g1_2 => ?_) (fun g1_2 => ?_)
          · exact f1 (Or.inr (Or.inr (Or.inl g1_2)))
          · have g1_2 : ¬ (f_wi d 1 40 = 0) := g1_2
            refine x_iload d_M_way_57 rfl ?_
            refine x_i2l d_M_way_59 ?_
            refine x_ldc2 (-8) d_M_way_60 k_M_299 ⟨by decide, by decide⟩ ?_
            refine x_ldc2 (8) d_M_way_63 k_M_301 ⟨by decide, by decide⟩ ?_
            refine x_S1 d_M_way_66 e_M_way_M_within ⟨rfl, rfl, Nat.zero_le _, Nat.zero_le _⟩ rfl rfl (Nat.le_of_ble_eq_true rfl) (s_within _ _ _ _) ?_
            refine x_if_ne (78) d_M_way_69 (by decide) (fun g1_3 => ?_) (fun g1_3 => ?_)
            · have g1_3 : ¬ (f_wi e (-8) 8 = 0) := g1_3
              have n1 : ¬ ((a = b) ∨ (f_wi c 1 4 = 0) ∨ (f_wi d 1 40 = 0) ∨ (f_wi e (-8) 8 = 0)) := by
                intro z
                rcases z with z | z | z | z
                · exact g1_0 z
                · exact g1_1 z
                · exact g1_2 z
                · exact g1_3 z
              have eC : c_way (hs k) a b c d e = 0 := by unfold c_way; rw [if_neg n0, if_neg n1]
              have q0_0 := f_wi_1 g0_0
              have q0_1 := f_wi_1 g0_1
              have q1_1 := f_wi_1 g1_1
              have q1_2 := f_wi_1 g1_2
              have q1_3 := f_wi_1 g1_3
              have es := (e0.1 1 (by decide)).1
              refine x_aload_n d_M_way_78 rfl rfl ?_
              refine x_getIG (kf := 2) d_M_way_79 rfl rfl rfl in_M f_M_250 ?_
              rw [show up G o_M 0 0 o_M 2 = ((hs k).2 1 : Int) from es]
              refine x_bipush (12) d_M_way_82 rfl ⟨by decide, by decide⟩ ?_
              refine x_icmp_ne (89) d_M_way_84 (by decide) (fun gf => ?_) (fun gf => ?_)
              · have eR : r_way (hs k) a b c d e = some (v7 1 a b c d e 0) := by unfold r_way; rw [if_pos ⟨eC, by omega⟩]
                have eV : a_way (hs k) a b c d e = ((hs k).2 1 : Int) := by unfold a_way; rw [if_pos eC, if_neg (by omega)]
                have ok : rOk (v7 1 a b c d e 0) (hs k) := by
                  unfold rOk v7; simp <;> omega
                have wf : Hwf (rAp (v7 1 a b c d e 0) (hs k)) := (Hwf.add1 hh h9 (by omega) (v := v6 a b c d e 0) (by show 0 ≤ a ∧ a < (hs k).2 0 ∧ 0 ≤ b ∧ b < (hs k).2 0 ∧ a ≠ b ∧ 1 ≤ c ∧ c ≤ 4 ∧ 1 ≤ d ∧ d ≤ 40 ∧ -8 ≤ e ∧ e ≤ 8; omega)).1
                have ca := s_act (x.thrown 0) hk 1 a b c d e 0 ok wf
                refine x_aload_n d_M_way_89 rfl rfl ?_
                refine x_iconst (1) d_M_way_90 rfl ⟨by decide, by decide⟩ ?_
                refine x_iload_n d_M_way_91 rfl rfl ?_
                refine x_iload_n d_M_way_92 rfl rfl ?_
                refine x_iload_n d_M_way_93 rfl rfl ?_
                refine x_iload d_M_way_94 rfl ?_
                refine x_iload d_M_way_96 rfl ?_
                refine x_iconst (0) d_M_way_98 rfl ⟨by decide, by decide⟩ ?_
                refine x_VQ d_M_way_99 e_M_way_M_act ⟨rfl, rfl, Nat.zero_le _, Nat.zero_le _⟩ rfl rfl rfl rfl (Nat.le_of_ble_eq_true rfl) (ca) (fun v τ H => ?_)
                obtain ⟨rfl, G1, rfl, H1, H2, H3⟩ := H
                rw [up_same] at H3
                have lf := (lFrame.fld G (by decide) 0).tr H2
                have sz := (H1.2.2.1.to.1 1 (by decide)).1
                rw [show (nH hs k (rAp (v7 1 a b c d e 0) (hs k)) (k + 1)).2 1 = (hs k).2 1 + 1 from by unfold nH; rw [if_neg (by omega)]; rfl] at sz
                show x_A y_M_way 102 [some oM, some (xI a), some (xI b), some (xI c), some (xI d), some (xI e)] [] (S0, G1) 0 0 Q
                refine x_aload_n d_M_way_102 rfl rfl ?_
                refine x_getIG (kf := 2) d_M_way_103 rfl rfl rfl in_M f_M_250 ?_
                rw [show G1 o_M 2 = (((hs k).2 1 + 1 : Nat) : Int) from sz]
                refine x_iconst (1) d_M_way_106 rfl ⟨by decide, by decide⟩ ?_
                refine x_isubN d_M_way_107 (by omega) (by omega) ?_
                refine x_ireturn d_M_way_108 rfl ?_ (Nat.zero_le _) (Nat.zero_le _)
                rw [show (((hs k).2 1 + 1 : Nat) : Int) - 1 = ((hs k).2 1 : Int) by omega]
                rw [← hQ, eC, eR, eV]
                exact ⟨_, rfl, rfl, G1, rfl, lf, H3, H1⟩
              · have eR : r_way (hs k) a b c d e = none := by unfold r_way; rw [if_neg (fun z => z.2 (by omega))]
                have eV : a_way (hs k) a b c d e = -1 := by unfold a_way; rw [if_pos eC, if_pos (by omega)]
                refine x_iconst (-1) d_M_way_87 rfl ⟨by decide, by decide⟩ ?_
                refine x_ireturn d_M_way_88 rfl ?_ (Nat.zero_le _) (Nat.zero_le _)
                rw [← hQ, eC, eR, eV]
                exact ⟨_, rfl, mPubA.full x (-1)⟩
            · exact f1 (Or.inr (Or.inr (Or.inr ((by have g1_3 := g1_3; first | exact g1_3 | omega)))))
    · exact f0 (Or.inr ((by have g0_1 := g0_1; first | exact g0_1 | omega)))
def c_set (h : HH) (a b c d : Int) : Int := if (f_wi b 0 (h.2 3 - 1) = 0) then 1 else if (f_wi a 0 3 = 0) ∨ (f_wi c 0 20 = 0) ∨ (f_wi d (-1) 1 = 0) then 2 else 0
def r_set (h : HH) (a b c d : Int) : Option (Nat → Int) := if c_set h a b c d = 0 ∧ ¬ h.2 4 = 60 then some (v7 5 a b c d 0 0) else none
def a_set (h : HH) (a b c d : Int) : Int := if c_set h a b c d = 0 then if h.2 4 = 60 then -1 else (h.2 4 : Int) else 0
theorem s_set (x : mLog R hs base k logged G) (hk : k < 600) (a b c d : Int) : x_M y_M_set [oM, xI a, xI b, xI c, xI d] (S0, G) (fun r τ => ∃ v, r = .inl v ∧ mPubA R hs base k logged (c_set (hs k) a b c d) (a_set (hs k) a b c d) (r_set (hs k) a b c d) G v τ) := by
  have hh := x.1.2.2.1 k x.1.1.2.1
  have bb := hh.1
  have r := (x.thrown 0).2.2.1
  have e0 := r.to
  have h9 := h9_of x
  refine x_of 0 rfl (Nat.le_of_ble_eq_true rfl) ?_
  show x_A y_M_set 0 [some oM, some (xI a), some (xI b), some (xI c), some (xI d)] [] (S0, G) 0 0 _
  generalize hQ : (fun (r : XRes) (τ : XM) => ∃ v, r = .inl v ∧ mPubA R hs base k logged (c_set (hs k) a b c d) (a_set (hs k) a b c d) (r_set (hs k) a b c d) G v τ) = Q
  have f0 : ((f_wi b 0 ((hs k).2 3 - 1) = 0)) → x_A y_M_set 21 [some oM, some (xI a), some (xI b), some (xI c), some (xI d)] [] (S0, up G o_M 0 0) 0 0 Q := by
    intro z
    have eC : c_set (hs k) a b c d = 1 := by unfold c_set; rw [if_pos z]
    have eV : a_set (hs k) a b c d = 0 := by unfold a_set; rw [if_neg (by omega)]
    have eR : r_set (hs k) a b c d = none := by unfold r_set; rw [if_neg (by omega)]
    refine x_aload_n d_M_set_21 rfl rfl ?_
    refine x_iconst (1) d_M_set_22 rfl ⟨by decide, by decide⟩ ?_
    refine x_V1 d_M_set_23 e_M_set_M_fails ⟨rfl, rfl, Nat.zero_le _, Nat.zero_le _⟩ rfl rfl rfl rfl (Nat.le_of_ble_eq_true rfl) (s_fails (up G o_M 0 0) 1) ?_
    refine x_ireturn d_M_set_26 rfl ?_ (Nat.zero_le _) (Nat.zero_le _)
    rw [← hQ, eC, eV, eR]
    exact ⟨_, rfl, mPubA.no x 1 0⟩
  refine x_aload_n d_M_set_0 rfl rfl ?_
  refine x_iconst (0) d_M_set_1 rfl ⟨by decide, by decide⟩ ?_
  refine x_putIG (kf := 0) tyX12 d_M_set_2 rfl rfl rfl in_M f_M_217 tyX12_ok nmX12 (by decide +kernel) rfl ?_
  refine x_iload_n d_M_set_5 rfl rfl ?_
  refine x_i2l d_M_set_6 ?_
  refine x_lconst (0) d_M_set_7 rfl ⟨by decide, by decide⟩ ?_
  refine x_aload_n d_M_set_8 rfl rfl ?_
  refine x_getIG (kf := 4) d_M_set_9 rfl rfl rfl in_M f_M_256 ?_
  rw [show up G o_M 0 0 o_M 4 = ((hs k).2 3 : Int) from (e0.1 3 (by decide)).1]
  refine x_iconst (1) d_M_set_12 rfl ⟨by decide, by decide⟩ ?_
  refine x_isubN d_M_set_13 (by omega) (by omega) ?_
  refine x_i2l d_M_set_14 ?_
  refine x_S1 d_M_set_15 e_M_set_M_within ⟨rfl, rfl, Nat.zero_le _, Nat.zero_le _⟩ rfl rfl (Nat.le_of_ble_eq_true rfl) (s_within _ _ _ _) ?_
  refine x_if_ne (27) d_M_set_18 (by decide) (fun g0_0 => ?_) (fun g0_0 => ?_)
  · have g0_0 : ¬ (f_wi b 0 ((hs k).2 3 - 1) = 0) := g0_0
    have n0 : ¬ ((f_wi b 0 ((hs k).2 3 - 1) = 0)) := by
      intro z
      exact g0_0 z
    have f1 : ((f_wi a 0 3 = 0) ∨ (f_wi c 0 20 = 0) ∨ (f_wi d (-1) 1 = 0)) → x_A y_M_set 54 [some oM, some (xI a), some (xI b), some (xI c), some (xI d)] [] (S0, up G o_M 0 0) 0 0 Q := by
      intro z
      have eC : c_set (hs k) a b c d = 2 := by unfold c_set; rw [if_neg n0, if_pos z]
      have eV : a_set (hs k) a b c d = 0 := by unfold a_set; rw [if_neg (by omega)]
      have eR : r_set (hs k) a b c d = none := by unfold r_set; rw [if_neg (by omega)]
      refine x_aload_n d_M_set_54 rfl rfl ?_
      refine x_iconst (2) d_M_set_55 rfl ⟨by decide, by decide⟩ ?_
      refine x_V1 d_M_set_56 e_M_set_M_fails ⟨rfl, rfl, Nat.zero_le _, Nat.zero_le _⟩ rfl rfl rfl rfl (Nat.le_of_ble_eq_true rfl) (s_fails (up G o_M 0 0) 2) ?_
      refine x_ireturn d_M_set_59 rfl ?_ (Nat.zero_le _) (Nat.zero_le _)
      rw [← hQ, eC, eV, eR]
      exact ⟨_, rfl, mPubA.no x 2 0⟩
    refine x_iload_n d_M_set_27 rfl rfl ?_
    refine x_S1 d_M_set_28 e_M_set_M_isPlan ⟨rfl, rfl, Nat.zero_le _, Nat.zero_le _⟩ rfl rfl (Nat.le_of_ble_eq_true rfl) (s_isPlan _ _) ?_
    refine x_if_eq (54) d_M_set_31 (by decide) (fun g1_0 => ?_) (fun g1_0 => ?_)
    · exact f1 (Or.inl g1_0)
    · have g1_0 : ¬ (f_wi a 0 3 = 0) := g1_0
      refine x_iload_n d_M_set_34 rfl rfl ?_
      refine x_S1 d_M_set_35 e_M_set_M_isMinute ⟨rfl, rfl, Nat.zero_le _, Nat.zero_le _⟩ rfl rfl (Nat.le_of_ble_eq_true rfl) (s_isMinute _ _) ?_
      refine x_if_eq (54) d_M_set_38 (by decide) (fun g1_1 => ?_) (fun g1_1 => ?_)
      · exact f1 (Or.inr (Or.inl g1_1))
      · have g1_1 : ¬ (f_wi c 0 20 = 0) := g1_1
        refine x_iload d_M_set_41 rfl ?_
        refine x_i2l d_M_set_43 ?_
        refine x_ldc2 (-1) d_M_set_44 k_M_317 ⟨by decide, by decide⟩ ?_
        refine x_lconst (1) d_M_set_47 rfl ⟨by decide, by decide⟩ ?_
        refine x_S1 d_M_set_48 e_M_set_M_within ⟨rfl, rfl, Nat.zero_le _, Nat.zero_le _⟩ rfl rfl (Nat.le_of_ble_eq_true rfl) (s_within _ _ _ _) ?_
        refine x_if_ne (60) d_M_set_51 (by decide) (fun g1_2 => ?_) (fun g1_2 => ?_)
        · have g1_2 : ¬ (f_wi d (-1) 1 = 0) := g1_2
          have n1 : ¬ ((f_wi a 0 3 = 0) ∨ (f_wi c 0 20 = 0) ∨ (f_wi d (-1) 1 = 0)) := by
            intro z
            rcases z with z | z | z
            · exact g1_0 z
            · exact g1_1 z
            · exact g1_2 z
          have eC : c_set (hs k) a b c d = 0 := by unfold c_set; rw [if_neg n0, if_neg n1]
          have q0_0 := f_wi_1 g0_0
          have q1_0 := f_wi_1 g1_0
          have q1_1 := f_wi_1 g1_1
          have q1_2 := f_wi_1 g1_2
          have es := (e0.1 4 (by decide)).1
          refine x_aload_n d_M_set_60 rfl rfl ?_
          refine x_getIG (kf := 5) d_M_set_61 rfl rfl rfl in_M f_M_259 ?_
          rw [show up G o_M 0 0 o_M 5 = ((hs k).2 4 : Int) from es]
          refine x_bipush (60) d_M_set_64 rfl ⟨by decide, by decide⟩ ?_
          refine x_icmp_ne (71) d_M_set_66 (by decide) (fun gf => ?_) (fun gf => ?_)
          · have eR : r_set (hs k) a b c d = some (v7 5 a b c d 0 0) := by unfold r_set; rw [if_pos ⟨eC, by omega⟩]
            have eV : a_set (hs k) a b c d = ((hs k).2 4 : Int) := by unfold a_set; rw [if_pos eC, if_neg (by omega)]
            have ok : rOk (v7 5 a b c d 0 0) (hs k) := by
              unfold rOk v7; simp <;> omega
            have wf : Hwf (rAp (v7 5 a b c d 0 0) (hs k)) := (Hwf.add4 hh h9 (by omega) (v := v6 a b c d 0 0) (by show 0 ≤ a ∧ a ≤ 3 ∧ 0 ≤ b ∧ b < (hs k).2 3 ∧ 0 ≤ c ∧ c ≤ 20 ∧ -1 ≤ d ∧ d ≤ 1; omega)).1
            have ca := s_act (x.thrown 0) hk 5 a b c d 0 0 ok wf
            refine x_aload_n d_M_set_71 rfl rfl ?_
            refine x_iconst (5) d_M_set_72 rfl ⟨by decide, by decide⟩ ?_
            refine x_iload_n d_M_set_73 rfl rfl ?_
            refine x_iload_n d_M_set_74 rfl rfl ?_
            refine x_iload_n d_M_set_75 rfl rfl ?_
            refine x_iload d_M_set_76 rfl ?_
            refine x_iconst (0) d_M_set_78 rfl ⟨by decide, by decide⟩ ?_
            refine x_iconst (0) d_M_set_79 rfl ⟨by decide, by decide⟩ ?_
            refine x_VQ d_M_set_80 e_M_set_M_act ⟨rfl, rfl, Nat.zero_le _, Nat.zero_le _⟩ rfl rfl rfl rfl (Nat.le_of_ble_eq_true rfl) (ca) (fun v τ H => ?_)
            obtain ⟨rfl, G1, rfl, H1, H2, H3⟩ := H
            rw [up_same] at H3
            have lf := (lFrame.fld G (by decide) 0).tr H2
            have sz := (H1.2.2.1.to.1 4 (by decide)).1
            rw [show (nH hs k (rAp (v7 5 a b c d 0 0) (hs k)) (k + 1)).2 4 = (hs k).2 4 + 1 from by unfold nH; rw [if_neg (by omega)]; rfl] at sz
            show x_A y_M_set 83 [some oM, some (xI a), some (xI b), some (xI c), some (xI d)] [] (S0, G1) 0 0 Q
            refine x_aload_n d_M_set_83 rfl rfl ?_
            refine x_getIG (kf := 5) d_M_set_84 rfl rfl rfl in_M f_M_259 ?_
            rw [show G1 o_M 5 = (((hs k).2 4 + 1 : Nat) : Int) from sz]
            refine x_iconst (1) d_M_set_87 rfl ⟨by decide, by decide⟩ ?_
            refine x_isubN d_M_set_88 (by omega) (by omega) ?_
            refine x_ireturn d_M_set_89 rfl ?_ (Nat.zero_le _) (Nat.zero_le _)
            rw [show (((hs k).2 4 + 1 : Nat) : Int) - 1 = ((hs k).2 4 : Int) by omega]
            rw [← hQ, eC, eR, eV]
            exact ⟨_, rfl, rfl, G1, rfl, lf, H3, H1⟩
          · have eR : r_set (hs k) a b c d = none := by unfold r_set; rw [if_neg (fun z => z.2 (by omega))]
            have eV : a_set (hs k) a b c d = -1 := by unfold a_set; rw [if_pos eC, if_pos (by omega)]
            refine x_iconst (-1) d_M_set_69 rfl ⟨by decide, by decide⟩ ?_
            refine x_ireturn d_M_set_70 rfl ?_ (Nat.zero_le _) (Nat.zero_le _)
            rw [← hQ, eC, eR, eV]
            exact ⟨_, rfl, mPubA.full x (-1)⟩
        · exact f1 (Or.inr (Or.inr ((by have g1_2 := g1_2; first | exact g1_2 | omega))))
  · exact f0 ((by have g0_0 := g0_0; first | exact g0_0 | omega))
def c_fire (h : HH) (a b c d e f : Int) : Int := if (f_wi a 0 (h.2 0 - 1) = 0) then 1 else if (f_wi b 0 20 = 0) ∨ (f_wi c (b + 1) 21 = 0) ∨ (f_wi d 0 100000 = 0) ∨ (f_wi e 0 100000 = 0) ∨ (f_wi f 0 100000 = 0) then 2 else 0
def r_fire (h : HH) (a b c d e f : Int) : Option (Nat → Int) := if c_fire h a b c d e f = 0 ∧ ¬ h.2 2 = 4 then some (v7 3 a b c d e f) else none
def a_fire (h : HH) (a b c d e f : Int) : Int := if c_fire h a b c d e f = 0 then if h.2 2 = 4 then -1 else (h.2 2 : Int) else 0
theorem s_fire (x : mLog R hs base k logged G) (hk : k < 600) (a b c d e f : Int) : x_M y_M_fire [oM, xI a, xI b, xI c, xI d, xI e, xI f] (S0, G) (fun r τ => ∃ v, r = .inl v ∧ mPubA R hs base k logged (c_fire (hs k) a b c d e f) (a_fire (hs k) a b c d e f) (r_fire (hs k) a b c d e f) G v τ) := by
  have hh := x.1.2.2.1 k x.1.1.2.1
  have bb := hh.1
  have r := (x.thrown 0).2.2.1
  have e0 := r.to
  have h9 := h9_of x
  refine x_of 0 rfl (Nat.le_of_ble_eq_true rfl) ?_
  show x_A y_M_fire 0 [some oM, some (xI a), some (xI b), some (xI c), some (xI d), some (xI e), some (xI f)] [] (S0, G) 0 0 _
  generalize hQ : (fun (r : XRes) (τ : XM) => ∃ v, r = .inl v ∧ mPubA R hs base k logged (c_fire (hs k) a b c d e f) (a_fire (hs k) a b c d e f) (r_fire (hs k) a b c d e f) G v τ) = Q
  have f0 : ((f_wi a 0 ((hs k).2 0 - 1) = 0)) → x_A y_M_fire 13 [some oM, some (xI a), some (xI b), some (xI c), some (xI d), some (xI e), some (xI f)] [] (S0, up G o_M 0 0) 0 0 Q := by
    intro z
    have eC : c_fire (hs k) a b c d e f = 1 := by unfold c_fire; rw [if_pos z]
    have eV : a_fire (hs k) a b c d e f = 0 := by unfold a_fire; rw [if_neg (by omega)]
    have eR : r_fire (hs k) a b c d e f = none := by unfold r_fire; rw [if_neg (by omega)]
    refine x_aload_n d_M_fire_13 rfl rfl ?_
    refine x_iconst (1) d_M_fire_14 rfl ⟨by decide, by decide⟩ ?_
    refine x_V1 d_M_fire_15 e_M_fire_M_fails ⟨rfl, rfl, Nat.zero_le _, Nat.zero_le _⟩ rfl rfl rfl rfl (Nat.le_of_ble_eq_true rfl) (s_fails (up G o_M 0 0) 1) ?_
    refine x_ireturn d_M_fire_18 rfl ?_ (Nat.zero_le _) (Nat.zero_le _)
    rw [← hQ, eC, eV, eR]
    exact ⟨_, rfl, mPubA.no x 1 0⟩
  refine x_aload_n d_M_fire_0 rfl rfl ?_
  refine x_iconst (0) d_M_fire_1 rfl ⟨by decide, by decide⟩ ?_
  refine x_putIG (kf := 0) tyX12 d_M_fire_2 rfl rfl rfl in_M f_M_217 tyX12_ok nmX12 (by decide +kernel) rfl ?_
  refine x_aload_n d_M_fire_5 rfl rfl ?_
  refine x_iload_n d_M_fire_6 rfl rfl ?_
  refine x_V1 d_M_fire_7 e_M_fire_M_isPiece ⟨rfl, rfl, Nat.zero_le _, Nat.zero_le _⟩ rfl rfl rfl rfl (Nat.le_of_ble_eq_true rfl) (s_isPiece hh r _) ?_
  refine x_if_ne (19) d_M_fire_10 (by decide) (fun g0_0 => ?_) (fun g0_0 => ?_)
  · have g0_0 : ¬ (f_wi a 0 ((hs k).2 0 - 1) = 0) := g0_0
    have n0 : ¬ ((f_wi a 0 ((hs k).2 0 - 1) = 0)) := by
      intro z
      exact g0_0 z
    have f1 : ((f_wi b 0 20 = 0) ∨ (f_wi c (b + 1) 21 = 0) ∨ (f_wi d 0 100000 = 0) ∨ (f_wi e 0 100000 = 0) ∨ (f_wi f 0 100000 = 0)) → x_A y_M_fire 80 [some oM, some (xI a), some (xI b), some (xI c), some (xI d), some (xI e), some (xI f)] [] (S0, up G o_M 0 0) 0 0 Q := by
      intro z
      have eC : c_fire (hs k) a b c d e f = 2 := by unfold c_fire; rw [if_neg n0, if_pos z]
      have eV : a_fire (hs k) a b c d e f = 0 := by unfold a_fire; rw [if_neg (by omega)]
      have eR : r_fire (hs k) a b c d e f = none := by unfold r_fire; rw [if_neg (by omega)]
      refine x_aload_n d_M_fire_80 rfl rfl ?_
      refine x_iconst (2) d_M_fire_81 rfl ⟨by decide, by decide⟩ ?_
      refine x_V1 d_M_fire_82 e_M_fire_M_fails ⟨rfl, rfl, Nat.zero_le _, Nat.zero_le _⟩ rfl rfl rfl rfl (Nat.le_of_ble_eq_true rfl) (s_fails (up G o_M 0 0) 2) ?_
      refine x_ireturn d_M_fire_85 rfl ?_ (Nat.zero_le _) (Nat.zero_le _)
      rw [← hQ, eC, eV, eR]
      exact ⟨_, rfl, mPubA.no x 2 0⟩
    refine x_iload_n d_M_fire_19 rfl rfl ?_
    refine x_S1 d_M_fire_20 e_M_fire_M_isMinute ⟨rfl, rfl, Nat.zero_le _, Nat.zero_le _⟩ rfl rfl (Nat.le_of_ble_eq_true rfl) (s_isMinute _ _) ?_
    refine x_if_eq (80) d_M_fire_23 (by decide) (fun g1_0 => ?_) (fun g1_0 => ?_)
    · exact f1 (Or.inl g1_0)
    · have g1_0 : ¬ (f_wi b 0 20 = 0) := g1_0
      have qb := f_wi_1 g1_0
      refine x_iload_n d_M_fire_26 rfl rfl ?_
      refine x_i2l d_M_fire_27 ?_
      refine x_iload_n d_M_fire_28 rfl rfl ?_
      refine x_iconst (1) d_M_fire_29 rfl ⟨by decide, by decide⟩ ?_
      refine x_iaddN d_M_fire_30 (by omega) (by omega) ?_
      refine x_i2l d_M_fire_31 ?_
      refine x_ldc2 (21) d_M_fire_32 k_M_303 ⟨by decide, by decide⟩ ?_
      refine x_S1 d_M_fire_35 e_M_fire_M_within ⟨rfl, rfl, Nat.zero_le _, Nat.zero_le _⟩ rfl rfl (Nat.le_of_ble_eq_true rfl) (s_within _ _ _ _) ?_
      refine x_if_eq (80) d_M_fire_38 (by decide) (fun g1_1 => ?_) (fun g1_1 => ?_)
      · exact f1 (Or.inr (Or.inl g1_1))
      · have g1_1 : ¬ (f_wi c (b + 1) 21 = 0) := g1_1
        refine x_iload d_M_fire_41 rfl ?_
        refine x_i2l d_M_fire_43 ?_
        refine x_lconst (0) d_M_fire_44 rfl ⟨by decide, by decide⟩ ?_
        refine x_ldc2 (100000) d_M_fire_45 k_M_308 ⟨by decide, by decide⟩ ?_
        refine x_S1 d_M_fire_48 e_M_fire_M_within ⟨rfl, rfl, Nat.zero_le _, Nat.zero_le _⟩ rfl rfl (Nat.le_of_ble_eq_true rfl) (s_within _ _ _ _) ?_
        refine x_if_eq (80) d_M_fire_51 (by decide) (fun g1_2 => ?_) (fun g1_2 => ?_)
        · exact f1 (Or.inr (Or.inr (Or.inl g1_2)))
        · have g1_2 : ¬ (f_wi d 0 100000 = 0) := g1_2
          refine x_iload d_M_fire_54 rfl ?_
          refine x_i2l d_M_fire_56 ?_
          refine x_lconst (0) d_M_fire_57 rfl ⟨by decide, by decide⟩ ?_
          refine x_ldc2 (100000) d_M_fire_58 k_M_308 ⟨by decide, by decide⟩ ?_
          refine x_S1 d_M_fire_61 e_M_fire_M_within ⟨rfl, rfl, Nat.zero_le _, Nat.zero_le _⟩ rfl rfl (Nat.le_of_ble_eq_true rfl) (s_within _ _ _ _) ?_
          refine x_if_eq (80) d_M_fire_64 (by decide) (fun g1_3 => ?_) (fun g1_3 => ?_)
          · exact f1 (Or.inr (Or.inr (Or.inr (Or.inl g1_3))))
          · have g1_3 : ¬ (f_wi e 0 100000 = 0) := g1_3
            refine x_iload d_M_fire_67 rfl ?_
            refine x_i2l d_M_fire_69 ?_
            refine x_lconst (0) d_M_fire_70 rfl ⟨by decide, by decide⟩ ?_
            refine x_ldc2 (100000) d_M_fire_71 k_M_308 ⟨by decide, by decide⟩ ?_
            refine x_S1 d_M_fire_74 e_M_fire_M_within ⟨rfl, rfl, Nat.zero_le _, Nat.zero_le _⟩ rfl rfl (Nat.le_of_ble_eq_true rfl) (s_within _ _ _ _) ?_
            refine x_if_ne (86) d_M_fire_77 (by decide) (fun g1_4 => ?_) (fun g1_4 => ?_)
            · have g1_4 : ¬ (f_wi f 0 100000 = 0) := g1_4
              have n1 : ¬ ((f_wi b 0 20 = 0) ∨ (f_wi c (b + 1) 21 = 0) ∨ (f_wi d 0 100000 = 0) ∨ (f_wi e 0 100000 = 0) ∨ (f_wi f 0 100000 = 0)) := by
                intro z
                rcases z with z | z | z | z | z
                · exact g1_0 z
                · exact g1_1 z
                · exact g1_2 z
                · exact g1_3 z
                · exact g1_4 z
              have eC : c_fire (hs k) a b c d e f = 0 := by unfold c_fire; rw [if_neg n0, if_neg n1]
              have q0_0 := f_wi_1 g0_0
              have q1_0 := f_wi_1 g1_0
              have q1_1 := f_wi_1 g1_1
              have q1_2 := f_wi_1 g1_2
              have q1_3 := f_wi_1 g1_3
              have q1_4 := f_wi_1 g1_4
              have es := (e0.1 2 (by decide)).1
              refine x_aload_n d_M_fire_86 rfl rfl ?_
              refine x_getIG (kf := 3) d_M_fire_87 rfl rfl rfl in_M f_M_253 ?_
              rw [show up G o_M 0 0 o_M 3 = ((hs k).2 2 : Int) from es]
              refine x_iconst (4) d_M_fire_90 rfl ⟨by decide, by decide⟩ ?_
              refine x_icmp_ne (96) d_M_fire_91 (by decide) (fun gf => ?_) (fun gf => ?_)
              · have eR : r_fire (hs k) a b c d e f = some (v7 3 a b c d e f) := by unfold r_fire; rw [if_pos ⟨eC, by omega⟩]
                have eV : a_fire (hs k) a b c d e f = ((hs k).2 2 : Int) := by unfold a_fire; rw [if_pos eC, if_neg (by omega)]
                have ok : rOk (v7 3 a b c d e f) (hs k) := by
                  unfold rOk v7; simp <;> omega
                have wf : Hwf (rAp (v7 3 a b c d e f) (hs k)) := (Hwf.add2 hh h9 (by omega) (v := v6 a b c d e f) (by show 0 ≤ a ∧ a < (hs k).2 0 ∧ 0 ≤ b ∧ b ≤ 20 ∧ b < c ∧ c ≤ 21 ∧ 0 ≤ d ∧ d ≤ 100000 ∧ 0 ≤ e ∧ e ≤ 100000 ∧ 0 ≤ f ∧ f ≤ 100000; omega)).1
                have ca := s_act (x.thrown 0) hk 3 a b c d e f ok wf
                refine x_aload_n d_M_fire_96 rfl rfl ?_
                refine x_iconst (3) d_M_fire_97 rfl ⟨by decide, by decide⟩ ?_
                refine x_iload_n d_M_fire_98 rfl rfl ?_
                refine x_iload_n d_M_fire_99 rfl rfl ?_
                refine x_iload_n d_M_fire_100 rfl rfl ?_
                refine x_iload d_M_fire_101 rfl ?_
                refine x_iload d_M_fire_103 rfl ?_
                refine x_iload d_M_fire_105 rfl ?_
                refine x_VQ d_M_fire_107 e_M_fire_M_act ⟨rfl, rfl, Nat.zero_le _, Nat.zero_le _⟩ rfl rfl rfl rfl (Nat.le_of_ble_eq_true rfl) (ca) (fun v τ H => ?_)
                obtain ⟨rfl, G1, rfl, H1, H2, H3⟩ := H
                rw [up_same] at H3
                have lf := (lFrame.fld G (by decide) 0).tr H2
                have sz := (H1.2.2.1.to.1 2 (by decide)).1
                rw [show (nH hs k (rAp (v7 3 a b c d e f) (hs k)) (k + 1)).2 2 = (hs k).2 2 + 1 from by unfold nH; rw [if_neg (by omega)]; rfl] at sz
                show x_A y_M_fire 110 [some oM, some (xI a), some (xI b), some (xI c), some (xI d), some (xI e), some (xI f)] [] (S0, G1) 0 0 Q
                refine x_aload_n d_M_fire_110 rfl rfl ?_
                refine x_getIG (kf := 3) d_M_fire_111 rfl rfl rfl in_M f_M_253 ?_
                rw [show G1 o_M 3 = (((hs k).2 2 + 1 : Nat) : Int) from sz]
                refine x_iconst (1) d_M_fire_114 rfl ⟨by decide, by decide⟩ ?_
                refine x_isubN d_M_fire_115 (by omega) (by omega) ?_
                refine x_ireturn d_M_fire_116 rfl ?_ (Nat.zero_le _) (Nat.zero_le _)
                rw [show (((hs k).2 2 + 1 : Nat) : Int) - 1 = ((hs k).2 2 : Int) by omega]
                rw [← hQ, eC, eR, eV]
                exact ⟨_, rfl, rfl, G1, rfl, lf, H3, H1⟩
              · have eR : r_fire (hs k) a b c d e f = none := by unfold r_fire; rw [if_neg (fun z => z.2 (by omega))]
                have eV : a_fire (hs k) a b c d e f = -1 := by unfold a_fire; rw [if_pos eC, if_pos (by omega)]
                refine x_iconst (-1) d_M_fire_94 rfl ⟨by decide, by decide⟩ ?_
                refine x_ireturn d_M_fire_95 rfl ?_ (Nat.zero_le _) (Nat.zero_le _)
                rw [← hQ, eC, eR, eV]
                exact ⟨_, rfl, mPubA.full x (-1)⟩
            · exact f1 (Or.inr (Or.inr (Or.inr (Or.inr ((by have g1_4 := g1_4; first | exact g1_4 | omega))))))
  · exact f0 ((by have g0_0 := g0_0; first | exact g0_0 | omega))
def c_eyes (h : HH) (a : Int) : Int := if (f_wi a 0 1000000 = 0) then 1 else 0
def r_eyes (h : HH) (a : Int) : Option (Nat → Int) := if c_eyes h a = 0 then some (v7 6 a 0 0 0 0 0) else none
def a_eyes (h : HH) (a : Int) : Int := if c_eyes h a = 0 then h.1 9 0 0 else 0
theorem s_eyes (x : mLog R hs base k logged G) (hk : k < 600) (a : Int) : x_M y_M_eyes [oM, xI a] (S0, G) (fun r τ => ∃ v, r = .inl v ∧ mPubA R hs base k logged (c_eyes (hs k) a) (a_eyes (hs k) a) (r_eyes (hs k) a) G v τ) := by
  have hh := x.1.2.2.1 k x.1.1.2.1
  have bb := hh.1
  have r := (x.thrown 0).2.2.1
  have e0 := r.to
  have h9 := h9_of x
  refine x_of 1 rfl (Nat.le_of_ble_eq_true rfl) ?_
  show x_A y_M_eyes 0 [some oM, some (xI a), none] [] (S0, G) 0 0 _
  generalize hQ : (fun (r : XRes) (τ : XM) => ∃ v, r = .inl v ∧ mPubA R hs base k logged (c_eyes (hs k) a) (a_eyes (hs k) a) (r_eyes (hs k) a) G v τ) = Q
  have f0 : ((f_wi a 0 1000000 = 0)) → x_A y_M_eyes 17 [some oM, some (xI a), none] [] (S0, up G o_M 0 0) 0 0 Q := by
    intro z
    have eC : c_eyes (hs k) a = 1 := by unfold c_eyes; rw [if_pos z]
    have eV : a_eyes (hs k) a = 0 := by unfold a_eyes; rw [if_neg (by omega)]
    have eR : r_eyes (hs k) a = none := by unfold r_eyes; rw [if_neg (by omega)]
    refine x_aload_n d_M_eyes_17 rfl rfl ?_
    refine x_iconst (1) d_M_eyes_18 rfl ⟨by decide, by decide⟩ ?_
    refine x_V1 d_M_eyes_19 e_M_eyes_M_fails ⟨rfl, rfl, Nat.zero_le _, Nat.zero_le _⟩ rfl rfl rfl rfl (Nat.le_of_ble_eq_true rfl) (s_fails (up G o_M 0 0) 1) ?_
    refine x_ireturn d_M_eyes_22 rfl ?_ (Nat.zero_le _) (Nat.zero_le _)
    rw [← hQ, eC, eV, eR]
    exact ⟨_, rfl, mPubA.no x 1 0⟩
  refine x_aload_n d_M_eyes_0 rfl rfl ?_
  refine x_iconst (0) d_M_eyes_1 rfl ⟨by decide, by decide⟩ ?_
  refine x_putIG (kf := 0) tyX12 d_M_eyes_2 rfl rfl rfl in_M f_M_217 tyX12_ok nmX12 (by decide +kernel) rfl ?_
  refine x_iload_n d_M_eyes_5 rfl rfl ?_
  refine x_i2l d_M_eyes_6 ?_
  refine x_lconst (0) d_M_eyes_7 rfl ⟨by decide, by decide⟩ ?_
  refine x_ldc2 (1000000) d_M_eyes_8 k_M_312 ⟨by decide, by decide⟩ ?_
  refine x_S1 d_M_eyes_11 e_M_eyes_M_within ⟨rfl, rfl, Nat.zero_le _, Nat.zero_le _⟩ rfl rfl (Nat.le_of_ble_eq_true rfl) (s_within _ _ _ _) ?_
  refine x_if_ne (23) d_M_eyes_14 (by decide) (fun g0_0 => ?_) (fun g0_0 => ?_)
  · have g0_0 : ¬ (f_wi a 0 1000000 = 0) := g0_0
    have n0 : ¬ ((f_wi a 0 1000000 = 0)) := by
      intro z
      exact g0_0 z
    have eC : c_eyes (hs k) a = 0 := by unfold c_eyes; rw [if_neg n0]
    have q0_0 := f_wi_1 g0_0
    have eR : r_eyes (hs k) a = some (v7 6 a 0 0 0 0 0) := by unfold r_eyes; rw [if_pos eC]
    have eV : a_eyes (hs k) a = (hs k).1 9 0 0 := by unfold a_eyes; rw [if_pos eC]
    refine x_aload_n d_M_eyes_23 rfl rfl ?_
    refine x_getIG (kf := 10) d_M_eyes_24 rfl rfl rfl in_M f_M_7 ?_
    rw [show up G o_M 0 0 o_M 10 = (hs k).1 9 0 0 from e0.2 0 (by decide)]
    refine x_istore_n d_M_eyes_27 rfl (by decide) ?_
    dsimp only [x_st1, x_st2, x_kill, List.set, List.getElem?_cons_zero, List.getElem?_cons_succ]
    have ok : rOk (v7 6 a 0 0 0 0 0) (hs k) := by
      unfold rOk v7; simp <;> omega
    have wf : Hwf (rAp (v7 6 a 0 0 0 0 0) (hs k)) := (Hwf.eyes hh h9 (z := a) (by omega)).1
    have ca := s_act (x.thrown 0) hk 6 a 0 0 0 0 0 ok wf
    refine x_aload_n d_M_eyes_28 rfl rfl ?_
    refine x_bipush (6) d_M_eyes_29 rfl ⟨by decide, by decide⟩ ?_
    refine x_iload_n d_M_eyes_31 rfl rfl ?_
    refine x_iconst (0) d_M_eyes_32 rfl ⟨by decide, by decide⟩ ?_
    refine x_iconst (0) d_M_eyes_33 rfl ⟨by decide, by decide⟩ ?_
    refine x_iconst (0) d_M_eyes_34 rfl ⟨by decide, by decide⟩ ?_
    refine x_iconst (0) d_M_eyes_35 rfl ⟨by decide, by decide⟩ ?_
    refine x_iconst (0) d_M_eyes_36 rfl ⟨by decide, by decide⟩ ?_
    refine x_VQ d_M_eyes_37 e_M_eyes_M_act ⟨rfl, rfl, Nat.zero_le _, Nat.zero_le _⟩ rfl rfl rfl rfl (Nat.le_of_ble_eq_true rfl) (ca) (fun v τ H => ?_)
    obtain ⟨rfl, G1, rfl, H1, H2, H3⟩ := H
    rw [up_same] at H3
    have lf := (lFrame.fld G (by decide) 0).tr H2
    show x_A y_M_eyes 40 [some oM, some (xI a), some (xI ((hs k).1 9 0 0))] [] (S0, G1) 0 0 Q
    refine x_iload_n d_M_eyes_40 rfl rfl ?_
    refine x_ireturn d_M_eyes_41 rfl ?_ (Nat.zero_le _) (Nat.zero_le _)
    rw [← hQ, eC, eR, eV]
    exact ⟨_, rfl, rfl, G1, rfl, lf, H3, H1⟩
  · exact f0 ((by have g0_0 := g0_0; first | exact g0_0 | omega))
def c_walk (h : HH) (a : Int) : Int := if (f_wi a 1 3 = 0) then 1 else 0
def r_walk (h : HH) (a : Int) : Option (Nat → Int) := if c_walk h a = 0 then some (v7 8 a 0 0 0 0 0) else none
def a_walk (h : HH) (a : Int) : Int := if c_walk h a = 0 then h.1 9 0 1 else 0
theorem s_walk (x : mLog R hs base k logged G) (hk : k < 600) (a : Int) : x_M y_M_walk [oM, xI a] (S0, G) (fun r τ => ∃ v, r = .inl v ∧ mPubA R hs base k logged (c_walk (hs k) a) (a_walk (hs k) a) (r_walk (hs k) a) G v τ) := by
  have hh := x.1.2.2.1 k x.1.1.2.1
  have bb := hh.1
  have r := (x.thrown 0).2.2.1
  have e0 := r.to
  have h9 := h9_of x
  refine x_of 1 rfl (Nat.le_of_ble_eq_true rfl) ?_
  show x_A y_M_walk 0 [some oM, some (xI a), none] [] (S0, G) 0 0 _
  generalize hQ : (fun (r : XRes) (τ : XM) => ∃ v, r = .inl v ∧ mPubA R hs base k logged (c_walk (hs k) a) (a_walk (hs k) a) (r_walk (hs k) a) G v τ) = Q
  have f0 : ((f_wi a 1 3 = 0)) → x_A y_M_walk 17 [some oM, some (xI a), none] [] (S0, up G o_M 0 0) 0 0 Q := by
    intro z
    have eC : c_walk (hs k) a = 1 := by unfold c_walk; rw [if_pos z]
    have eV : a_walk (hs k) a = 0 := by unfold a_walk; rw [if_neg (by omega)]
    have eR : r_walk (hs k) a = none := by unfold r_walk; rw [if_neg (by omega)]
    refine x_aload_n d_M_walk_17 rfl rfl ?_
    refine x_iconst (1) d_M_walk_18 rfl ⟨by decide, by decide⟩ ?_
    refine x_V1 d_M_walk_19 e_M_walk_M_fails ⟨rfl, rfl, Nat.zero_le _, Nat.zero_le _⟩ rfl rfl rfl rfl (Nat.le_of_ble_eq_true rfl) (s_fails (up G o_M 0 0) 1) ?_
    refine x_ireturn d_M_walk_22 rfl ?_ (Nat.zero_le _) (Nat.zero_le _)
    rw [← hQ, eC, eV, eR]
    exact ⟨_, rfl, mPubA.no x 1 0⟩
  refine x_aload_n d_M_walk_0 rfl rfl ?_
  refine x_iconst (0) d_M_walk_1 rfl ⟨by decide, by decide⟩ ?_
  refine x_putIG (kf := 0) tyX12 d_M_walk_2 rfl rfl rfl in_M f_M_217 tyX12_ok nmX12 (by decide +kernel) rfl ?_
  refine x_iload_n d_M_walk_5 rfl rfl ?_
  refine x_i2l d_M_walk_6 ?_
  refine x_lconst (1) d_M_walk_7 rfl ⟨by decide, by decide⟩ ?_
  refine x_ldc2 (3) d_M_walk_8 k_M_226 ⟨by decide, by decide⟩ ?_
  refine x_S1 d_M_walk_11 e_M_walk_M_within ⟨rfl, rfl, Nat.zero_le _, Nat.zero_le _⟩ rfl rfl (Nat.le_of_ble_eq_true rfl) (s_within _ _ _ _) ?_
  refine x_if_ne (23) d_M_walk_14 (by decide) (fun g0_0 => ?_) (fun g0_0 => ?_)
  · have g0_0 : ¬ (f_wi a 1 3 = 0) := g0_0
    have n0 : ¬ ((f_wi a 1 3 = 0)) := by
      intro z
      exact g0_0 z
    have eC : c_walk (hs k) a = 0 := by unfold c_walk; rw [if_neg n0]
    have q0_0 := f_wi_1 g0_0
    have eR : r_walk (hs k) a = some (v7 8 a 0 0 0 0 0) := by unfold r_walk; rw [if_pos eC]
    have eV : a_walk (hs k) a = (hs k).1 9 0 1 := by unfold a_walk; rw [if_pos eC]
    refine x_aload_n d_M_walk_23 rfl rfl ?_
    refine x_getIG (kf := 11) d_M_walk_24 rfl rfl rfl in_M f_M_13 ?_
    rw [show up G o_M 0 0 o_M 11 = (hs k).1 9 0 1 from e0.2 1 (by decide)]
    refine x_istore_n d_M_walk_27 rfl (by decide) ?_
    dsimp only [x_st1, x_st2, x_kill, List.set, List.getElem?_cons_zero, List.getElem?_cons_succ]
    have ok : rOk (v7 8 a 0 0 0 0 0) (hs k) := by
      unfold rOk v7; simp <;> omega
    have wf : Hwf (rAp (v7 8 a 0 0 0 0 0) (hs k)) := (Hwf.walk hh h9 (z := a) (by omega)).1
    have ca := s_act (x.thrown 0) hk 8 a 0 0 0 0 0 ok wf
    refine x_aload_n d_M_walk_28 rfl rfl ?_
    refine x_bipush (8) d_M_walk_29 rfl ⟨by decide, by decide⟩ ?_
    refine x_iload_n d_M_walk_31 rfl rfl ?_
    refine x_iconst (0) d_M_walk_32 rfl ⟨by decide, by decide⟩ ?_
    refine x_iconst (0) d_M_walk_33 rfl ⟨by decide, by decide⟩ ?_
    refine x_iconst (0) d_M_walk_34 rfl ⟨by decide, by decide⟩ ?_
    refine x_iconst (0) d_M_walk_35 rfl ⟨by decide, by decide⟩ ?_
    refine x_iconst (0) d_M_walk_36 rfl ⟨by decide, by decide⟩ ?_
    refine x_VQ d_M_walk_37 e_M_walk_M_act ⟨rfl, rfl, Nat.zero_le _, Nat.zero_le _⟩ rfl rfl rfl rfl (Nat.le_of_ble_eq_true rfl) (ca) (fun v τ H => ?_)
    obtain ⟨rfl, G1, rfl, H1, H2, H3⟩ := H
    rw [up_same] at H3
    have lf := (lFrame.fld G (by decide) 0).tr H2
    show x_A y_M_walk 40 [some oM, some (xI a), some (xI ((hs k).1 9 0 1))] [] (S0, G1) 0 0 Q
    refine x_iload_n d_M_walk_40 rfl rfl ?_
    refine x_ireturn d_M_walk_41 rfl ?_ (Nat.zero_le _) (Nat.zero_le _)
    rw [← hQ, eC, eR, eV]
    exact ⟨_, rfl, rfl, G1, rfl, lf, H3, H1⟩
  · exact f0 ((by have g0_0 := g0_0; first | exact g0_0 | omega))
def c_water (h : HH) (a b : Int) : Int := if (f_wi a 0 (h.2 0 - 1) = 0) then 1 else if (f_wi b 0 21 = 0) then 2 else 0
def r_water (h : HH) (a b : Int) : Option (Nat → Int) := if c_water h a b = 0 then some (v7 2 a b 0 0 0 0) else none
def a_water (h : HH) (a b : Int) : Int := if c_water h a b = 0 then h.1 0 a.toNat 2 else 0
theorem s_water (x : mLog R hs base k logged G) (hk : k < 600) (a b : Int) : x_M y_M_water [oM, xI a, xI b] (S0, G) (fun r τ => ∃ v, r = .inl v ∧ mPubA R hs base k logged (c_water (hs k) a b) (a_water (hs k) a b) (r_water (hs k) a b) G v τ) := by
  have hh := x.1.2.2.1 k x.1.1.2.1
  have bb := hh.1
  have r := (x.thrown 0).2.2.1
  have e0 := r.to
  have h9 := h9_of x
  refine x_of 1 rfl (Nat.le_of_ble_eq_true rfl) ?_
  show x_A y_M_water 0 [some oM, some (xI a), some (xI b), none] [] (S0, G) 0 0 _
  generalize hQ : (fun (r : XRes) (τ : XM) => ∃ v, r = .inl v ∧ mPubA R hs base k logged (c_water (hs k) a b) (a_water (hs k) a b) (r_water (hs k) a b) G v τ) = Q
  have f0 : ((f_wi a 0 ((hs k).2 0 - 1) = 0)) → x_A y_M_water 13 [some oM, some (xI a), some (xI b), none] [] (S0, up G o_M 0 0) 0 0 Q := by
    intro z
    have eC : c_water (hs k) a b = 1 := by unfold c_water; rw [if_pos z]
    have eV : a_water (hs k) a b = 0 := by unfold a_water; rw [if_neg (by omega)]
    have eR : r_water (hs k) a b = none := by unfold r_water; rw [if_neg (by omega)]
    refine x_aload_n d_M_water_13 rfl rfl ?_
    refine x_iconst (1) d_M_water_14 rfl ⟨by decide, by decide⟩ ?_
    refine x_V1 d_M_water_15 e_M_water_M_fails ⟨rfl, rfl, Nat.zero_le _, Nat.zero_le _⟩ rfl rfl rfl rfl (Nat.le_of_ble_eq_true rfl) (s_fails (up G o_M 0 0) 1) ?_
    refine x_ireturn d_M_water_18 rfl ?_ (Nat.zero_le _) (Nat.zero_le _)
    rw [← hQ, eC, eV, eR]
    exact ⟨_, rfl, mPubA.no x 1 0⟩
  refine x_aload_n d_M_water_0 rfl rfl ?_
  refine x_iconst (0) d_M_water_1 rfl ⟨by decide, by decide⟩ ?_
  refine x_putIG (kf := 0) tyX12 d_M_water_2 rfl rfl rfl in_M f_M_217 tyX12_ok nmX12 (by decide +kernel) rfl ?_
  refine x_aload_n d_M_water_5 rfl rfl ?_
  refine x_iload_n d_M_water_6 rfl rfl ?_
  refine x_V1 d_M_water_7 e_M_water_M_isPiece ⟨rfl, rfl, Nat.zero_le _, Nat.zero_le _⟩ rfl rfl rfl rfl (Nat.le_of_ble_eq_true rfl) (s_isPiece hh r _) ?_
  refine x_if_ne (19) d_M_water_10 (by decide) (fun g0_0 => ?_) (fun g0_0 => ?_)
  · have g0_0 : ¬ (f_wi a 0 ((hs k).2 0 - 1) = 0) := g0_0
    have n0 : ¬ ((f_wi a 0 ((hs k).2 0 - 1) = 0)) := by
      intro z
      exact g0_0 z
    have f1 : ((f_wi b 0 21 = 0)) → x_A y_M_water 31 [some oM, some (xI a), some (xI b), none] [] (S0, up G o_M 0 0) 0 0 Q := by
      intro z
      have eC : c_water (hs k) a b = 2 := by unfold c_water; rw [if_neg n0, if_pos z]
      have eV : a_water (hs k) a b = 0 := by unfold a_water; rw [if_neg (by omega)]
      have eR : r_water (hs k) a b = none := by unfold r_water; rw [if_neg (by omega)]
      refine x_aload_n d_M_water_31 rfl rfl ?_
      refine x_iconst (2) d_M_water_32 rfl ⟨by decide, by decide⟩ ?_
      refine x_V1 d_M_water_33 e_M_water_M_fails ⟨rfl, rfl, Nat.zero_le _, Nat.zero_le _⟩ rfl rfl rfl rfl (Nat.le_of_ble_eq_true rfl) (s_fails (up G o_M 0 0) 2) ?_
      refine x_ireturn d_M_water_36 rfl ?_ (Nat.zero_le _) (Nat.zero_le _)
      rw [← hQ, eC, eV, eR]
      exact ⟨_, rfl, mPubA.no x 2 0⟩
    refine x_iload_n d_M_water_19 rfl rfl ?_
    refine x_i2l d_M_water_20 ?_
    refine x_lconst (0) d_M_water_21 rfl ⟨by decide, by decide⟩ ?_
    refine x_ldc2 (21) d_M_water_22 k_M_303 ⟨by decide, by decide⟩ ?_
    refine x_S1 d_M_water_25 e_M_water_M_within ⟨rfl, rfl, Nat.zero_le _, Nat.zero_le _⟩ rfl rfl (Nat.le_of_ble_eq_true rfl) (s_within _ _ _ _) ?_
    refine x_if_ne (37) d_M_water_28 (by decide) (fun g1_0 => ?_) (fun g1_0 => ?_)
    · have g1_0 : ¬ (f_wi b 0 21 = 0) := g1_0
      have n1 : ¬ ((f_wi b 0 21 = 0)) := by
        intro z
        exact g1_0 z
      have eC : c_water (hs k) a b = 0 := by unfold c_water; rw [if_neg n0, if_neg n1]
      have q0_0 := f_wi_1 g0_0
      have q1_0 := f_wi_1 g1_0
      have eR : r_water (hs k) a b = some (v7 2 a b 0 0 0 0) := by unfold r_water; rw [if_pos eC]
      have eV : a_water (hs k) a b = (hs k).1 0 a.toNat 2 := by unfold a_water; rw [if_pos eC]
      refine x_aload_n d_M_water_37 rfl rfl ?_
      refine x_getF (kf := 17) d_M_water_38 rfl rfl rfl in_M f_M_29 ?_
      refine x_iload_n d_M_water_41 rfl rfl ?_
      refine x_ialdN (a.toNat) d_M_water_42 rfl (by omega) (by omega) ?_
      rw [show up G o_M 0 0 m_water a.toNat = (hs k).1 0 a.toNat 2 from (e0.1 0 (by decide)).2 2 (by decide) _ (by omega)]
      refine x_istore_n d_M_water_43 rfl (by decide) ?_
      dsimp only [x_st1, x_st2, x_kill, List.set, List.getElem?_cons_zero, List.getElem?_cons_succ]
      have ok : rOk (v7 2 a b 0 0 0 0) (hs k) := by
        unfold rOk v7; simp <;> omega
      have wf : Hwf (rAp (v7 2 a b 0 0 0 0) (hs k)) := (Hwf.water hh h9 (r := a.toNat) (z := b) (by omega)).1
      have ca := s_act (x.thrown 0) hk 2 a b 0 0 0 0 ok wf
      refine x_aload_n d_M_water_44 rfl rfl ?_
      refine x_iconst (2) d_M_water_45 rfl ⟨by decide, by decide⟩ ?_
      refine x_iload_n d_M_water_46 rfl rfl ?_
      refine x_iload_n d_M_water_47 rfl rfl ?_
      refine x_iconst (0) d_M_water_48 rfl ⟨by decide, by decide⟩ ?_
      refine x_iconst (0) d_M_water_49 rfl ⟨by decide, by decide⟩ ?_
      refine x_iconst (0) d_M_water_50 rfl ⟨by decide, by decide⟩ ?_
      refine x_iconst (0) d_M_water_51 rfl ⟨by decide, by decide⟩ ?_
      refine x_VQ d_M_water_52 e_M_water_M_act ⟨rfl, rfl, Nat.zero_le _, Nat.zero_le _⟩ rfl rfl rfl rfl (Nat.le_of_ble_eq_true rfl) (ca) (fun v τ H => ?_)
      obtain ⟨rfl, G1, rfl, H1, H2, H3⟩ := H
      rw [up_same] at H3
      have lf := (lFrame.fld G (by decide) 0).tr H2
      show x_A y_M_water 55 [some oM, some (xI a), some (xI b), some (xI ((hs k).1 0 a.toNat 2))] [] (S0, G1) 0 0 Q
      refine x_iload_n d_M_water_55 rfl rfl ?_
      refine x_ireturn d_M_water_56 rfl ?_ (Nat.zero_le _) (Nat.zero_le _)
      rw [← hQ, eC, eR, eV]
      exact ⟨_, rfl, rfl, G1, rfl, lf, H3, H1⟩
    · exact f1 ((by have g1_0 := g1_0; first | exact g1_0 | omega))
  · exact f0 ((by have g0_0 := g0_0; first | exact g0_0 | omega))
def c_reading (h : HH) (a b c : Int) : Int := if (f_wi a 0 (h.2 0 - 1) = 0) then 1 else if (f_wi b 0 20 = 0) then 2 else 0
def r_reading (h : HH) (a b c : Int) : Option (Nat → Int) := if c_reading h a b c = 0 ∧ ¬ h.2 8 = 40 then some (v7 13 a b c 0 0 0) else none
def a_reading (h : HH) (a b c : Int) : Int := if c_reading h a b c = 0 then if h.2 8 = 40 then -1 else (h.2 8 : Int) else 0
theorem s_reading (x : mLog R hs base k logged G) (hk : k < 600) (a b c : Int) (hc : c = 0 ∨ c = 1) : x_M y_M_reading [oM, xI a, xI b, xI c] (S0, G) (fun r τ => ∃ v, r = .inl v ∧ mPubA R hs base k logged (c_reading (hs k) a b c) (a_reading (hs k) a b c) (r_reading (hs k) a b c) G v τ) := by
  have hh := x.1.2.2.1 k x.1.1.2.1
  have bb := hh.1
  have r := (x.thrown 0).2.2.1
  have e0 := r.to
  have h9 := h9_of x
  refine x_of 0 rfl (Nat.le_of_ble_eq_true rfl) ?_
  show x_A y_M_reading 0 [some oM, some (xI a), some (xI b), some (xI c)] [] (S0, G) 0 0 _
  generalize hQ : (fun (r : XRes) (τ : XM) => ∃ v, r = .inl v ∧ mPubA R hs base k logged (c_reading (hs k) a b c) (a_reading (hs k) a b c) (r_reading (hs k) a b c) G v τ) = Q
  have f0 : ((f_wi a 0 ((hs k).2 0 - 1) = 0)) → x_A y_M_reading 13 [some oM, some (xI a), some (xI b), some (xI c)] [] (S0, up G o_M 0 0) 0 0 Q := by
    intro z
    have eC : c_reading (hs k) a b c = 1 := by unfold c_reading; rw [if_pos z]
    have eV : a_reading (hs k) a b c = 0 := by unfold a_reading; rw [if_neg (by omega)]
    have eR : r_reading (hs k) a b c = none := by unfold r_reading; rw [if_neg (by omega)]
    refine x_aload_n d_M_reading_13 rfl rfl ?_
    refine x_iconst (1) d_M_reading_14 rfl ⟨by decide, by decide⟩ ?_
    refine x_V1 d_M_reading_15 e_M_reading_M_fails ⟨rfl, rfl, Nat.zero_le _, Nat.zero_le _⟩ rfl rfl rfl rfl (Nat.le_of_ble_eq_true rfl) (s_fails (up G o_M 0 0) 1) ?_
    refine x_ireturn d_M_reading_18 rfl ?_ (Nat.zero_le _) (Nat.zero_le _)
    rw [← hQ, eC, eV, eR]
    exact ⟨_, rfl, mPubA.no x 1 0⟩
  refine x_aload_n d_M_reading_0 rfl rfl ?_
  refine x_iconst (0) d_M_reading_1 rfl ⟨by decide, by decide⟩ ?_
  refine x_putIG (kf := 0) tyX12 d_M_reading_2 rfl rfl rfl in_M f_M_217 tyX12_ok nmX12 (by decide +kernel) rfl ?_
  refine x_aload_n d_M_reading_5 rfl rfl ?_
  refine x_iload_n d_M_reading_6 rfl rfl ?_
  refine x_V1 d_M_reading_7 e_M_reading_M_isPiece ⟨rfl, rfl, Nat.zero_le _, Nat.zero_le _⟩ rfl rfl rfl rfl (Nat.le_of_ble_eq_true rfl) (s_isPiece hh r _) ?_
  refine x_if_ne (19) d_M_reading_10 (by decide) (fun g0_0 => ?_) (fun g0_0 => ?_)
  · have g0_0 : ¬ (f_wi a 0 ((hs k).2 0 - 1) = 0) := g0_0
    have n0 : ¬ ((f_wi a 0 ((hs k).2 0 - 1) = 0)) := by
      intro z
      exact g0_0 z
    have f1 : ((f_wi b 0 20 = 0)) → x_A y_M_reading 26 [some oM, some (xI a), some (xI b), some (xI c)] [] (S0, up G o_M 0 0) 0 0 Q := by
      intro z
      have eC : c_reading (hs k) a b c = 2 := by unfold c_reading; rw [if_neg n0, if_pos z]
      have eV : a_reading (hs k) a b c = 0 := by unfold a_reading; rw [if_neg (by omega)]
      have eR : r_reading (hs k) a b c = none := by unfold r_reading; rw [if_neg (by omega)]
      refine x_aload_n d_M_reading_26 rfl rfl ?_
      refine x_iconst (2) d_M_reading_27 rfl ⟨by decide, by decide⟩ ?_
      refine x_V1 d_M_reading_28 e_M_reading_M_fails ⟨rfl, rfl, Nat.zero_le _, Nat.zero_le _⟩ rfl rfl rfl rfl (Nat.le_of_ble_eq_true rfl) (s_fails (up G o_M 0 0) 2) ?_
      refine x_ireturn d_M_reading_31 rfl ?_ (Nat.zero_le _) (Nat.zero_le _)
      rw [← hQ, eC, eV, eR]
      exact ⟨_, rfl, mPubA.no x 2 0⟩
    refine x_iload_n d_M_reading_19 rfl rfl ?_
    refine x_S1 d_M_reading_20 e_M_reading_M_isMinute ⟨rfl, rfl, Nat.zero_le _, Nat.zero_le _⟩ rfl rfl (Nat.le_of_ble_eq_true rfl) (s_isMinute _ _) ?_
    refine x_if_ne (32) d_M_reading_23 (by decide) (fun g1_0 => ?_) (fun g1_0 => ?_)
    · have g1_0 : ¬ (f_wi b 0 20 = 0) := g1_0
      have n1 : ¬ ((f_wi b 0 20 = 0)) := by
        intro z
        exact g1_0 z
      have eC : c_reading (hs k) a b c = 0 := by unfold c_reading; rw [if_neg n0, if_neg n1]
      have q0_0 := f_wi_1 g0_0
      have q1_0 := f_wi_1 g1_0
      have es := (e0.1 8 (by decide)).1
      refine x_aload_n d_M_reading_32 rfl rfl ?_
      refine x_getIG (kf := 9) d_M_reading_33 rfl rfl rfl in_M f_M_278 ?_
      rw [show up G o_M 0 0 o_M 9 = ((hs k).2 8 : Int) from es]
      refine x_bipush (40) d_M_reading_36 rfl ⟨by decide, by decide⟩ ?_
      refine x_icmp_ne (43) d_M_reading_38 (by decide) (fun gf => ?_) (fun gf => ?_)
      · have eR : r_reading (hs k) a b c = some (v7 13 a b c 0 0 0) := by unfold r_reading; rw [if_pos ⟨eC, by omega⟩]
        have eV : a_reading (hs k) a b c = ((hs k).2 8 : Int) := by unfold a_reading; rw [if_pos eC, if_neg (by omega)]
        have ok : rOk (v7 13 a b c 0 0 0) (hs k) := by
          unfold rOk v7; simp <;> omega
        have wf : Hwf (rAp (v7 13 a b c 0 0 0) (hs k)) := (Hwf.add8 hh h9 (by omega) (v := v6 a b c 0 0 0) (by show 0 ≤ a ∧ a < (hs k).2 0 ∧ 0 ≤ b ∧ b ≤ 20 ∧ 0 ≤ c ∧ c ≤ 1; omega)).1
        have ca := s_act (x.thrown 0) hk 13 a b c 0 0 0 ok wf
        refine x_aload_n d_M_reading_43 rfl rfl ?_
        refine x_bipush (13) d_M_reading_44 rfl ⟨by decide, by decide⟩ ?_
        refine x_iload_n d_M_reading_46 rfl rfl ?_
        refine x_iload_n d_M_reading_47 rfl rfl ?_
        refine x_iload_n d_M_reading_48 rfl rfl ?_
        refine x_if_eq (56) d_M_reading_49 (by decide) (fun gg => ?_) (fun gg => ?_)
        · have gc : c = 0 := by omega
          subst gc
          refine x_iconst (0) d_M_reading_56 rfl ⟨by decide, by decide⟩ ?_
          refine x_iconst (0) d_M_reading_57 rfl ⟨by decide, by decide⟩ ?_
          refine x_iconst (0) d_M_reading_58 rfl ⟨by decide, by decide⟩ ?_
          refine x_iconst (0) d_M_reading_59 rfl ⟨by decide, by decide⟩ ?_
          refine x_VQ d_M_reading_60 e_M_reading_M_act ⟨rfl, rfl, Nat.zero_le _, Nat.zero_le _⟩ rfl rfl rfl rfl (Nat.le_of_ble_eq_true rfl) (ca) (fun v τ H => ?_)
          obtain ⟨rfl, G1, rfl, H1, H2, H3⟩ := H
          rw [up_same] at H3
          have lf := (lFrame.fld G (by decide) 0).tr H2
          have sz := (H1.2.2.1.to.1 8 (by decide)).1
          rw [show (nH hs k (rAp (v7 13 a b 0 0 0 0) (hs k)) (k + 1)).2 8 = (hs k).2 8 + 1 from by unfold nH; rw [if_neg (by omega)]; rfl] at sz
          show x_A y_M_reading 63 [some oM, some (xI a), some (xI b), some (xI 0)] [] (S0, G1) 0 0 Q
          refine x_aload_n d_M_reading_63 rfl rfl ?_
          refine x_getIG (kf := 9) d_M_reading_64 rfl rfl rfl in_M f_M_278 ?_
          rw [show G1 o_M 9 = (((hs k).2 8 + 1 : Nat) : Int) from sz]
          refine x_iconst (1) d_M_reading_67 rfl ⟨by decide, by decide⟩ ?_
          refine x_isubN d_M_reading_68 (by omega) (by omega) ?_
          refine x_ireturn d_M_reading_69 rfl ?_ (Nat.zero_le _) (Nat.zero_le _)
          rw [show (((hs k).2 8 + 1 : Nat) : Int) - 1 = ((hs k).2 8 : Int) by omega]
          rw [← hQ, eC, eR, eV]
          exact ⟨_, rfl, rfl, G1, rfl, lf, H3, H1⟩
        · have gc : c = 1 := by omega
          subst gc
          refine x_iconst (1) d_M_reading_52 rfl ⟨by decide, by decide⟩ ?_
          refine x_goto (57) d_M_reading_53 (by decide) ?_
          refine x_iconst (0) d_M_reading_57 rfl ⟨by decide, by decide⟩ ?_
          refine x_iconst (0) d_M_reading_58 rfl ⟨by decide, by decide⟩ ?_
          refine x_iconst (0) d_M_reading_59 rfl ⟨by decide, by decide⟩ ?_
          refine x_VQ d_M_reading_60 e_M_reading_M_act ⟨rfl, rfl, Nat.zero_le _, Nat.zero_le _⟩ rfl rfl rfl rfl (Nat.le_of_ble_eq_true rfl) (ca) (fun v τ H => ?_)
          obtain ⟨rfl, G1, rfl, H1, H2, H3⟩ := H
          rw [up_same] at H3
          have lf := (lFrame.fld G (by decide) 0).tr H2
          have sz := (H1.2.2.1.to.1 8 (by decide)).1
          rw [show (nH hs k (rAp (v7 13 a b 1 0 0 0) (hs k)) (k + 1)).2 8 = (hs k).2 8 + 1 from by unfold nH; rw [if_neg (by omega)]; rfl] at sz
          show x_A y_M_reading 63 [some oM, some (xI a), some (xI b), some (xI 1)] [] (S0, G1) 0 0 Q
          refine x_aload_n d_M_reading_63 rfl rfl ?_
          refine x_getIG (kf := 9) d_M_reading_64 rfl rfl rfl in_M f_M_278 ?_
          rw [show G1 o_M 9 = (((hs k).2 8 + 1 : Nat) : Int) from sz]
          refine x_iconst (1) d_M_reading_67 rfl ⟨by decide, by decide⟩ ?_
          refine x_isubN d_M_reading_68 (by omega) (by omega) ?_
          refine x_ireturn d_M_reading_69 rfl ?_ (Nat.zero_le _) (Nat.zero_le _)
          rw [show (((hs k).2 8 + 1 : Nat) : Int) - 1 = ((hs k).2 8 : Int) by omega]
          rw [← hQ, eC, eR, eV]
          exact ⟨_, rfl, rfl, G1, rfl, lf, H3, H1⟩
      · have eR : r_reading (hs k) a b c = none := by unfold r_reading; rw [if_neg (fun z => z.2 (by omega))]
        have eV : a_reading (hs k) a b c = -1 := by unfold a_reading; rw [if_pos eC, if_pos (by omega)]
        refine x_iconst (-1) d_M_reading_41 rfl ⟨by decide, by decide⟩ ?_
        refine x_ireturn d_M_reading_42 rfl ?_ (Nat.zero_le _) (Nat.zero_le _)
        rw [← hQ, eC, eR, eV]
        exact ⟨_, rfl, mPubA.full x (-1)⟩
    · exact f1 ((by have g1_0 := g1_0; first | exact g1_0 | omega))
  · exact f0 ((by have g0_0 := g0_0; first | exact g0_0 | omega))
theorem x_shl_p8 {d : Nat} (hd : d ≤ 8) : x_shl 1 d = ((2 ^ d : Nat) : Int) := by
  have key : ∀ d : Fin 9, x_shl 1 (d : Nat) = ((2 ^ (d : Nat) : Nat) : Int) := by decide +kernel
  exact key ⟨d, by omega⟩
theorem p8_le {d : Nat} (hd : d ≤ 8) : 1 ≤ 2 ^ d ∧ 2 ^ d ≤ 256 := by
  have key : ∀ d : Fin 9, 1 ≤ 2 ^ (d : Nat) ∧ 2 ^ (d : Nat) ≤ 256 := by decide +kernel
  exact key ⟨d, by omega⟩
def c_fan (h : HH) (a b c d : Int) : Int := if (f_wi a 0 (h.2 1 - 1) = 0) then 1 else if (f_wi b 1 6 = 0) ∨ (f_wi c 1 1000000 = 0) ∨ (f_wi d 0 (((2 ^ h.2 0 : Nat) : Int) - 1) = 0) then 2 else 0
def r_fan (h : HH) (a b c d : Int) : Option (Nat → Int) := if c_fan h a b c d = 0 ∧ ¬ h.2 3 = 8 then some (v7 4 a b c d 0 0) else none
def a_fan (h : HH) (a b c d : Int) : Int := if c_fan h a b c d = 0 then if h.2 3 = 8 then -1 else (h.2 3 : Int) else 0
theorem s_fan (x : mLog R hs base k logged G) (hk : k < 600) (a b c d : Int) : x_M y_M_fan [oM, xI a, xI b, xI c, xI d] (S0, G) (fun r τ => ∃ v, r = .inl v ∧ mPubA R hs base k logged (c_fan (hs k) a b c d) (a_fan (hs k) a b c d) (r_fan (hs k) a b c d) G v τ) := by
  have hh := x.1.2.2.1 k x.1.1.2.1
  have bb := hh.1
  have r := (x.thrown 0).2.2.1
  have e0 := r.to
  have h9 := h9_of x
  refine x_of 0 rfl (Nat.le_of_ble_eq_true rfl) ?_
  show x_A y_M_fan 0 [some oM, some (xI a), some (xI b), some (xI c), some (xI d)] [] (S0, G) 0 0 _
  generalize hQ : (fun (r : XRes) (τ : XM) => ∃ v, r = .inl v ∧ mPubA R hs base k logged (c_fan (hs k) a b c d) (a_fan (hs k) a b c d) (r_fan (hs k) a b c d) G v τ) = Q
  have f0 : ((f_wi a 0 ((hs k).2 1 - 1) = 0)) → x_A y_M_fan 21 [some oM, some (xI a), some (xI b), some (xI c), some (xI d)] [] (S0, up G o_M 0 0) 0 0 Q := by
    intro z
    have eC : c_fan (hs k) a b c d = 1 := by unfold c_fan; rw [if_pos z]
    have eV : a_fan (hs k) a b c d = 0 := by unfold a_fan; rw [if_neg (by omega)]
    have eR : r_fan (hs k) a b c d = none := by unfold r_fan; rw [if_neg (by omega)]
    refine x_aload_n d_M_fan_21 rfl rfl ?_
    refine x_iconst (1) d_M_fan_22 rfl ⟨by decide, by decide⟩ ?_
    refine x_V1 d_M_fan_23 e_M_fan_M_fails ⟨rfl, rfl, Nat.zero_le _, Nat.zero_le _⟩ rfl rfl rfl rfl (Nat.le_of_ble_eq_true rfl) (s_fails (up G o_M 0 0) 1) ?_
    refine x_ireturn d_M_fan_26 rfl ?_ (Nat.zero_le _) (Nat.zero_le _)
    rw [← hQ, eC, eV, eR]
    exact ⟨_, rfl, mPubA.no x 1 0⟩
  refine x_aload_n d_M_fan_0 rfl rfl ?_
  refine x_iconst (0) d_M_fan_1 rfl ⟨by decide, by decide⟩ ?_
  refine x_putIG (kf := 0) tyX12 d_M_fan_2 rfl rfl rfl in_M f_M_217 tyX12_ok nmX12 (by decide +kernel) rfl ?_
  refine x_iload_n d_M_fan_5 rfl rfl ?_
  refine x_i2l d_M_fan_6 ?_
  refine x_lconst (0) d_M_fan_7 rfl ⟨by decide, by decide⟩ ?_
  refine x_aload_n d_M_fan_8 rfl rfl ?_
  refine x_getIG (kf := 2) d_M_fan_9 rfl rfl rfl in_M f_M_250 ?_
  rw [show up G o_M 0 0 o_M 2 = ((hs k).2 1 : Int) from (e0.1 1 (by decide)).1]
  refine x_iconst (1) d_M_fan_12 rfl ⟨by decide, by decide⟩ ?_
  refine x_isubN d_M_fan_13 (by omega) (by omega) ?_
  refine x_i2l d_M_fan_14 ?_
  refine x_S1 d_M_fan_15 e_M_fan_M_within ⟨rfl, rfl, Nat.zero_le _, Nat.zero_le _⟩ rfl rfl (Nat.le_of_ble_eq_true rfl) (s_within _ _ _ _) ?_
  refine x_if_ne (27) d_M_fan_18 (by decide) (fun g0_0 => ?_) (fun g0_0 => ?_)
  · have g0_0 : ¬ (f_wi a 0 ((hs k).2 1 - 1) = 0) := g0_0
    have n0 : ¬ ((f_wi a 0 ((hs k).2 1 - 1) = 0)) := by
      intro z
      exact g0_0 z
    have f1 : ((f_wi b 1 6 = 0) ∨ (f_wi c 1 1000000 = 0) ∨ (f_wi d 0 (((2 ^ (hs k).2 0 : Nat) : Int) - 1) = 0)) → x_A y_M_fan 70 [some oM, some (xI a), some (xI b), some (xI c), some (xI d)] [] (S0, up G o_M 0 0) 0 0 Q := by
      intro z
      have eC : c_fan (hs k) a b c d = 2 := by unfold c_fan; rw [if_neg n0, if_pos z]
      have eV : a_fan (hs k) a b c d = 0 := by unfold a_fan; rw [if_neg (by omega)]
      have eR : r_fan (hs k) a b c d = none := by unfold r_fan; rw [if_neg (by omega)]
      refine x_aload_n d_M_fan_70 rfl rfl ?_
      refine x_iconst (2) d_M_fan_71 rfl ⟨by decide, by decide⟩ ?_
      refine x_V1 d_M_fan_72 e_M_fan_M_fails ⟨rfl, rfl, Nat.zero_le _, Nat.zero_le _⟩ rfl rfl rfl rfl (Nat.le_of_ble_eq_true rfl) (s_fails (up G o_M 0 0) 2) ?_
      refine x_ireturn d_M_fan_75 rfl ?_ (Nat.zero_le _) (Nat.zero_le _)
      rw [← hQ, eC, eV, eR]
      exact ⟨_, rfl, mPubA.no x 2 0⟩
    refine x_iload_n d_M_fan_27 rfl rfl ?_
    refine x_i2l d_M_fan_28 ?_
    refine x_lconst (1) d_M_fan_29 rfl ⟨by decide, by decide⟩ ?_
    refine x_ldc2 (6) d_M_fan_30 k_M_310 ⟨by decide, by decide⟩ ?_
    refine x_S1 d_M_fan_33 e_M_fan_M_within ⟨rfl, rfl, Nat.zero_le _, Nat.zero_le _⟩ rfl rfl (Nat.le_of_ble_eq_true rfl) (s_within _ _ _ _) ?_
    refine x_if_eq (70) d_M_fan_36 (by decide) (fun g1_0 => ?_) (fun g1_0 => ?_)
    · exact f1 (Or.inl g1_0)
    · have g1_0 : ¬ (f_wi b 1 6 = 0) := g1_0
      refine x_iload_n d_M_fan_39 rfl rfl ?_
      refine x_i2l d_M_fan_40 ?_
      refine x_lconst (1) d_M_fan_41 rfl ⟨by decide, by decide⟩ ?_
      refine x_ldc2 (1000000) d_M_fan_42 k_M_312 ⟨by decide, by decide⟩ ?_
      refine x_S1 d_M_fan_45 e_M_fan_M_within ⟨rfl, rfl, Nat.zero_le _, Nat.zero_le _⟩ rfl rfl (Nat.le_of_ble_eq_true rfl) (s_within _ _ _ _) ?_
      refine x_if_eq (70) d_M_fan_48 (by decide) (fun g1_1 => ?_) (fun g1_1 => ?_)
      · exact f1 (Or.inr (Or.inl g1_1))
      · have g1_1 : ¬ (f_wi c 1 1000000 = 0) := g1_1
        refine x_iload d_M_fan_51 rfl ?_
        refine x_i2l d_M_fan_53 ?_
        refine x_lconst (0) d_M_fan_54 rfl ⟨by decide, by decide⟩ ?_
        refine x_iconst (1) d_M_fan_55 rfl ⟨by decide, by decide⟩ ?_
        refine x_aload_n d_M_fan_56 rfl rfl ?_
        refine x_getIG (kf := 1) d_M_fan_57 rfl rfl rfl in_M f_M_228 ?_
        rw [show up G o_M 0 0 o_M 1 = ((hs k).2 0 : Int) from (e0.1 0 (by decide)).1]
        refine x_ishl d_M_fan_60 ?_
        rw [x_shl_p8 (by omega)]
        have p8 := p8_le (d := (hs k).2 0) (by omega)
        refine x_iconst (1) d_M_fan_61 rfl ⟨by decide, by decide⟩ ?_
        refine x_isubN d_M_fan_62 (by omega) (by omega) ?_
        refine x_i2l d_M_fan_63 ?_
        refine x_S1 d_M_fan_64 e_M_fan_M_within ⟨rfl, rfl, Nat.zero_le _, Nat.zero_le _⟩ rfl rfl (Nat.le_of_ble_eq_true rfl) (s_within _ _ _ _) ?_
        refine x_if_ne (76) d_M_fan_67 (by decide) (fun g1_2 => ?_) (fun g1_2 => ?_)
        · have g1_2 : ¬ (f_wi d 0 (((2 ^ (hs k).2 0 : Nat) : Int) - 1) = 0) := g1_2
          have n1 : ¬ ((f_wi b 1 6 = 0) ∨ (f_wi c 1 1000000 = 0) ∨ (f_wi d 0 (((2 ^ (hs k).2 0 : Nat) : Int) - 1) = 0)) := by
            intro z
            rcases z with z | z | z
            · exact g1_0 z
            · exact g1_1 z
            · exact g1_2 z
          have eC : c_fan (hs k) a b c d = 0 := by unfold c_fan; rw [if_neg n0, if_neg n1]
          have q0_0 := f_wi_1 g0_0
          have q1_0 := f_wi_1 g1_0
          have q1_1 := f_wi_1 g1_1
          have q1_2 := f_wi_1 g1_2
          have es := (e0.1 3 (by decide)).1
          refine x_aload_n d_M_fan_76 rfl rfl ?_
          refine x_getIG (kf := 4) d_M_fan_77 rfl rfl rfl in_M f_M_256 ?_
          rw [show up G o_M 0 0 o_M 4 = ((hs k).2 3 : Int) from es]
          refine x_bipush (8) d_M_fan_80 rfl ⟨by decide, by decide⟩ ?_
          refine x_icmp_ne (87) d_M_fan_82 (by decide) (fun gf => ?_) (fun gf => ?_)
          · have eR : r_fan (hs k) a b c d = some (v7 4 a b c d 0 0) := by unfold r_fan; rw [if_pos ⟨eC, by omega⟩]
            have eV : a_fan (hs k) a b c d = ((hs k).2 3 : Int) := by unfold a_fan; rw [if_pos eC, if_neg (by omega)]
            have ok : rOk (v7 4 a b c d 0 0) (hs k) := by
              unfold rOk v7; simp <;> omega
            have wf : Hwf (rAp (v7 4 a b c d 0 0) (hs k)) := (Hwf.add3 hh h9 (by omega) (v := v6 a b c d 0 0) (by have e : ((2 : Int) ^ (hs k).2 0) = ((2 ^ (hs k).2 0 : Nat) : Int) := (by rw [Int.natCast_pow]; rfl); show 0 ≤ a ∧ a < (hs k).2 1 ∧ 1 ≤ b ∧ b ≤ 6 ∧ 1 ≤ c ∧ c ≤ 1000000 ∧ 0 ≤ d ∧ d < (2 : Int) ^ (hs k).2 0; rw [e]; omega)).1
            have ca := s_act (x.thrown 0) hk 4 a b c d 0 0 ok wf
            refine x_aload_n d_M_fan_87 rfl rfl ?_
            refine x_iconst (4) d_M_fan_88 rfl ⟨by decide, by decide⟩ ?_
            refine x_iload_n d_M_fan_89 rfl rfl ?_
            refine x_iload_n d_M_fan_90 rfl rfl ?_
            refine x_iload_n d_M_fan_91 rfl rfl ?_
            refine x_iload d_M_fan_92 rfl ?_
            refine x_iconst (0) d_M_fan_94 rfl ⟨by decide, by decide⟩ ?_
            refine x_iconst (0) d_M_fan_95 rfl ⟨by decide, by decide⟩ ?_
            refine x_VQ d_M_fan_96 e_M_fan_M_act ⟨rfl, rfl, Nat.zero_le _, Nat.zero_le _⟩ rfl rfl rfl rfl (Nat.le_of_ble_eq_true rfl) (ca) (fun v τ H => ?_)
            obtain ⟨rfl, G1, rfl, H1, H2, H3⟩ := H
            rw [up_same] at H3
            have lf := (lFrame.fld G (by decide) 0).tr H2
            have sz := (H1.2.2.1.to.1 3 (by decide)).1
            rw [show (nH hs k (rAp (v7 4 a b c d 0 0) (hs k)) (k + 1)).2 3 = (hs k).2 3 + 1 from by unfold nH; rw [if_neg (by omega)]; rfl] at sz
            show x_A y_M_fan 99 [some oM, some (xI a), some (xI b), some (xI c), some (xI d)] [] (S0, G1) 0 0 Q
            refine x_aload_n d_M_fan_99 rfl rfl ?_
            refine x_getIG (kf := 4) d_M_fan_100 rfl rfl rfl in_M f_M_256 ?_
            rw [show G1 o_M 4 = (((hs k).2 3 + 1 : Nat) : Int) from sz]
            refine x_iconst (1) d_M_fan_103 rfl ⟨by decide, by decide⟩ ?_
            refine x_isubN d_M_fan_104 (by omega) (by omega) ?_
            refine x_ireturn d_M_fan_105 rfl ?_ (Nat.zero_le _) (Nat.zero_le _)
            rw [show (((hs k).2 3 + 1 : Nat) : Int) - 1 = ((hs k).2 3 : Int) by omega]
            rw [← hQ, eC, eR, eV]
            exact ⟨_, rfl, rfl, G1, rfl, lf, H3, H1⟩
          · have eR : r_fan (hs k) a b c d = none := by unfold r_fan; rw [if_neg (fun z => z.2 (by omega))]
            have eV : a_fan (hs k) a b c d = -1 := by unfold a_fan; rw [if_pos eC, if_pos (by omega)]
            refine x_iconst (-1) d_M_fan_85 rfl ⟨by decide, by decide⟩ ?_
            refine x_ireturn d_M_fan_86 rfl ?_ (Nat.zero_le _) (Nat.zero_le _)
            rw [← hQ, eC, eR, eV]
            exact ⟨_, rfl, mPubA.full x (-1)⟩
        · exact f1 (Or.inr (Or.inr ((by have g1_2 := g1_2; first | exact g1_2 | omega))))
  · exact f0 ((by have g0_0 := g0_0; first | exact g0_0 | omega))
end MPb
