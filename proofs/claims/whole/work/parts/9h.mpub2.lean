/-! the reference: make, gauges -/
section MPb2
variable {R : Nat → Nat → Int} {hs : Nat → HH} {base k logged : Nat} {G : Nat → Nat → Int}
def c_make (h : HH) (a : Int) : Int := if f_wi a 0 (h.2 6 - 1) = 0 then 1 else 0
def r_make (h : HH) (a b : Int) : Option (Nat → Int) := if c_make h a = 0 then some (v7 10 a b 0 0 0 0) else none
def a_make (h : HH) (a : Int) : Int := if c_make h a = 0 then h.1 6 a.toNat 3 else 0
theorem mPubA.no1 (x : mLog R hs base k logged G) (c V : Int) : mPubA R hs base k logged c V none G (some (xI V)) (S0, up G o_M 0 c) :=
  ⟨rfl, _, rfl, lFrame.fld G (by decide) c, up_same _ _ _ _, x.thrown c⟩
theorem s_make (x : mLog R hs base k logged G) (hk : k < 600) (a b : Int) (hb : b = 0 ∨ b = 1) : x_M y_M_make [oM, xI a, xI b] (S0, G) (fun r τ => ∃ v, r = .inl v ∧ mPubA R hs base k logged (c_make (hs k) a) (a_make (hs k) a) (r_make (hs k) a b) G v τ) := by
  have hh := x.1.2.2.1 k x.1.1.2.1
  have bb := hh.1
  have e1 := x.2.2.1.to
  have e0 := (x.thrown 0).2.2.1.to
  have h9 := h9_of x
  refine x_of 1 rfl (Nat.le_of_ble_eq_true rfl) ?_
  show x_A y_M_make 0 [some oM, some (xI a), some (xI b), none] [] (S0, G) 0 0 _
  generalize hQ : (fun (r : XRes) (τ : XM) => ∃ v, r = .inl v ∧ mPubA R hs base k logged (c_make (hs k) a) (a_make (hs k) a) (r_make (hs k) a b) G v τ) = Q
  refine x_aload_n d_M_make_0 rfl rfl ?_
  refine x_iload_n d_M_make_1 rfl rfl ?_
  refine x_i2l d_M_make_2 ?_
  refine x_lconst (0) d_M_make_3 rfl ⟨by decide, by decide⟩ ?_
  refine x_aload_n d_M_make_4 rfl rfl ?_
  refine x_getIG (kf := 7) d_M_make_5 rfl rfl rfl in_M f_M_269 ?_
  rw [show G o_M 7 = ((hs k).2 6 : Int) from (e1.1 6 (by decide)).1]
  refine x_iconst (1) d_M_make_8 rfl ⟨by decide, by decide⟩ ?_
  refine x_isubN d_M_make_9 (by omega) (by omega) ?_
  refine x_i2l d_M_make_10 ?_
  refine x_S1 d_M_make_11 e_M_make_M_within ⟨rfl, rfl, Nat.zero_le _, Nat.zero_le _⟩ rfl rfl (Nat.le_of_ble_eq_true rfl) (s_within _ _ _ _) ?_
  refine x_if_eq (21) d_M_make_14 (by decide) (fun g => ?_) (fun g => ?_)
  · have g : f_wi a 0 ((hs k).2 6 - 1) = 0 := g
    have eC : c_make (hs k) a = 1 := if_pos g
    have eV : a_make (hs k) a = 0 := if_neg (by omega)
    have eR : r_make (hs k) a b = none := if_neg (by omega)
    refine x_iconst (1) d_M_make_21 rfl ⟨by decide, by decide⟩ ?_
    refine x_putIG (kf := 0) tyX12 d_M_make_22 rfl rfl rfl in_M f_M_217 tyX12_ok nmX12 (by decide +kernel) rfl ?_
    refine x_aload_n d_M_make_25 rfl rfl ?_
    refine x_getIG (kf := 0) d_M_make_26 rfl rfl rfl in_M f_M_217 ?_
    rw [up_same]
    refine x_if_le (34) d_M_make_29 (by decide) (fun g2 => ?_) (fun g2 => ?_)
    · omega
    · refine x_iconst (0) d_M_make_32 rfl ⟨by decide, by decide⟩ ?_
      refine x_zreturn d_M_make_33 rfl (by first | exact Or.inl rfl | exact Or.inr rfl | (split <;> first | exact Or.inl rfl | exact Or.inr rfl) | assumption) ?_ (Nat.zero_le _) (Nat.zero_le _)
      rw [← hQ, eC, eV, eR]
      exact ⟨_, rfl, mPubA.no1 x 1 0⟩
  · have g : ¬ f_wi a 0 ((hs k).2 6 - 1) = 0 := g
    have q := f_wi_1 g
    have eC : c_make (hs k) a = 0 := if_neg g
    have eV : a_make (hs k) a = (hs k).1 6 a.toNat 3 := if_pos eC
    have eR : r_make (hs k) a b = some (v7 10 a b 0 0 0 0) := if_pos eC
    have b6 := hh.2.2.2.2.2.2.2.1 a.toNat (by omega)
    have hz : (hs k).1 6 a.toNat 3 = 0 ∨ (hs k).1 6 a.toNat 3 = 1 := by omega
    have ok : rOk (v7 10 a b 0 0 0 0) (hs k) := by
      unfold rOk v7; simp <;> omega
    have wf : Hwf (rAp (v7 10 a b 0 0 0 0) (hs k)) := (Hwf.made hh h9 (r := a.toNat) (z := if b = 1 then 1 else 0) (by split <;> omega)).1
    have ca := s_act (x.thrown 0) hk 10 a b 0 0 0 0 ok wf
    refine x_iconst (0) d_M_make_17 rfl ⟨by decide, by decide⟩ ?_
    refine x_goto (22) d_M_make_18 (by decide) ?_
    refine x_putIG (kf := 0) tyX12 d_M_make_22 rfl rfl rfl in_M f_M_217 tyX12_ok nmX12 (by decide +kernel) rfl ?_
    refine x_aload_n d_M_make_25 rfl rfl ?_
    refine x_getIG (kf := 0) d_M_make_26 rfl rfl rfl in_M f_M_217 ?_
    rw [up_same]
    refine x_if_le (34) d_M_make_29 (by decide) (fun g2 => ?_) (fun g2 => ?_)
    · refine x_aload_n d_M_make_34 rfl rfl ?_
      refine x_getF (kf := 43) d_M_make_35 rfl rfl rfl in_M f_M_107 ?_
      refine x_iload_n d_M_make_38 rfl rfl ?_
      refine x_baldN (a.toNat) d_M_make_39 rfl (by omega) (by omega) ?_
      rw [show up G o_M 0 0 m_isMade a.toNat = (hs k).1 6 a.toNat 3 from (e0.1 6 (by decide)).2 3 (by decide) _ (by omega)]
      refine x_istore_n d_M_make_40 rfl (by decide) ?_
      dsimp only [x_st1, x_st2, x_kill, List.set, List.getElem?_cons_zero, List.getElem?_cons_succ]
      refine x_aload_n d_M_make_41 rfl rfl ?_
      refine x_bipush (10) d_M_make_42 rfl ⟨by decide, by decide⟩ ?_
      refine x_iload_n d_M_make_44 rfl rfl ?_
      refine x_iload_n d_M_make_45 rfl rfl ?_
      rcases hb with rfl | rfl
      · refine x_if_eq (53) d_M_make_46 (by decide) (fun g3 => ?_) (fun g3 => ?_)
        · refine x_iconst (0) d_M_make_53 rfl ⟨by decide, by decide⟩ ?_
          refine x_iconst (0) d_M_make_54 rfl ⟨by decide, by decide⟩ ?_
          refine x_iconst (0) d_M_make_55 rfl ⟨by decide, by decide⟩ ?_
          refine x_iconst (0) d_M_make_56 rfl ⟨by decide, by decide⟩ ?_
          refine x_iconst (0) d_M_make_57 rfl ⟨by decide, by decide⟩ ?_
          refine x_VQ d_M_make_58 e_M_make_M_act ⟨rfl, rfl, Nat.zero_le _, Nat.zero_le _⟩ rfl rfl rfl rfl (Nat.le_of_ble_eq_true rfl) (ca) (fun v τ H => ?_)
          obtain ⟨rfl, G1, rfl, H1, H2, H3⟩ := H
          rw [up_same] at H3
          show x_A y_M_make 61 [some oM, some (xI a), some (xI 0), some (xI ((hs k).1 6 a.toNat 3))] [] (S0, G1) 0 0 Q
          refine x_iload_n d_M_make_61 rfl rfl ?_
          refine x_zreturn d_M_make_62 rfl (by first | exact Or.inl rfl | exact Or.inr rfl | (split <;> first | exact Or.inl rfl | exact Or.inr rfl) | assumption) ?_ (Nat.zero_le _) (Nat.zero_le _)
          rw [← hQ, eC, eV, eR]
          exact ⟨_, rfl, rfl, G1, rfl, (lFrame.fld G (by decide) 0).tr H2, H3, H1⟩
        · exact absurd rfl g3
      · refine x_if_eq (53) d_M_make_46 (by decide) (fun g3 => ?_) (fun g3 => ?_)
        · cases g3
        · refine x_iconst (1) d_M_make_49 rfl ⟨by decide, by decide⟩ ?_
          refine x_goto (54) d_M_make_50 (by decide) ?_
          refine x_iconst (0) d_M_make_54 rfl ⟨by decide, by decide⟩ ?_
          refine x_iconst (0) d_M_make_55 rfl ⟨by decide, by decide⟩ ?_
          refine x_iconst (0) d_M_make_56 rfl ⟨by decide, by decide⟩ ?_
          refine x_iconst (0) d_M_make_57 rfl ⟨by decide, by decide⟩ ?_
          refine x_VQ d_M_make_58 e_M_make_M_act ⟨rfl, rfl, Nat.zero_le _, Nat.zero_le _⟩ rfl rfl rfl rfl (Nat.le_of_ble_eq_true rfl) (ca) (fun v τ H => ?_)
          obtain ⟨rfl, G1, rfl, H1, H2, H3⟩ := H
          rw [up_same] at H3
          show x_A y_M_make 61 [some oM, some (xI a), some (xI 1), some (xI ((hs k).1 6 a.toNat 3))] [] (S0, G1) 0 0 Q
          refine x_iload_n d_M_make_61 rfl rfl ?_
          refine x_zreturn d_M_make_62 rfl (by first | exact Or.inl rfl | exact Or.inr rfl | (split <;> first | exact Or.inl rfl | exact Or.inr rfl) | assumption) ?_ (Nat.zero_le _) (Nat.zero_le _)
          rw [← hQ, eC, eV, eR]
          exact ⟨_, rfl, rfl, G1, rfl, (lFrame.fld G (by decide) 0).tr H2, H3, H1⟩
    · omega
def c_gau (h : HH) (a b c : Int) : Int := if f_wi a 0 (((2 ^ h.2 0 : Nat) : Int) - 1) = 0 ∨ f_wi b 1 1000000 = 0 ∨ f_wi c 0 5 = 0 then 1 else 0
def r_gau (h : HH) (a b c : Int) : Option (Nat → Int) := if c_gau h a b c = 0 then some (v7 11 a b c 0 0 0) else none
def mPubV (R : Nat → Nat → Int) (hs : Nat → HH) (base k logged : Nat) (code : Int) (rec : Option (Nat → Int)) (G : Nat → Nat → Int) : Option XV → XM → Prop := fun v τ => v = none ∧ ∃ G', τ = (S0, G') ∧ lFrame G G' ∧ G' o_M 0 = code ∧ aRes R hs base k logged rec G'
theorem s_gauges (x : mLog R hs base k logged G) (hk : k < 600) (a b c : Int) : x_M y_M_gauges [oM, xI a, xI b, xI c] (S0, G) (fun r τ => ∃ v, r = .inl v ∧ mPubV R hs base k logged (c_gau (hs k) a b c) (r_gau (hs k) a b c) G v τ) := by
  have hh := x.1.2.2.1 k x.1.1.2.1
  have bb := hh.1
  have e1 := x.2.2.1.to
  have h9 := h9_of x
  have p8 := p8_le (d := (hs k).2 0) (by omega)
  refine x_of 0 rfl (Nat.le_of_ble_eq_true rfl) ?_
  show x_A y_M_gauges 0 [some oM, some (xI a), some (xI b), some (xI c)] [] (S0, G) 0 0 _
  generalize hQ : (fun (r : XRes) (τ : XM) => ∃ v, r = .inl v ∧ mPubV R hs base k logged (c_gau (hs k) a b c) (r_gau (hs k) a b c) G v τ) = Q
  have bad : (f_wi a 0 (((2 ^ (hs k).2 0 : Nat) : Int) - 1) = 0 ∨ f_wi b 1 1000000 = 0 ∨ f_wi c 0 5 = 0) → x_A y_M_gauges 47 [some oM, some (xI a), some (xI b), some (xI c)] [xR (some o_M)] (S0, G) 0 0 Q := by
    intro z
    have eC : c_gau (hs k) a b c = 1 := if_pos z
    have eR : r_gau (hs k) a b c = none := if_neg (by omega)
    refine x_iconst (1) d_M_gauges_47 rfl ⟨by decide, by decide⟩ ?_
    refine x_putIG (kf := 0) tyX12 d_M_gauges_48 rfl rfl rfl in_M f_M_217 tyX12_ok nmX12 (by decide +kernel) rfl ?_
    refine x_aload_n d_M_gauges_51 rfl rfl ?_
    refine x_getIG (kf := 0) d_M_gauges_52 rfl rfl rfl in_M f_M_217 ?_
    rw [up_same]
    refine x_if_ne (70) d_M_gauges_55 (by decide) (fun g2 => ?_) (fun g2 => ?_)
    · refine x_return d_M_gauges_70 rfl ?_ (Nat.zero_le _) (Nat.zero_le _)
      rw [← hQ, eC, eR]
      exact ⟨_, rfl, rfl, _, rfl, lFrame.fld G (by decide) 1, up_same _ _ _ _, x.thrown 1⟩
    · omega
  refine x_aload_n d_M_gauges_0 rfl rfl ?_
  refine x_iload_n d_M_gauges_1 rfl rfl ?_
  refine x_i2l d_M_gauges_2 ?_
  refine x_lconst (0) d_M_gauges_3 rfl ⟨by decide, by decide⟩ ?_
  refine x_iconst (1) d_M_gauges_4 rfl ⟨by decide, by decide⟩ ?_
  refine x_aload_n d_M_gauges_5 rfl rfl ?_
  refine x_getIG (kf := 1) d_M_gauges_6 rfl rfl rfl in_M f_M_228 ?_
  rw [show G o_M 1 = ((hs k).2 0 : Int) from (e1.1 0 (by decide)).1]
  refine x_ishl d_M_gauges_9 ?_
  rw [x_shl_p8 (by omega)]
  refine x_iconst (1) d_M_gauges_10 rfl ⟨by decide, by decide⟩ ?_
  refine x_isubN d_M_gauges_11 (by omega) (by omega) ?_
  refine x_i2l d_M_gauges_12 ?_
  refine x_S1 d_M_gauges_13 e_M_gauges_M_within ⟨rfl, rfl, Nat.zero_le _, Nat.zero_le _⟩ rfl rfl (Nat.le_of_ble_eq_true rfl) (s_within _ _ _ _) ?_
  refine x_if_eq (47) d_M_gauges_16 (by decide) (fun g1 => ?_) (fun g1 => ?_)
  · exact bad (Or.inl g1)
  · have g1 : ¬ f_wi a 0 (((2 ^ (hs k).2 0 : Nat) : Int) - 1) = 0 := g1
    refine x_iload_n d_M_gauges_19 rfl rfl ?_
    refine x_i2l d_M_gauges_20 ?_
    refine x_lconst (1) d_M_gauges_21 rfl ⟨by decide, by decide⟩ ?_
    refine x_ldc2 (1000000) d_M_gauges_22 k_M_312 ⟨by decide, by decide⟩ ?_
    refine x_S1 d_M_gauges_25 e_M_gauges_M_within ⟨rfl, rfl, Nat.zero_le _, Nat.zero_le _⟩ rfl rfl (Nat.le_of_ble_eq_true rfl) (s_within _ _ _ _) ?_
    refine x_if_eq (47) d_M_gauges_28 (by decide) (fun g2 => ?_) (fun g2 => ?_)
    · exact bad (Or.inr (Or.inl g2))
    · have g2 : ¬ f_wi b 1 1000000 = 0 := g2
      refine x_iload_n d_M_gauges_31 rfl rfl ?_
      refine x_i2l d_M_gauges_32 ?_
      refine x_lconst (0) d_M_gauges_33 rfl ⟨by decide, by decide⟩ ?_
      refine x_ldc2 (5) d_M_gauges_34 k_M_323 ⟨by decide, by decide⟩ ?_
      refine x_S1 d_M_gauges_37 e_M_gauges_M_within ⟨rfl, rfl, Nat.zero_le _, Nat.zero_le _⟩ rfl rfl (Nat.le_of_ble_eq_true rfl) (s_within _ _ _ _) ?_
      refine x_if_eq (47) d_M_gauges_40 (by decide) (fun g3 => ?_) (fun g3 => ?_)
      · exact bad (Or.inr (Or.inr g3))
      · have g3 : ¬ f_wi c 0 5 = 0 := g3
        have q1 := f_wi_1 g1
        have q2 := f_wi_1 g2
        have q3 := f_wi_1 g3
        have eC : c_gau (hs k) a b c = 0 := if_neg (fun z => by
          rcases z with z | z | z
          · exact g1 z
          · exact g2 z
          · exact g3 z)
        have eR : r_gau (hs k) a b c = some (v7 11 a b c 0 0 0) := if_pos eC
        have ok : rOk (v7 11 a b c 0 0 0) (hs k) := by
          unfold rOk v7; simp <;> omega
        have e : ((2 : Int) ^ (hs k).2 0) = ((2 ^ (hs k).2 0 : Nat) : Int) := by rw [Int.natCast_pow]; rfl
        have wf : Hwf (rAp (v7 11 a b c 0 0 0) (hs k)) := (Hwf.gauge hh h9 (x := a) (y := b) (z := c) (by rw [e]; omega) (by omega) (by omega)).1
        have ca := s_act (x.thrown 0) hk 11 a b c 0 0 0 ok wf
        refine x_iconst (0) d_M_gauges_43 rfl ⟨by decide, by decide⟩ ?_
        refine x_goto (48) d_M_gauges_44 (by decide) ?_
        refine x_putIG (kf := 0) tyX12 d_M_gauges_48 rfl rfl rfl in_M f_M_217 tyX12_ok nmX12 (by decide +kernel) rfl ?_
        refine x_aload_n d_M_gauges_51 rfl rfl ?_
        refine x_getIG (kf := 0) d_M_gauges_52 rfl rfl rfl in_M f_M_217 ?_
        rw [up_same]
        refine x_if_ne (70) d_M_gauges_55 (by decide) (fun g4 => ?_) (fun g4 => ?_)
        · exact absurd rfl g4
        · refine x_aload_n d_M_gauges_58 rfl rfl ?_
          refine x_bipush (11) d_M_gauges_59 rfl ⟨by decide, by decide⟩ ?_
          refine x_iload_n d_M_gauges_61 rfl rfl ?_
          refine x_iload_n d_M_gauges_62 rfl rfl ?_
          refine x_iload_n d_M_gauges_63 rfl rfl ?_
          refine x_iconst (0) d_M_gauges_64 rfl ⟨by decide, by decide⟩ ?_
          refine x_iconst (0) d_M_gauges_65 rfl ⟨by decide, by decide⟩ ?_
          refine x_iconst (0) d_M_gauges_66 rfl ⟨by decide, by decide⟩ ?_
          refine x_VQ d_M_gauges_67 e_M_gauges_M_act ⟨rfl, rfl, Nat.zero_le _, Nat.zero_le _⟩ rfl rfl rfl rfl (Nat.le_of_ble_eq_true rfl) (ca) (fun v τ H => ?_)
          obtain ⟨rfl, G1, rfl, H1, H2, H3⟩ := H
          rw [up_same] at H3
          show x_A y_M_gauges 70 [some oM, some (xI a), some (xI b), some (xI c)] [] (S0, G1) 0 0 Q
          refine x_return d_M_gauges_70 rfl ?_ (Nat.zero_le _) (Nat.zero_le _)
          rw [← hQ, eC, eR]
          exact ⟨_, rfl, rfl, G1, rfl, (lFrame.fld G (by decide) 0).tr H2, H3, H1⟩
end MPb2
