/-! the reference: side, fit -/
/-- R: the least of all sides that are worth the least -/
def isSide (F : (Nat → Bool) → Int) (R : Nat → Bool) : Prop := nOut R ∧ F R = mv F ∧ ∀ S, nOut S → F S = mv F → ∀ n, R n = true → S n = true
theorem isSide.uniq {F : (Nat → Bool) → Int} {R T : Nat → Bool} (a : isSide F R) (b : isSide F T) : R = T := by
  funext n
  have h1 := a.2.2 T b.1 b.2.1 n
  have h2 := b.2.2 R a.1 a.2.1 n
  cases q : R n <;> cases p : T n <;> simp_all
noncomputable def f_side (F : (Nat → Bool) → Int) : Nat → Bool := Classical.epsilon (isSide F)
theorem f_side_eq {F : (Nat → Bool) → Int} {R : Nat → Bool} (a : isSide F R) : f_side F = R := (Classical.epsilon_spec (p := isSide F) ⟨R, a⟩).uniq a
theorem nR.side {N : NT} {L : Nat → Int} {V : Int} {R : Nat → Bool} {F : (Nat → Bool) → Int} (ok : fOK N L V) (ec : ∀ S, cut N S = F S) (mi : isMin F V) (ex : ∃ S, nOut S ∧ nShut N L S) (a : nR N L R) : isSide F R := by
  obtain ⟨S, s1, s2⟩ := ex
  have ro : nOut R := ⟨a.1, by
    cases q : R 337 with
    | false => rfl
    | true =>
      have := a.2.2 S s1.1 s2 337 q
      rw [s1.2] at this
      cases this⟩
  have ev : mv F = V := mv_eq mi
  refine ⟨ro, by rw [ev, ← ec]; exact (f_eq ok ro a.2.1).symm, fun T t1 t2 n hn => a.2.2 T t1.1 (f_shut ok t1 (by rw [ec, t2, ev])) n hn⟩
def c_side (h : HH) (a b k f by' m : Int) : Int := if f_wi f (-1) (h.2 2 - 1) = 0 then 1 else if f_co a b k = 0 ∨ f_wi by' 0 20 = 0 ∨ f_wi m 0 by' = 0 then 2 else 0
noncomputable def v_side (h : HH) (a b k f by' m : Int) : Int := if c_side h a b k f by' m = 0 then sN (f_side (cutF h (f_sh h (a, b, k, f)) by'.toNat (h.1 9 0 1).toNat (f_made h (h.2 6)))) m.toNat 16 else 0
theorem s_side {h : HH} {G : Nat → Nat → Int} (hh : Hwf h) (r0 : mRep h G) (a b k f by' m : Int) : x_M y_M_side [oM, xI a, xI b, xI k, xI f, xI by', xI m] (S0, G) (fun r τ => ∃ v, r = .inl v ∧ mAns G (c_side h a b k f by' m) (v_side h a b k f by' m) v τ) := by
  have r := r0.th 0
  refine x_of 1 rfl (Nat.le_of_ble_eq_true rfl) ?_
  show x_A y_M_side 0 [some oM, some (xI a), some (xI b), some (xI k), some (xI f), some (xI by'), some (xI m), none] [] (S0, G) 0 0 _
  generalize hV : v_side h a b k f by' m = V
  generalize hC : c_side h a b k f by' m = C
  generalize hQ : (fun (r : XRes) (τ : XM) => ∃ v, r = .inl v ∧ mAns G C V v τ) = Q
  have hV0 : C ≠ 0 → V = 0 := fun z => by rw [← hV]; unfold v_side; rw [hC, if_neg z]
  refine x_aload_n d_M_side_0 rfl rfl ?_
  refine x_iconst (0) d_M_side_1 rfl ⟨by decide, by decide⟩ ?_
  refine x_putIG (kf := 0) tyX12 d_M_side_2 rfl rfl rfl in_M f_M_217 tyX12_ok nmX12 (by decide +kernel) rfl ?_
  refine x_aload_n d_M_side_5 rfl rfl ?_
  refine x_iload d_M_side_6 rfl ?_
  refine x_V1 d_M_side_8 e_M_side_M_isFire ⟨rfl, rfl, Nat.zero_le _, Nat.zero_le _⟩ rfl rfl rfl rfl (Nat.le_of_ble_eq_true rfl) (s_isFire hh r _) ?_
  refine x_if_ne (20) d_M_side_11 (by decide) (fun c1 => ?_) (fun c1 => ?_)
  · refine x_iload_n d_M_side_20 rfl rfl ?_
    refine x_iload_n d_M_side_21 rfl rfl ?_
    refine x_iload_n d_M_side_22 rfl rfl ?_
    refine x_S1 d_M_side_23 e_M_side_M_isCourse ⟨rfl, rfl, Nat.zero_le _, Nat.zero_le _⟩ rfl rfl (Nat.le_of_ble_eq_true rfl) (s_isCourse _ _ _ _) ?_
    have two : (f_co a b k = 0 ∨ f_wi by' 0 20 = 0 ∨ f_wi m 0 by' = 0) → x_A y_M_side 50 [some oM, some (xI a), some (xI b), some (xI k), some (xI f), some (xI by'), some (xI m), none] [] (S0, up G o_M 0 0) 0 0 Q := by
      intro z
      have eC : C = 2 := by rw [← hC]; unfold c_side; rw [if_neg c1, if_pos z]
      refine x_aload_n d_M_side_50 rfl rfl ?_
      refine x_iconst (2) d_M_side_51 rfl ⟨by decide, by decide⟩ ?_
      refine x_V1 d_M_side_52 e_M_side_M_fails ⟨rfl, rfl, Nat.zero_le _, Nat.zero_le _⟩ rfl rfl rfl rfl (Nat.le_of_ble_eq_true rfl) (s_fails (up G o_M 0 0) 2) ?_
      refine x_ireturn d_M_side_55 rfl ?_ (Nat.zero_le _) (Nat.zero_le _)
      rw [← hQ, hV0 (by omega)]
      exact ⟨_, rfl, mAns.no 0 eC⟩
    refine x_if_eq (50) d_M_side_26 (by decide) (fun c2 => ?_) (fun c2 => ?_)
    · exact two (Or.inl c2)
    · refine x_iload d_M_side_29 rfl ?_
      refine x_S1 d_M_side_31 e_M_side_M_isMinute ⟨rfl, rfl, Nat.zero_le _, Nat.zero_le _⟩ rfl rfl (Nat.le_of_ble_eq_true rfl) (s_isMinute _ _) ?_
      refine x_if_eq (50) d_M_side_34 (by decide) (fun c3 => ?_) (fun c3 => ?_)
      · exact two (Or.inr (Or.inl c3))
      · refine x_iload d_M_side_37 rfl ?_
        refine x_i2l d_M_side_39 ?_
        refine x_lconst (0) d_M_side_40 rfl ⟨by decide, by decide⟩ ?_
        refine x_iload d_M_side_41 rfl ?_
        refine x_i2l d_M_side_43 ?_
        refine x_S1 d_M_side_44 e_M_side_M_within ⟨rfl, rfl, Nat.zero_le _, Nat.zero_le _⟩ rfl rfl (Nat.le_of_ble_eq_true rfl) (s_within _ _ _ _) ?_
        refine x_if_ne (56) d_M_side_47 (by decide) (fun c4 => ?_) (fun c4 => ?_)
        · have c4 : f_wi m 0 by' ≠ 0 := c4
          have q1 := f_wi_1 c1
          have q3 := f_wi_1 c3
          have q4 := f_wi_1 c4
          obtain ⟨y, rfl⟩ : ∃ y : Nat, by' = y := ⟨by'.toNat, by omega⟩
          obtain ⟨x, rfl⟩ : ∃ x : Nat, m = x := ⟨m.toNat, by omega⟩
          have eC : C = 0 := by rw [← hC]; unfold c_side; rw [if_neg c1, if_neg (fun z => by rcases z with z | z | z <;> omega)]
          refine x_aload_n d_M_side_56 rfl rfl ?_
          refine x_iload_n d_M_side_57 rfl rfl ?_
          refine x_iload_n d_M_side_58 rfl rfl ?_
          refine x_iload_n d_M_side_59 rfl rfl ?_
          refine x_iload d_M_side_60 rfl ?_
          refine x_iload d_M_side_62 rfl ?_
          refine x_VQ d_M_side_64 e_M_side_M_outBy ⟨rfl, rfl, Nat.zero_le _, Nat.zero_le _⟩ rfl rfl rfl rfl (Nat.le_of_ble_eq_true rfl) (s_outBy hh r (a, b, k, f) (by show -1 ≤ f ∧ f < _; omega) y (by omega)) (fun v τ hv => ?_)
          obtain ⟨G1, N, L, W, rfl, f1, sm, w1, w2, w3, w4, w5, w6, rfl⟩ := hv
          show x_A y_M_side 67 [some oM, some (xI a), some (xI b), some (xI k), some (xI f), some (xI (y : Int)), some (xI (x : Int)), none] [xI W] (S0, G1) 0 0 Q
          have hL : ∀ e, e < 2 * N.1 → 0 ≤ L e := fun e he' => by have := lCut_bd w1 w3 e; rw [lCut_eq he'] at this; exact this.1
          refine x_istore d_M_side_67 (by decide) ?_
          dsimp only [x_st1, x_st2, x_kill, List.set, List.getElem?_cons_zero, List.getElem?_cons_succ]
          refine x_aload_n d_M_side_69 rfl rfl ?_
          refine x_iload d_M_side_70 rfl ?_
          refine x_VQ d_M_side_72 e_M_side_M_sideOf ⟨rfl, rfl, Nat.zero_le _, Nat.zero_le _⟩ rfl rfl rfl rfl (Nat.le_of_ble_eq_true rfl) (s_sideOf w1 w2 hL y (by omega)) (fun v τ hv => ?_)
          obtain ⟨rfl, G2, R, rfl, g1, g2, g3⟩ := hv
          show x_A y_M_side 75 [some oM, some (xI a), some (xI b), some (xI k), some (xI f), some (xI (y : Int)), some (xI (x : Int)), some (xI W)] [] (S0, G2) 0 0 Q
          have es := f_side_eq (g2.side w3 w4 w5 w6)
          have eV : G2 m_sides x = V := by
            rw [← hV]; unfold v_side
            rw [hC, if_pos eC, Int.toNat_natCast, Int.toNat_natCast, es, g3 x (by omega), if_pos (by omega)]
          refine x_aload_n d_M_side_75 rfl rfl ?_
          refine x_getF (kf := 69) d_M_side_76 rfl rfl rfl in_M f_M_174 ?_
          refine x_iload d_M_side_79 rfl ?_
          refine x_ialdN (x) d_M_side_81 rfl (by omega) (by omega) ?_
          rw [eV]
          refine x_ireturn d_M_side_82 rfl ?_ (Nat.zero_le _) (Nat.zero_le _)
          rw [← hQ, eC]
          refine ⟨_, rfl, G2, rfl, f1.p.tr ⟨fun i _ h2 => g1 i ?_ ?_ ?_, fun k _ => by rw [g1 o_M (by decide) (by decide) (by decide)]⟩, rfl⟩
          · intro z; subst z; revert h2; decide
          · intro z; subst z; revert h2; decide
          · intro z; subst z; revert h2; decide
        · exact two (Or.inr (Or.inr c4))
  · have eC : C = 1 := by rw [← hC]; unfold c_side; rw [if_pos c1]
    refine x_aload_n d_M_side_14 rfl rfl ?_
    refine x_iconst (1) d_M_side_15 rfl ⟨by decide, by decide⟩ ?_
    refine x_V1 d_M_side_16 e_M_side_M_fails ⟨rfl, rfl, Nat.zero_le _, Nat.zero_le _⟩ rfl rfl rfl rfl (Nat.le_of_ble_eq_true rfl) (s_fails (up G o_M 0 0) 1) ?_
    refine x_ireturn d_M_side_19 rfl ?_ (Nat.zero_le _) (Nat.zero_le _)
    rw [← hQ, hV0 (by omega)]
    exact ⟨_, rfl, mAns.no 0 eC⟩
/-- does the walk so many times as long fit the first n drills -/
noncomputable def f_fits (h : HH) (t : Nat) : Nat → Bool
  | 0 => true
  | d + 1 => f_fits h t d && decide (h.1 7 d 1 ≤ mv (cutF h (f_sh h (0, 0, 0, -1)) (h.1 7 d 0).toNat t (f_made h (h.2 6))))
theorem f_fits_s (h : HH) (t d : Nat) : f_fits h t (d + 1) = (f_fits h t d && decide (h.1 7 d 1 ≤ mv (cutF h (f_sh h (0, 0, 0, -1)) (h.1 7 d 0).toNat t (f_made h (h.2 6))))) := rfl
theorem f_fits_0 {h : HH} {t d n : Nat} (a : f_fits h t d = false) (b : d ≤ n) : f_fits h t n = false := by
  induction b with
  | refl => exact a
  | step b ih => rw [f_fits_s, ih, Bool.false_and]
noncomputable def v_fit (h : HH) : Nat → Int
  | 0 => 0
  | t + 1 => x_or (v_fit h t) (if f_fits h (t + 1) (h.2 7) = true then x_shl 1 t else 0)
theorem s_fit {h : HH} {G : Nat → Nat → Int} (hh : Hwf h) (r0 : mRep h G) : x_M y_M_fit [oM] (S0, G) (fun r τ => ∃ v, r = .inl v ∧ mAns G 0 (v_fit h 3) v τ) := by
  have bb := hh.1
  have r := r0.th 0
  refine x_of 4 rfl (Nat.le_of_ble_eq_true rfl) ?_
  show x_A y_M_fit 0 [some oM, none, none, none, none] [] (S0, G) 0 0 _
  generalize hQ : (fun (r : XRes) (τ : XM) => ∃ v, r = .inl v ∧ mAns G 0 (v_fit h 3) v τ) = Q
  refine x_aload_n d_M_fit_0 rfl rfl ?_
  refine x_iconst (0) d_M_fit_1 rfl ⟨by decide, by decide⟩ ?_
  refine x_putIG (kf := 0) tyX12 d_M_fit_2 rfl rfl rfl in_M f_M_217 tyX12_ok nmX12 (by decide +kernel) rfl ?_
  refine x_aload_n d_M_fit_5 rfl rfl ?_
  refine x_iconst (0) d_M_fit_6 rfl ⟨by decide, by decide⟩ ?_
  refine x_iconst (0) d_M_fit_7 rfl ⟨by decide, by decide⟩ ?_
  refine x_iconst (0) d_M_fit_8 rfl ⟨by decide, by decide⟩ ?_
  refine x_iconst (-1) d_M_fit_9 rfl ⟨by decide, by decide⟩ ?_
  refine x_VQ d_M_fit_10 e_M_fit_M_burns ⟨rfl, rfl, Nat.zero_le _, Nat.zero_le _⟩ rfl rfl rfl rfl (Nat.le_of_ble_eq_true rfl) (s_burns hh r (0, 0, 0, -1) (by show -1 ≤ (-1 : Int) ∧ (-1 : Int) < _; omega)) (fun v τ hv => ?_)
  obtain ⟨rfl, G1, rfl, f1, sm⟩ := hv
  show x_A y_M_fit 13 [some oM, none, none, none, none] [] (S0, G1) 0 0 Q
  refine x_iconst (0) d_M_fit_13 rfl ⟨by decide, by decide⟩ ?_
  refine x_istore_n d_M_fit_14 rfl (by decide) ?_
  dsimp only [x_st1, x_st2, x_kill, List.set, List.getElem?_cons_zero, List.getElem?_cons_succ]
  refine x_iconst (1) d_M_fit_15 rfl ⟨by decide, by decide⟩ ?_
  refine x_istore_n d_M_fit_16 rfl (by decide) ?_
  dsimp only [x_st1, x_st2, x_kill, List.set, List.getElem?_cons_zero, List.getElem?_cons_succ]
  have all : ∀ G', nFrame G1 G' → x_A y_M_fit 17 [some oM, some (xI (v_fit h 0)), some (xI ((0 + 1 : Nat) : Int)), none, none] [] (S0, G') 0 0 Q := by
    refine x_up_to (P := fun t => ∀ G', nFrame G1 G' → x_A y_M_fit 17 [some oM, some (xI (v_fit h t)), some (xI ((t + 1 : Nat) : Int)), none, none] [] (S0, G') 0 0 Q) 0 3 (Nat.zero_le _) ?_ (fun t _ ht k => ?_)
    · intro G2 f2
      refine x_iload_n d_M_fit_17 rfl rfl ?_
      refine x_iconst (3) d_M_fit_18 rfl ⟨by decide, by decide⟩ ?_
      refine x_icmp_gt (100) d_M_fit_19 (by decide) (fun c => ?_) (fun c => ?_)
      · refine x_iload_n d_M_fit_100 rfl rfl ?_
        refine x_ireturn d_M_fit_101 rfl ?_ (Nat.zero_le _) (Nat.zero_le _)
        rw [← hQ]
        exact ⟨_, rfl, G2, rfl, (bFrame.of f1 f2).p, rfl⟩
      · omega
    · intro G2 f2
      refine x_iload_n d_M_fit_17 rfl rfl ?_
      refine x_iconst (3) d_M_fit_18 rfl ⟨by decide, by decide⟩ ?_
      refine x_icmp_gt (100) d_M_fit_19 (by decide) (fun c => ?_) (fun c => ?_)
      · omega
      · refine x_iconst (1) d_M_fit_22 rfl ⟨by decide, by decide⟩ ?_
        refine x_istore_n d_M_fit_23 rfl (by decide) ?_
        dsimp only [x_st1, x_st2, x_kill, List.set, List.getElem?_cons_zero, List.getElem?_cons_succ]
        refine x_iconst (0) d_M_fit_24 rfl ⟨by decide, by decide⟩ ?_
        refine x_istore d_M_fit_25 (by decide) ?_
        dsimp only [x_st1, x_st2, x_kill, List.set, List.getElem?_cons_zero, List.getElem?_cons_succ]
        have fin : ∀ G' (z : Nat), nFrame G1 G' → x_A y_M_fit 78 [some oM, some (xI (v_fit h t)), some (xI ((t + 1 : Nat) : Int)), some (xI (b2i (f_fits h (t + 1) (h.2 7)))), some (xI (z : Int))] [] (S0, G') 0 0 Q := by
          intro G3 z f3
          have sv : v_fit h (t + 1) = x_or (v_fit h t) (if f_fits h (t + 1) (h.2 7) = true then x_shl 1 t else 0) := rfl
          have k := k G3 f3
          rw [sv] at k
          refine x_iload_n d_M_fit_78 rfl rfl ?_
          refine x_iload_n d_M_fit_79 rfl rfl ?_
          refine x_if_eq (91) d_M_fit_80 (by decide) (fun c1 => ?_) (fun c1 => ?_)
          · rw [if_neg (by rw [b2i_0 c1]; decide)] at k
            refine x_iconst (0) d_M_fit_91 rfl ⟨by decide, by decide⟩ ?_
            refine x_ior d_M_fit_92 ?_
            refine x_istore_n d_M_fit_93 rfl (by decide) ?_
            dsimp only [x_st1, x_st2, x_kill, List.set, List.getElem?_cons_zero, List.getElem?_cons_succ]
            refine x_iincN d_M_fit_94 rfl (by decide) (by omega) (by omega) ?_
            dsimp only [x_st1, x_st2, x_kill, List.set, List.getElem?_cons_zero, List.getElem?_cons_succ]
            refine x_goto (17) d_M_fit_97 (by decide) ?_
            exact x_sub (fun j v hj => by
              match j, hj with
              | 0, hj => exact hj
              | 1, hj => exact hj
              | 2, hj => exact hj
              | 3, hj => cases hj
              | 4, hj => cases hj
              | j + 5, hj => cases hj) k
          · rw [if_pos (b2i_1 c1)] at k
            refine x_iconst (1) d_M_fit_83 rfl ⟨by decide, by decide⟩ ?_
            refine x_iload_n d_M_fit_84 rfl rfl ?_
            refine x_iconst (1) d_M_fit_85 rfl ⟨by decide, by decide⟩ ?_
            refine x_isubN d_M_fit_86 (by omega) (by omega) ?_
            rw [show ((t + 1 : Nat) : Int) - 1 = (t : Int) by omega]
            refine x_ishl d_M_fit_87 ?_
            refine x_goto (92) d_M_fit_88 (by decide) ?_
            refine x_ior d_M_fit_92 ?_
            refine x_istore_n d_M_fit_93 rfl (by decide) ?_
            dsimp only [x_st1, x_st2, x_kill, List.set, List.getElem?_cons_zero, List.getElem?_cons_succ]
            refine x_iincN d_M_fit_94 rfl (by decide) (by omega) (by omega) ?_
            dsimp only [x_st1, x_st2, x_kill, List.set, List.getElem?_cons_zero, List.getElem?_cons_succ]
            refine x_goto (17) d_M_fit_97 (by decide) ?_
            exact x_sub (fun j v hj => by
              match j, hj with
              | 0, hj => exact hj
              | 1, hj => exact hj
              | 2, hj => exact hj
              | 3, hj => cases hj
              | 4, hj => cases hj
              | j + 5, hj => cases hj) k
        have drills : ∀ G', nFrame G1 G' → x_A y_M_fit 27 [some oM, some (xI (v_fit h t)), some (xI ((t + 1 : Nat) : Int)), some (xI (b2i (f_fits h (t + 1) 0))), some (xI ((0 : Nat) : Int))] [] (S0, G') 0 0 Q := by
          refine x_up_to (P := fun d => ∀ G', nFrame G1 G' → x_A y_M_fit 27 [some oM, some (xI (v_fit h t)), some (xI ((t + 1 : Nat) : Int)), some (xI (b2i (f_fits h (t + 1) d))), some (xI (d : Int))] [] (S0, G') 0 0 Q) 0 (h.2 7) (Nat.zero_le _) ?_ (fun d _ hd k2 => ?_)
          · intro G3 f3
            have e7 := ((bFrame.of f1 f3).rep r).1.2.2.2.2.2.2.2.1
            refine x_iload d_M_fit_27 rfl ?_
            refine x_aload_n d_M_fit_29 rfl rfl ?_
            refine x_getIG (kf := 8) d_M_fit_30 rfl rfl rfl in_M f_M_275 ?_
            refine x_icmp_ge (78) d_M_fit_33 (by decide) (fun c1 => ?_) (fun c1 => ?_)
            · exact fin G3 _ f3
            · omega
          · intro G3 f3
            have r3 := (bFrame.of f1 f3).rep r
            have e7 := r3.1.2.2.2.2.2.2.2.1
            obtain ⟨e1, e2⟩ := r3.2.2.2.2.2.2.2.2.1 d hd
            have g := hh.2.2.2.2.2.2.2.2.1 d hd
            obtain ⟨y, ey⟩ : ∃ y : Nat, h.1 7 d 0 = y := ⟨(h.1 7 d 0).toNat, by omega⟩
            refine x_iload d_M_fit_27 rfl ?_
            refine x_aload_n d_M_fit_29 rfl rfl ?_
            refine x_getIG (kf := 8) d_M_fit_30 rfl rfl rfl in_M f_M_275 ?_
            refine x_icmp_ge (78) d_M_fit_33 (by decide) (fun c1 => ?_) (fun c1 => ?_)
            · omega
            · refine x_iload_n d_M_fit_36 rfl rfl ?_
              refine x_if_eq (78) d_M_fit_37 (by decide) (fun c2 => ?_) (fun c2 => ?_)
              · have c3 := f_fits_0 (b2i_0 c2) (Nat.le_of_lt hd)
                have e : b2i (f_fits h (t + 1) d) = b2i (f_fits h (t + 1) (h.2 7)) := by rw [b2i_0 c2, c3]
                rw [e]
                exact fin G3 _ f3
              · have c3 := b2i_1 c2
                refine x_aload_n d_M_fit_40 rfl rfl ?_
                refine x_aload_n d_M_fit_41 rfl rfl ?_
                refine x_getF (kf := 44) d_M_fit_42 rfl rfl rfl in_M f_M_111 ?_
                refine x_iload d_M_fit_45 rfl ?_
                refine x_ialdN (d) d_M_fit_47 rfl (by omega) (by omega) ?_
                rw [e1, ey]
                refine x_iload_n d_M_fit_48 rfl rfl ?_
                refine x_aload_n d_M_fit_49 rfl rfl ?_
                refine x_V1 d_M_fit_50 e_M_fit_M_made ⟨rfl, rfl, Nat.zero_le _, Nat.zero_le _⟩ rfl rfl rfl rfl (Nat.le_of_ble_eq_true rfl) (s_made hh r3) ?_
                refine x_VQ d_M_fit_53 e_M_fit_M_most ⟨rfl, rfl, Nat.zero_le _, Nat.zero_le _⟩ rfl rfl rfl rfl (Nat.le_of_ble_eq_true rfl) (s_most hh r3 y (t + 1) (f_made h (h.2 6)) (by omega) (by omega)) (fun v τ hv => ?_)
                obtain ⟨G4, N, L, V, rfl, g1, -, -, -, -, g6, -, rfl⟩ := hv
                show x_A y_M_fit 56 [some oM, some (xI (v_fit h t)), some (xI ((t + 1 : Nat) : Int)), some (xI (b2i (f_fits h (t + 1) d))), some (xI (d : Int))] [xI V] (S0, G4) 0 0 Q
                have sm3 := sm.net f3
                have eV : mv (cutF h (f_sh h (0, 0, 0, -1)) y (t + 1) (f_made h (h.2 6))) = V := mv_eq (g6.cg (fun S => cutF_sh (fun m p hm hp => sm3.shut (by omega) (by omega)) S))
                have f4 := f3.trans g1
                have r4 := (bFrame.of f1 f4).rep r
                have e4 := (r4.2.2.2.2.2.2.2.2.1 d hd).2
                have st := f_fits_s h (t + 1) d
                rw [ey, Int.toNat_natCast, eV, c3, Bool.true_and] at st
                have k2 := k2 G4 f4
                rw [st] at k2
                refine x_aload_n d_M_fit_56 rfl rfl ?_
                refine x_getF (kf := 45) d_M_fit_57 rfl rfl rfl in_M f_M_114 ?_
                refine x_iload d_M_fit_60 rfl ?_
                refine x_ialdN (d) d_M_fit_62 rfl (by omega) (by omega) ?_
                rw [e4]
                refine x_icmp_lt (70) d_M_fit_63 (by decide) (fun c4 => ?_) (fun c4 => ?_)
                · rw [decide_eq_false (by omega)] at k2
                  refine x_iconst (0) d_M_fit_70 rfl ⟨by decide, by decide⟩ ?_
                  refine x_istore_n d_M_fit_71 rfl (by decide) ?_
                  dsimp only [x_st1, x_st2, x_kill, List.set, List.getElem?_cons_zero, List.getElem?_cons_succ]
                  refine x_iincN d_M_fit_72 rfl (by decide) (by omega) (by omega) ?_
                  dsimp only [x_st1, x_st2, x_kill, List.set, List.getElem?_cons_zero, List.getElem?_cons_succ]
                  refine x_goto (27) d_M_fit_75 (by decide) ?_
                  exact k2
                · rw [decide_eq_true (by omega)] at k2
                  refine x_iconst (1) d_M_fit_66 rfl ⟨by decide, by decide⟩ ?_
                  refine x_goto (71) d_M_fit_67 (by decide) ?_
                  refine x_istore_n d_M_fit_71 rfl (by decide) ?_
                  dsimp only [x_st1, x_st2, x_kill, List.set, List.getElem?_cons_zero, List.getElem?_cons_succ]
                  refine x_iincN d_M_fit_72 rfl (by decide) (by omega) (by omega) ?_
                  dsimp only [x_st1, x_st2, x_kill, List.set, List.getElem?_cons_zero, List.getElem?_cons_succ]
                  refine x_goto (27) d_M_fit_75 (by decide) ?_
                  exact k2
        exact drills G2 f2
  exact all G1 ⟨fun _ _ _ => rfl, fun _ _ => rfl⟩
