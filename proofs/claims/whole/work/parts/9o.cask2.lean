/-! the class's face: fewest, best, fit, count -/
theorem xb_neg {m : Int} (hm : x_r32 m) (h : m < 0) : xb m 31 = true := by
  unfold xb
  have e1 : (Int32.ofInt m).toInt = m := i32_toInt_r hm
  have e2 : (Int32.ofInt m).toBitVec.msb = decide ((Int32.ofInt m).toBitVec.toInt < 0) := BitVec.msb_eq_toInt
  have e3 : (Int32.ofInt m).toBitVec.toInt = m := e1
  rw [e3, decide_eq_true h, BitVec.msb_eq_getLsbD_last] at e2
  exact e2
def c_few (h : HH) (pl y mask : Int) : Int := if f_wi pl 0 3 = 1 ∧ f_wi y 0 20 = 1 ∧ 0 ≤ mask ∧ x_and mask (x_xor (x_or (x_shl 1 (h.2 2) - 1) 16) (-1)) = 0 then 0 else 1
noncomputable def v_few (h : HH) (pl y mask : Int) : Int := if c_few h pl y mask = 0 then (f_few h (sufB h pl y.toNat mask) (h.2 6 + 1)).1 else 0
section WF
variable {h : HH} {G : Nat → Nat → Int}
theorem few_nn (hh : Hwf h) {mask : Int} (hm : x_r32 mask) (e : x_and mask (x_xor (x_or (x_shl 1 (h.2 2) - 1) 16) (-1)) = 0) : 0 ≤ mask := by
  have bb := hh.1
  apply Decidable.byContradiction
  intro z
  have key : ∀ n : Fin 5, xb (x_xor (x_or (x_shl 1 ((n : Nat) : Int) - 1) 16) (-1)) 31 = true := by decide +kernel
  have k1 := key ⟨h.2 2, by omega⟩
  have e1 := congrArg (fun s => xb s 31) e
  simp only [xb_and, xb_zero, xb_neg hm (by omega), Bool.true_and] at e1
  rw [show xb (x_xor (x_or (x_shl 1 ((h.2 2 : Nat) : Int) - 1) 16) (-1)) 31 = true from k1] at e1
  cases e1
theorem w_fewest (hh : Hwf h) (q : cF h G) (pl y mask : Int) (hm : x_r32 mask) : x_M y_F_fewest [oFa, xI pl, xI y, xI mask] (S0, G) (wAns h G eA (c_few h pl y mask) (some (xI (v_few h pl y mask)))) := by
  have bb := hh.1
  obtain ⟨⟨r, fk, ft⟩, bk⟩ := id q
  have s1 := x_shl_p8 (d := h.2 2) (by omega)
  have s2 := p8_le (d := h.2 2) (by omega)
  refine x_of 1 rfl (Nat.le_of_ble_eq_true rfl) ?_
  show x_A y_F_fewest 0 [some oFa, some (xI pl), some (xI y), some (xI mask), none] [] (S0, G) 0 0 _
  generalize hV : v_few h pl y mask = V
  generalize hC : c_few h pl y mask = C
  generalize hQ : wAns h G eA C (some (xI V)) = Q
  have no1 : C = 1 → Q (.inr E_IA) (S0, G) := fun e => by rw [← hQ]; exact wAns.no q e (by decide) rfl
  refine x_iload_n d_F_fewest_0 rfl rfl ?_
  refine x_nS d_F_fewest_1 e_F_fewest_F_needPlan rfl rfl (Nat.le_of_ble_eq_true rfl) (Nat.le_of_ble_eq_true rfl) rfl rfl (Nat.le_of_ble_eq_true rfl) (n_plan _ pl) (fun q1 => no1 (by rw [← hC]; unfold c_few; simp only [f_wi1]; rw [if_neg (fun z => q1 z.1)])) (fun q1 => ?_)
  refine x_iload_n d_F_fewest_4 rfl rfl ?_
  refine x_nS d_F_fewest_5 e_F_fewest_F_needMinute rfl rfl (Nat.le_of_ble_eq_true rfl) (Nat.le_of_ble_eq_true rfl) rfl rfl (Nat.le_of_ble_eq_true rfl) (n_minute _ y) (fun q2 => no1 (by rw [← hC]; unfold c_few; simp only [f_wi1]; rw [if_neg (fun z => q2 z.2.1)])) (fun q2 => ?_)
  refine x_iconst (1) d_F_fewest_8 rfl ⟨by decide, by decide⟩ ?_
  refine x_aload_n d_F_fewest_9 rfl rfl ?_
  refine x_getF (kf := 1) d_F_fewest_10 rfl rfl rfl in_F f_F_21 ?_
  refine x_getF (kf := 2) d_F_fewest_13 rfl rfl rfl in_Ho f_F_115 ?_
  refine x_V1 d_F_fewest_16 e_F_fewest_Ta_size ⟨rfl, rfl, Nat.le_of_ble_eq_true rfl, Nat.le_of_ble_eq_true rfl⟩ rfl rfl rfl rfl (Nat.le_of_ble_eq_true rfl) (k_size r 2 (by decide)) ?_
  refine x_ishl d_F_fewest_19 ?_
  refine x_iconst (1) d_F_fewest_20 rfl ⟨by decide, by decide⟩ ?_
  refine x_isubN d_F_fewest_21 (by omega) (by omega) ?_
  refine x_bipush (16) d_F_fewest_22 rfl ⟨by decide, by decide⟩ ?_
  refine x_ior d_F_fewest_24 ?_
  refine x_istore d_F_fewest_25 (by decide) ?_
  dsimp only [x_st1, x_st2, x_kill, List.set, List.getElem?_cons_zero, List.getElem?_cons_succ]
  refine x_iload_n d_F_fewest_27 rfl rfl ?_
  refine x_iload d_F_fewest_28 rfl ?_
  refine x_iconst (-1) d_F_fewest_30 rfl ⟨by decide, by decide⟩ ?_
  refine x_ixor d_F_fewest_31 ?_
  refine x_iand d_F_fewest_32 ?_
  refine x_if_eq (46) d_F_fewest_33 (by decide) (fun g => ?_) (fun g => ?_)
  · have nn := few_nn hh hm g
    obtain ⟨y, rfl⟩ : ∃ n : Nat, y = n := ⟨y.toNat, by omega⟩
    have eC : C = 0 := by rw [← hC]; unfold c_few; simp only [f_wi1]; rw [if_pos ⟨q1, q2, nn, g⟩]
    have eV : (f_few h (sufB h pl y mask) (h.2 6 + 1)).1 = V := by rw [← hV]; unfold v_few; rw [hC, if_pos eC, Int.toNat_natCast]
    have ok : okF h pl (y : Int) mask := ⟨(f_wi1 _ _ _).2 q1, (f_wi1 _ _ _).2 q2, nn, g⟩
    generalize x_or (x_shl 1 ((h.2 2 : Nat) : Int) - 1) 16 = kn
    refine x_aload_n d_F_fewest_46 rfl rfl ?_
    refine x_getF (kf := 4) d_F_fewest_47 rfl rfl rfl in_F f_F_55 ?_
    refine x_iload_n d_F_fewest_50 rfl rfl ?_
    refine x_iload_n d_F_fewest_51 rfl rfl ?_
    refine x_iload_n d_F_fewest_52 rfl rfl ?_
    refine x_VQ d_F_fewest_53 e_F_fewest_Tu_fewestDoors ⟨rfl, rfl, Nat.le_of_ble_eq_true rfl, Nat.le_of_ble_eq_true rfl⟩ rfl rfl rfl rfl (Nat.le_of_ble_eq_true rfl) (c_fewestDoors hh q.1 pl y mask (by omega) (okF_bit hh ok)) (fun v τ hv => ?_)
    obtain ⟨rfl, G1, rfl, f1, z1⟩ := hv
    show x_A y_F_fewest 56 [some oFa, some (xI pl), some (xI (y : Int)), some (xI mask), some (xI kn)] [xI (f_few h (sufB h pl y mask) (h.2 6 + 1)).1] (S0, G1) _ _ Q
    rw [eV]
    refine x_ireturn d_F_fewest_56 rfl ?_ (Nat.le_of_ble_eq_true rfl) (Nat.le_of_ble_eq_true rfl)
    rw [← hQ]; exact wAns.ok bk f1.k z1 eC
  · refine x_throw rfl tk_211 rfl d_F_fewest_36 d_F_fewest_39 d_F_fewest_40 d_F_fewest_42 d_F_fewest_45 (Nat.le_of_ble_eq_true rfl) (Nat.le_of_ble_eq_true rfl) (Nat.le_of_ble_eq_true rfl) (Nat.le_of_ble_eq_true rfl) ?_
    exact no1 (by rw [← hC]; unfold c_few; rw [if_neg (fun z => g z.2.2.2)])
theorem t_w_b (hh : Hwf h) (pl k : Int) {y : Nat} (hy : y ≤ 20) (hn : 0 < h.2 2) : t_w h pl k y ≤ 600 := by
  rw [← t_wc_wo hh pl k hy hn]
  have key : ∀ n, t_wc (t_A h pl k) (t_R h pl k y) (h.2 2) n ≤ 600 := by
    intro n
    induction n with
    | zero => show (-1000000 : Int) ≤ 600; decide
    | succ n ih =>
      have := t_R_b hh pl k hy n (t_ls (t_A h pl k) (t_R h pl k y) (h.2 2) n 0 4).2.toNat
      show max _ _ ≤ _
      omega
  exact key _
theorem w_best (hh : Hwf h) (q : cF h G) (k y : Int) : x_M y_F_best [oFa, xI k, xI y] (S0, G) (wAns h G eSA (c_turn h 0 k y) (some (xI (v_best h k y)))) := by
  have bb := hh.1
  obtain ⟨⟨r, fk, ft⟩, bk⟩ := id q
  refine x_of 4 rfl (Nat.le_of_ble_eq_true rfl) ?_
  show x_A y_F_best 0 [some oFa, some (xI k), some (xI y), none, none, none, none] [] (S0, G) 0 0 _
  generalize hV : v_best h k y = V
  generalize hC : c_turn h 0 k y = C
  generalize hQ : wAns h G eSA C (some (xI V)) = Q
  have no1 : C = 1 → Q (.inr E_IS) (S0, G) := fun e => by rw [← hQ]; exact wAns.no q e (by decide) rfl
  have no2 : C = 2 → Q (.inr E_IA) (S0, G) := fun e => by rw [← hQ]; exact wAns.no q e (by decide) rfl
  refine x_aload_n d_F_best_0 rfl rfl ?_
  refine x_nV d_F_best_1 e_F_best_F_needSomeFire rfl rfl (Nat.le_of_ble_eq_true rfl) (Nat.le_of_ble_eq_true rfl) rfl rfl rfl rfl (Nat.le_of_ble_eq_true rfl) (n_someFire r) (fun q1 => no1 (by rw [← hC]; unfold c_turn; rw [if_pos (by omega)])) (fun q1 => ?_)
  refine x_iload_n d_F_best_4 rfl rfl ?_
  refine x_iconst (0) d_F_best_5 rfl ⟨by decide, by decide⟩ ?_
  refine x_bipush (21) d_F_best_6 rfl ⟨by decide, by decide⟩ ?_
  refine x_nS d_F_best_8 e_F_best_F_needWithin rfl rfl (Nat.le_of_ble_eq_true rfl) (Nat.le_of_ble_eq_true rfl) rfl rfl (Nat.le_of_ble_eq_true rfl) (n_within _ k 0 21) (fun q2 => no2 (by rw [← hC]; unfold c_turn; simp only [f_wi0, f_co0]; rw [if_neg (by omega), if_pos (by omega)])) (fun q2 => ?_)
  refine x_iload_n d_F_best_11 rfl rfl ?_
  refine x_nS d_F_best_12 e_F_best_F_needMinute rfl rfl (Nat.le_of_ble_eq_true rfl) (Nat.le_of_ble_eq_true rfl) rfl rfl (Nat.le_of_ble_eq_true rfl) (n_minute _ y) (fun q3 => no2 (by rw [← hC]; unfold c_turn; simp only [f_wi0, f_co0]; rw [if_neg (by omega), if_pos (by omega)])) (fun q3 => ?_)
  have eC : C = 0 := by rw [← hC]; unfold c_turn; simp only [f_wi0, f_co0]; rw [if_neg (by omega), if_neg (by omega)]
  obtain ⟨k, rfl⟩ : ∃ n : Nat, k = n := ⟨k.toNat, by omega⟩
  obtain ⟨y, rfl⟩ : ∃ n : Nat, y = n := ⟨y.toNat, by omega⟩
  have eV : (t_b h k y 4).1 = V := by rw [← hV]; unfold v_best; rw [hC, if_pos eC, Int.toNat_natCast]
  refine x_iconst (0) d_F_best_15 rfl ⟨by decide, by decide⟩ ?_
  refine x_istore_n d_F_best_16 rfl (by decide) ?_
  dsimp only [x_st1, x_st2, x_kill, List.set, List.getElem?_cons_zero, List.getElem?_cons_succ]
  refine x_ldc (1000000) d_F_best_17 k_F_118 ⟨by decide, by decide⟩ ?_
  refine x_istore d_F_best_19 (by decide) ?_
  dsimp only [x_st1, x_st2, x_kill, List.set, List.getElem?_cons_zero, List.getElem?_cons_succ]
  refine x_iconst (0) d_F_best_21 rfl ⟨by decide, by decide⟩ ?_
  refine x_istore d_F_best_22 (by decide) ?_
  dsimp only [x_st1, x_st2, x_kill, List.set, List.getElem?_cons_zero, List.getElem?_cons_succ]
  have all : ∀ G', kF G G' → cQ h G' → ∀ bv lv : Int, ((0 = 0 ∧ bv = 0 ∧ lv = 1000000) ∨ (1 ≤ 0 ∧ bv = (t_b h k y 0).1 ∧ lv = (t_b h k y 0).2 ∧ (t_b h k y 0).1 ≠ -1)) → x_A y_F_best 24 [some oFa, some (xI (k : Int)), some (xI (y : Int)), some (xI bv), some (xI lv), some (xI ((0 : Nat) : Int)), none] [] (S0, G') 3 18 Q := by
    refine x_up_to (P := fun p => ∀ G', kF G G' → cQ h G' → ∀ bv lv : Int, ((p = 0 ∧ bv = 0 ∧ lv = 1000000) ∨ (1 ≤ p ∧ bv = (t_b h k y p).1 ∧ lv = (t_b h k y p).2 ∧ (t_b h k y p).1 ≠ -1)) → x_A y_F_best 24 [some oFa, some (xI (k : Int)), some (xI (y : Int)), some (xI bv), some (xI lv), some (xI (p : Int)), none] [] (S0, G') 3 18 Q) 0 4 (Nat.zero_le _) ?_ (fun p _ hp k1 => ?_)
    · intro G1 f1 z1 bv lv hb
      rcases hb with hb | ⟨_, rfl, rfl, hb⟩
      · exact absurd hb.1 (by decide)
      · refine x_iload d_F_best_24 rfl ?_
        refine x_iconst (4) d_F_best_26 rfl ⟨by decide, by decide⟩ ?_
        refine x_icmp_ge (80) d_F_best_27 (by decide) (fun g => ?_) (fun g => ?_)
        · refine x_iload_n d_F_best_80 rfl rfl ?_
          rw [eV]
          refine x_ireturn d_F_best_81 rfl ?_ (Nat.le_of_ble_eq_true rfl) (Nat.le_of_ble_eq_true rfl)
          rw [← hQ]; exact wAns.ok bk f1 z1 eC
        · exact absurd g (by decide)
    · intro G1 f1 z1 bv lv hb
      have st : t_b h k y (p + 1) = if (t_b h k y p).1 ≠ -1 ∧ (t_b h k y p).2 ≤ t_w h p k y then t_b h k y p else ((p : Int), t_w h p k y) := rfl
      have tb := t_w_b hh (p : Int) (k : Int) (y := y) (by omega) (by omega)
      refine x_iload d_F_best_24 rfl ?_
      refine x_iconst (4) d_F_best_26 rfl ⟨by decide, by decide⟩ ?_
      refine x_icmp_ge (80) d_F_best_27 (by decide) (fun g => ?_) (fun g => ?_)
      · omega
      · refine x_aload_n d_F_best_30 rfl rfl ?_
        refine x_getF (kf := 5) d_F_best_31 rfl rfl rfl in_F f_F_46 ?_
        refine x_iload d_F_best_34 rfl ?_
        refine x_VQ d_F_best_36 e_F_best_Wa_look ⟨rfl, rfl, Nat.le_of_ble_eq_true rfl, Nat.le_of_ble_eq_true rfl⟩ rfl rfl rfl rfl (Nat.le_of_ble_eq_true rfl) (c_look hh z1 (p : Int)) (fun v τ hv => ?_)
        obtain ⟨rfl, G2, rfl, f2, z2, w2⟩ := hv
        show x_A y_F_best 39 [some oFa, some (xI (k : Int)), some (xI (y : Int)), some (xI bv), some (xI lv), some (xI (p : Int)), none] [] (S0, G2) 3 18 Q
        refine x_aload_n d_F_best_39 rfl rfl ?_
        refine x_getF (kf := 4) d_F_best_40 rfl rfl rfl in_F f_F_55 ?_
        refine x_iload d_F_best_43 rfl ?_
        refine x_iload_n d_F_best_45 rfl rfl ?_
        refine x_iload_n d_F_best_46 rfl rfl ?_
        refine x_VQ d_F_best_47 e_F_best_Tu_weigh ⟨rfl, rfl, Nat.le_of_ble_eq_true rfl, Nat.le_of_ble_eq_true rfl⟩ rfl rfl rfl rfl (Nat.le_of_ble_eq_true rfl) (c_weigh hh z2 p k y (by omega) (by omega) (by omega)) (fun v τ hv => ?_)
        obtain ⟨rfl, G3, rfl, f3, z3, g3⟩ := hv
        show x_A y_F_best 50 [some oFa, some (xI (k : Int)), some (xI (y : Int)), some (xI bv), some (xI lv), some (xI (p : Int)), none] [] (S0, G3) 3 18 Q
        refine x_aload_n d_F_best_50 rfl rfl ?_
        refine x_getF (kf := 4) d_F_best_51 rfl rfl rfl in_F f_F_55 ?_
        refine x_iload_n d_F_best_54 rfl rfl ?_
        refine x_V1 d_F_best_55 e_F_best_Tu_regretOfTurn ⟨rfl, rfl, Nat.le_of_ble_eq_true rfl, Nat.le_of_ble_eq_true rfl⟩ rfl rfl rfl rfl (Nat.le_of_ble_eq_true rfl) (c_regretOfTurn hh z3.1 (p : Int) (w2.k f3) (k : Int) (by omega) (y := y) (by omega) (by omega) g3) ?_
        generalize t_w h p k y = tw at *
        have f4 := (f1.tr f2.k).tr f3.k
        refine x_istore d_F_best_58 (by decide) ?_
        dsimp only [x_st1, x_st2, x_kill, List.set, List.getElem?_cons_zero, List.getElem?_cons_succ]
        refine x_iload d_F_best_60 rfl ?_
        refine x_iload d_F_best_62 rfl ?_
        refine x_icmp_ge (74) d_F_best_64 (by decide) (fun g2 => ?_) (fun g2 => ?_)
        · refine x_iincN d_F_best_74 rfl (by decide) (by omega) (by omega) ?_
          dsimp only [x_st1, x_st2, x_kill, List.set, List.getElem?_cons_zero, List.getElem?_cons_succ]
          refine x_goto (24) d_F_best_77 (by decide) ?_
          have k2 := k1 G3 f4 z3 bv lv (by
            rcases hb with ⟨_, _, hb⟩ | ⟨h1, h2, h3, h4⟩
            · omega
            · right
              rw [st, if_pos ⟨h4, by omega⟩]
              exact ⟨by omega, h2, h3, h4⟩)
          exact x_sub (fun j v hj => by
            match j, hj with
            | 0, hj => exact hj
            | 1, hj => exact hj
            | 2, hj => exact hj
            | 3, hj => exact hj
            | 4, hj => exact hj
            | 5, hj => exact hj
            | 6, hj => cases hj
            | j + 7, hj => cases hj) k2
        · refine x_iload d_F_best_67 rfl ?_
          refine x_istore_n d_F_best_69 rfl (by decide) ?_
          dsimp only [x_st1, x_st2, x_kill, List.set, List.getElem?_cons_zero, List.getElem?_cons_succ]
          refine x_iload d_F_best_70 rfl ?_
          refine x_istore d_F_best_72 (by decide) ?_
          dsimp only [x_st1, x_st2, x_kill, List.set, List.getElem?_cons_zero, List.getElem?_cons_succ]
          refine x_iincN d_F_best_74 rfl (by decide) (by omega) (by omega) ?_
          dsimp only [x_st1, x_st2, x_kill, List.set, List.getElem?_cons_zero, List.getElem?_cons_succ]
          refine x_goto (24) d_F_best_77 (by decide) ?_
          have k2 := k1 G3 f4 z3 (p : Int) tw (by
            right
            have e : ¬ ((t_b h k y p).1 ≠ -1 ∧ (t_b h k y p).2 ≤ tw) ∨ p = 0 := by
              rcases hb with ⟨h1, _⟩ | ⟨h1, h2, h3, h4⟩
              · exact Or.inr h1
              · exact Or.inl (fun z => by omega)
            have e2 : t_b h k y (p + 1) = ((p : Int), tw) := by
              rw [st]
              rcases e with e | e
              · rw [if_neg e]
              · subst e
                rw [if_neg (fun z => z.1 rfl)]
            rw [e2]
            exact ⟨by omega, rfl, rfl, by show (p : Int) ≠ -1; omega⟩)
          exact x_sub (fun j v hj => by
            match j, hj with
            | 0, hj => exact hj
            | 1, hj => exact hj
            | 2, hj => exact hj
            | 3, hj => exact hj
            | 4, hj => exact hj
            | 5, hj => exact hj
            | 6, hj => cases hj
            | j + 7, hj => cases hj) k2
  exact all G (kF.rf G) q.1 0 1000000 (Or.inl ⟨rfl, rfl, rfl⟩)
theorem x_or0 {v : Int} (hv : x_r32 v) : x_or v 0 = v := xb_ext (i32_rng _) hv (fun b _ => by rw [xb_or, xb_zero, Bool.or_false])
theorem v_fit_r (h : HH) : ∀ t, x_r32 (v_fit h t)
  | 0 => show x_r32 0 from ⟨by decide, by decide⟩
  | _ + 1 => i32_rng _
theorem w_fit (hh : Hwf h) (q : cF h G) : x_M y_F_fit [oFa] (S0, G) (wAns h G eA 0 (some (xI (v_fit h 3)))) := by
  have bb := hh.1
  obtain ⟨⟨r, fk, ft⟩, bk⟩ := id q
  refine x_of 2 rfl (Nat.le_of_ble_eq_true rfl) ?_
  show x_A y_F_fit 0 [some oFa, none, none] [] (S0, G) 0 0 _
  generalize hQ : wAns h G eA 0 (some (xI (v_fit h 3))) = Q
  refine x_aload_n d_F_fit_0 rfl rfl ?_
  refine x_getF (kf := 2) d_F_fit_1 rfl rfl rfl in_F f_F_30 ?_
  refine x_iconst (0) d_F_fit_4 rfl ⟨by decide, by decide⟩ ?_
  refine x_iconst (0) d_F_fit_5 rfl ⟨by decide, by decide⟩ ?_
  refine x_iconst (0) d_F_fit_6 rfl ⟨by decide, by decide⟩ ?_
  refine x_iconst (-1) d_F_fit_7 rfl ⟨by decide, by decide⟩ ?_
  refine x_VQ d_F_fit_8 e_F_fit_Sm_follow ⟨rfl, rfl, Nat.le_of_ble_eq_true rfl, Nat.le_of_ble_eq_true rfl⟩ rfl rfl rfl rfl (Nat.le_of_ble_eq_true rfl) (c_follow hh r fk (0, 0, 0, -1) (by show -1 ≤ (-1 : Int) ∧ (-1 : Int) < _; omega)) (fun v τ hv => ?_)
  obtain ⟨rfl, G1, rfl, f1, f2, f3, f4⟩ := hv
  show x_A y_F_fit 11 [some oFa, none, none] [] (S0, G1) 0 0 Q
  have z1 : cQ h G1 := cQ.followed ⟨r, fk, ft⟩ f1 f2 f3 f4
  refine x_iconst (0) d_F_fit_11 rfl ⟨by decide, by decide⟩ ?_
  refine x_istore_n d_F_fit_12 rfl (by decide) ?_
  dsimp only [x_st1, x_st2, x_kill, List.set, List.getElem?_cons_zero, List.getElem?_cons_succ]
  refine x_iconst (1) d_F_fit_13 rfl ⟨by decide, by decide⟩ ?_
  refine x_istore_n d_F_fit_14 rfl (by decide) ?_
  dsimp only [x_st1, x_st2, x_kill, List.set, List.getElem?_cons_zero, List.getElem?_cons_succ]
  have all : ∀ G', eFrame G1 G' → x_A y_F_fit 15 [some oFa, some (xI (v_fit h 0)), some (xI ((0 + 1 : Nat) : Int))] [] (S0, G') 0 0 Q := by
    refine x_up_to (P := fun t => ∀ G', eFrame G1 G' → x_A y_F_fit 15 [some oFa, some (xI (v_fit h t)), some (xI ((t + 1 : Nat) : Int))] [] (S0, G') 0 0 Q) 0 3 (Nat.zero_le _) ?_ (fun t _ ht k => ?_)
    · intro G2 g2
      refine x_iload_n d_F_fit_15 rfl rfl ?_
      refine x_iconst (3) d_F_fit_16 rfl ⟨by decide, by decide⟩ ?_
      refine x_icmp_gt (45) d_F_fit_17 (by decide) (fun c => ?_) (fun c => ?_)
      · refine x_iload_n d_F_fit_45 rfl rfl ?_
        refine x_ireturn d_F_fit_46 rfl ?_ (Nat.le_of_ble_eq_true rfl) (Nat.le_of_ble_eq_true rfl)
        rw [← hQ]; exact wAns.ok bk (f1.k.tr g2.k) (z1.most g2) rfl
      · exact absurd c (by decide)
    · intro G2 g2
      have sv : v_fit h (t + 1) = x_or (v_fit h t) (if f_fits h (t + 1) (h.2 7) = true then x_shl 1 t else 0) := rfl
      refine x_iload_n d_F_fit_15 rfl rfl ?_
      refine x_iconst (3) d_F_fit_16 rfl ⟨by decide, by decide⟩ ?_
      refine x_icmp_gt (45) d_F_fit_17 (by decide) (fun c => ?_) (fun c => ?_)
      · omega
      · refine x_aload_n d_F_fit_20 rfl rfl ?_
        refine x_getF (kf := 3) d_F_fit_21 rfl rfl rfl in_F f_F_39 ?_
        refine x_iload_n d_F_fit_24 rfl rfl ?_
        refine x_VQ d_F_fit_25 e_F_fit_Es_fitsDrills ⟨rfl, rfl, Nat.le_of_ble_eq_true rfl, Nat.le_of_ble_eq_true rfl⟩ rfl rfl rfl rfl (Nat.le_of_ble_eq_true rfl) (c_fitsDrills hh (z1.most g2) (f2.same (fun i h1 h2 => g2 i (Or.inl (by have : i ≤ 31 := h2; show i < 38; omega)))) (t + 1) ⟨by omega, by omega⟩) (fun v τ hv => ?_)
        obtain ⟨rfl, G3, rfl, g3⟩ := hv
        show x_A y_F_fit 28 [some oFa, some (xI (v_fit h t)), some (xI ((t + 1 : Nat) : Int))] [xI (b2i (f_fits h (t + 1) (h.2 7)))] (S0, G3) 0 0 Q
        have k := k G3 (fun i hi => (g3 i hi).trans (g2 i hi))
        rw [sv] at k
        refine x_if_eq (39) d_F_fit_28 (by decide) (fun c1 => ?_) (fun c1 => ?_)
        · rw [if_neg (by rw [b2i_0 c1]; decide), x_or0 (v_fit_r h t)] at k
          refine x_iincN d_F_fit_39 rfl (by decide) (by omega) (by omega) ?_
          dsimp only [x_st1, x_st2, x_kill, List.set, List.getElem?_cons_zero, List.getElem?_cons_succ]
          refine x_goto (15) d_F_fit_42 (by decide) ?_
          exact k
        · rw [if_pos (b2i_1 c1)] at k
          refine x_iload_n d_F_fit_31 rfl rfl ?_
          refine x_iconst (1) d_F_fit_32 rfl ⟨by decide, by decide⟩ ?_
          refine x_iload_n d_F_fit_33 rfl rfl ?_
          refine x_iconst (1) d_F_fit_34 rfl ⟨by decide, by decide⟩ ?_
          refine x_isubN d_F_fit_35 (by omega) (by omega) ?_
          rw [show ((t + 1 : Nat) : Int) - 1 = (t : Int) by omega]
          refine x_ishl d_F_fit_36 ?_
          refine x_ior d_F_fit_37 ?_
          refine x_istore_n d_F_fit_38 rfl (by decide) ?_
          dsimp only [x_st1, x_st2, x_kill, List.set, List.getElem?_cons_zero, List.getElem?_cons_succ]
          refine x_iincN d_F_fit_39 rfl (by decide) (by omega) (by omega) ?_
          dsimp only [x_st1, x_st2, x_kill, List.set, List.getElem?_cons_zero, List.getElem?_cons_succ]
          refine x_goto (15) d_F_fit_42 (by decide) ?_
          exact k
  exact all G1 (fun _ _ => rfl)
theorem c_done : x_M y_Ac_done [oAc] (S0, G) (x_is (.inl (some (xI (G o_Ac 4)))) (S0, G)) := by
  refine x_of 0 rfl (Nat.le_of_ble_eq_true rfl) ?_
  show x_A y_Ac_done 0 [some oAc] [] (S0, G) 0 0 _
  refine x_aload_n d_Ac_done_0 rfl rfl ?_
  refine x_getIG (kf := 4) d_Ac_done_1 rfl rfl rfl in_Ac f_Ac_24 ?_
  refine x_ireturn d_Ac_done_4 rfl ?_ (Nat.zero_le _) (Nat.zero_le _)
  exact ⟨rfl, rfl⟩
theorem c_undone : x_M y_Ac_undone [oAc] (S0, G) (x_is (.inl (some (xI (G o_Ac 5)))) (S0, G)) := by
  refine x_of 0 rfl (Nat.le_of_ble_eq_true rfl) ?_
  show x_A y_Ac_undone 0 [some oAc] [] (S0, G) 0 0 _
  refine x_aload_n d_Ac_undone_0 rfl rfl ?_
  refine x_getIG (kf := 5) d_Ac_undone_1 rfl rfl rfl in_Ac f_Ac_28 ?_
  refine x_ireturn d_Ac_undone_4 rfl ?_ (Nat.zero_le _) (Nat.zero_le _)
  exact ⟨rfl, rfl⟩
theorem w_count {hs : Nat → HH} {ds : Nat → Nat × Int} {base k logged : Nat} (x : cLog hs ds base k logged G) (w : Int) : x_M y_F_count [oFa, xI w] (S0, G) (x_is (.inl (some (xI (v_cnt (hs k) base k logged w)))) (S0, G)) := by
  obtain ⟨⟨hh, h9⟩, r⟩ := x.get
  obtain ⟨ol, _, _, x4, x5, hist, _⟩ := x
  have bb := hh.1
  have hb := hist.1
  refine x_of 0 rfl (Nat.le_of_ble_eq_true rfl) ?_
  show x_A y_F_count 0 [some oFa, some (xI w)] [] (S0, G) 0 0 _
  refine x_iload_n d_F_count_0 rfl rfl ?_
  by_cases big : w < 0 ∨ 12 < w
  · refine x_tabOut 202 d_F_count_1 big (by decide) ?_
    refine x_iconst (-1) d_F_count_202 rfl ⟨by decide, by decide⟩ ?_
    refine x_ireturn d_F_count_203 rfl ?_ (Nat.le_of_ble_eq_true rfl) (Nat.le_of_ble_eq_true rfl)
    refine ⟨?_, rfl⟩
    unfold v_cnt
    rw [if_neg (by omega), if_neg (by omega), if_neg (by omega), if_neg (by omega), if_neg (by omega), if_neg (by omega), if_neg (by omega), if_neg (by omega), if_neg (by omega), if_neg (by omega), if_neg (by omega), if_neg (by omega), if_neg (by omega)]
  · have cs : w = 0 ∨ w = 1 ∨ w = 2 ∨ w = 3 ∨ w = 4 ∨ w = 5 ∨ w = 6 ∨ w = 7 ∨ w = 8 ∨ w = 9 ∨ w = 10 ∨ w = 11 ∨ w = 12 := by omega
    rcases cs with rfl | rfl | rfl | rfl | rfl | rfl | rfl | rfl | rfl | rfl | rfl | rfl | rfl
    · refine x_tabIn 68 d_F_count_1 (by decide) (by decide) rfl (by decide) ?_
      refine x_aload_n d_F_count_68 rfl rfl ?_
      refine x_getF (kf := 1) d_F_count_69 rfl rfl rfl in_F f_F_21 ?_
      refine x_getF (kf := 0) d_F_count_72 rfl rfl rfl in_Ho f_F_84 ?_
      refine x_V1 d_F_count_75 e_F_count_Ta_size ⟨rfl, rfl, Nat.le_of_ble_eq_true rfl, Nat.le_of_ble_eq_true rfl⟩ rfl rfl rfl rfl (Nat.le_of_ble_eq_true rfl) (k_size r 0 (by decide)) ?_
      refine x_ireturn d_F_count_78 rfl ?_ (Nat.le_of_ble_eq_true rfl) (Nat.le_of_ble_eq_true rfl)
      exact ⟨rfl, rfl⟩
    · refine x_tabIn 79 d_F_count_1 (by decide) (by decide) rfl (by decide) ?_
      refine x_aload_n d_F_count_79 rfl rfl ?_
      refine x_getF (kf := 1) d_F_count_80 rfl rfl rfl in_F f_F_21 ?_
      refine x_getF (kf := 1) d_F_count_83 rfl rfl rfl in_Ho f_F_103 ?_
      refine x_V1 d_F_count_86 e_F_count_Ta_size ⟨rfl, rfl, Nat.le_of_ble_eq_true rfl, Nat.le_of_ble_eq_true rfl⟩ rfl rfl rfl rfl (Nat.le_of_ble_eq_true rfl) (k_size r 1 (by decide)) ?_
      refine x_ireturn d_F_count_89 rfl ?_ (Nat.le_of_ble_eq_true rfl) (Nat.le_of_ble_eq_true rfl)
      exact ⟨rfl, rfl⟩
    · refine x_tabIn 90 d_F_count_1 (by decide) (by decide) rfl (by decide) ?_
      refine x_aload_n d_F_count_90 rfl rfl ?_
      refine x_getF (kf := 1) d_F_count_91 rfl rfl rfl in_F f_F_21 ?_
      refine x_getF (kf := 2) d_F_count_94 rfl rfl rfl in_Ho f_F_115 ?_
      refine x_V1 d_F_count_97 e_F_count_Ta_size ⟨rfl, rfl, Nat.le_of_ble_eq_true rfl, Nat.le_of_ble_eq_true rfl⟩ rfl rfl rfl rfl (Nat.le_of_ble_eq_true rfl) (k_size r 2 (by decide)) ?_
      refine x_ireturn d_F_count_100 rfl ?_ (Nat.le_of_ble_eq_true rfl) (Nat.le_of_ble_eq_true rfl)
      exact ⟨rfl, rfl⟩
    · refine x_tabIn 101 d_F_count_1 (by decide) (by decide) rfl (by decide) ?_
      refine x_aload_n d_F_count_101 rfl rfl ?_
      refine x_getF (kf := 1) d_F_count_102 rfl rfl rfl in_F f_F_21 ?_
      refine x_getF (kf := 3) d_F_count_105 rfl rfl rfl in_Ho f_F_122 ?_
      refine x_V1 d_F_count_108 e_F_count_Ta_size ⟨rfl, rfl, Nat.le_of_ble_eq_true rfl, Nat.le_of_ble_eq_true rfl⟩ rfl rfl rfl rfl (Nat.le_of_ble_eq_true rfl) (k_size r 3 (by decide)) ?_
      refine x_ireturn d_F_count_111 rfl ?_ (Nat.le_of_ble_eq_true rfl) (Nat.le_of_ble_eq_true rfl)
      exact ⟨rfl, rfl⟩
    · refine x_tabIn 112 d_F_count_1 (by decide) (by decide) rfl (by decide) ?_
      refine x_aload_n d_F_count_112 rfl rfl ?_
      refine x_getF (kf := 1) d_F_count_113 rfl rfl rfl in_F f_F_21 ?_
      refine x_getF (kf := 4) d_F_count_116 rfl rfl rfl in_Ho f_F_128 ?_
      refine x_V1 d_F_count_119 e_F_count_Ta_size ⟨rfl, rfl, Nat.le_of_ble_eq_true rfl, Nat.le_of_ble_eq_true rfl⟩ rfl rfl rfl rfl (Nat.le_of_ble_eq_true rfl) (k_size r 4 (by decide)) ?_
      refine x_ireturn d_F_count_122 rfl ?_ (Nat.le_of_ble_eq_true rfl) (Nat.le_of_ble_eq_true rfl)
      exact ⟨rfl, rfl⟩
    · refine x_tabIn 123 d_F_count_1 (by decide) (by decide) rfl (by decide) ?_
      refine x_aload_n d_F_count_123 rfl rfl ?_
      refine x_getF (kf := 1) d_F_count_124 rfl rfl rfl in_F f_F_21 ?_
      refine x_getF (kf := 5) d_F_count_127 rfl rfl rfl in_Ho f_F_134 ?_
      refine x_V1 d_F_count_130 e_F_count_Ta_size ⟨rfl, rfl, Nat.le_of_ble_eq_true rfl, Nat.le_of_ble_eq_true rfl⟩ rfl rfl rfl rfl (Nat.le_of_ble_eq_true rfl) (k_size r 5 (by decide)) ?_
      refine x_ireturn d_F_count_133 rfl ?_ (Nat.le_of_ble_eq_true rfl) (Nat.le_of_ble_eq_true rfl)
      exact ⟨rfl, rfl⟩
    · refine x_tabIn 134 d_F_count_1 (by decide) (by decide) rfl (by decide) ?_
      refine x_aload_n d_F_count_134 rfl rfl ?_
      refine x_getF (kf := 1) d_F_count_135 rfl rfl rfl in_F f_F_21 ?_
      refine x_V1 d_F_count_138 e_F_count_Ho_allPeople ⟨rfl, rfl, Nat.le_of_ble_eq_true rfl, Nat.le_of_ble_eq_true rfl⟩ rfl rfl rfl rfl (Nat.le_of_ble_eq_true rfl) (c_allPeople hh r) ?_
      refine x_ireturn d_F_count_141 rfl ?_ (Nat.le_of_ble_eq_true rfl) (Nat.le_of_ble_eq_true rfl)
      exact ⟨rfl, rfl⟩
    · refine x_tabIn 142 d_F_count_1 (by decide) (by decide) rfl (by decide) ?_
      refine x_aload_n d_F_count_142 rfl rfl ?_
      refine x_getF (kf := 1) d_F_count_143 rfl rfl rfl in_F f_F_21 ?_
      refine x_getF (kf := 6) d_F_count_146 rfl rfl rfl in_Ho f_F_137 ?_
      refine x_V1 d_F_count_149 e_F_count_Ta_size ⟨rfl, rfl, Nat.le_of_ble_eq_true rfl, Nat.le_of_ble_eq_true rfl⟩ rfl rfl rfl rfl (Nat.le_of_ble_eq_true rfl) (k_size r 6 (by decide)) ?_
      refine x_ireturn d_F_count_152 rfl ?_ (Nat.le_of_ble_eq_true rfl) (Nat.le_of_ble_eq_true rfl)
      exact ⟨rfl, rfl⟩
    · refine x_tabIn 153 d_F_count_1 (by decide) (by decide) rfl (by decide) ?_
      refine x_aload_n d_F_count_153 rfl rfl ?_
      refine x_getF (kf := 1) d_F_count_154 rfl rfl rfl in_F f_F_21 ?_
      refine x_V1 d_F_count_157 e_F_count_Ho_madeDoors ⟨rfl, rfl, Nat.le_of_ble_eq_true rfl, Nat.le_of_ble_eq_true rfl⟩ rfl rfl rfl rfl (Nat.le_of_ble_eq_true rfl) (c_madeDoors hh r) ?_
      obtain ⟨n, n1, n2⟩ := f_made_n (hs k) (d := (hs k).2 6) (by omega)
      have n3 : 2 ^ (hs k).2 6 ≤ 2 ^ 6 := Nat.pow_le_pow_right (by decide) (by omega)
      rw [n2]
      refine x_S1 d_F_count_160 e_F_count_JI_bitCount ⟨rfl, rfl, Nat.le_of_ble_eq_true rfl, Nat.le_of_ble_eq_true rfl⟩ rfl rfl (Nat.le_of_ble_eq_true rfl) (c_bitCount (S0, G) (n := n) (by omega)) ?_
      refine x_ireturn d_F_count_163 rfl ?_ (Nat.le_of_ble_eq_true rfl) (Nat.le_of_ble_eq_true rfl)
      refine ⟨?_, rfl⟩
      show _ = Sum.inl (some (xI ((cb (f_made (hs k) ((hs k).2 6)).toNat : Nat) : Int)))
      rw [n2, Int.toNat_natCast]
    · refine x_tabIn 164 d_F_count_1 (by decide) (by decide) rfl (by decide) ?_
      refine x_aload_n d_F_count_164 rfl rfl ?_
      refine x_getF (kf := 1) d_F_count_165 rfl rfl rfl in_F f_F_21 ?_
      refine x_getF (kf := 7) d_F_count_168 rfl rfl rfl in_Ho f_F_241 ?_
      refine x_V1 d_F_count_171 e_F_count_Ta_size ⟨rfl, rfl, Nat.le_of_ble_eq_true rfl, Nat.le_of_ble_eq_true rfl⟩ rfl rfl rfl rfl (Nat.le_of_ble_eq_true rfl) (k_size r 7 (by decide)) ?_
      refine x_ireturn d_F_count_174 rfl ?_ (Nat.le_of_ble_eq_true rfl) (Nat.le_of_ble_eq_true rfl)
      exact ⟨rfl, rfl⟩
    · refine x_tabIn 175 d_F_count_1 (by decide) (by decide) rfl (by decide) ?_
      refine x_aload_n d_F_count_175 rfl rfl ?_
      refine x_getF (kf := 1) d_F_count_176 rfl rfl rfl in_F f_F_21 ?_
      refine x_getF (kf := 8) d_F_count_179 rfl rfl rfl in_Ho f_F_262 ?_
      refine x_V1 d_F_count_182 e_F_count_Ta_size ⟨rfl, rfl, Nat.le_of_ble_eq_true rfl, Nat.le_of_ble_eq_true rfl⟩ rfl rfl rfl rfl (Nat.le_of_ble_eq_true rfl) (k_size r 8 (by decide)) ?_
      refine x_ireturn d_F_count_185 rfl ?_ (Nat.le_of_ble_eq_true rfl) (Nat.le_of_ble_eq_true rfl)
      exact ⟨rfl, rfl⟩
    · refine x_tabIn 186 d_F_count_1 (by decide) (by decide) rfl (by decide) ?_
      refine x_aload_n d_F_count_186 rfl rfl ?_
      refine x_getF (kf := 0) d_F_count_187 rfl rfl rfl in_F f_F_12 ?_
      refine x_V1 d_F_count_190 e_F_count_Ac_done ⟨rfl, rfl, Nat.le_of_ble_eq_true rfl, Nat.le_of_ble_eq_true rfl⟩ rfl rfl rfl rfl (Nat.le_of_ble_eq_true rfl) c_done ?_
      refine x_ireturn d_F_count_193 rfl ?_ (Nat.le_of_ble_eq_true rfl) (Nat.le_of_ble_eq_true rfl)
      refine ⟨?_, rfl⟩
      show _ = Sum.inl (some (xI ((k : Int) - base)))
      rw [x4, Int.ofNat_sub hb.1]
    · refine x_tabIn 194 d_F_count_1 (by decide) (by decide) rfl (by decide) ?_
      refine x_aload_n d_F_count_194 rfl rfl ?_
      refine x_getF (kf := 0) d_F_count_195 rfl rfl rfl in_F f_F_12 ?_
      refine x_V1 d_F_count_198 e_F_count_Ac_undone ⟨rfl, rfl, Nat.le_of_ble_eq_true rfl, Nat.le_of_ble_eq_true rfl⟩ rfl rfl rfl rfl (Nat.le_of_ble_eq_true rfl) c_undone ?_
      refine x_ireturn d_F_count_201 rfl ?_ (Nat.le_of_ble_eq_true rfl) (Nat.le_of_ble_eq_true rfl)
      refine ⟨?_, rfl⟩
      show _ = Sum.inl (some (xI ((logged : Int) - k)))
      rw [x5, Int.ofNat_sub hb.2.1]
end WF
