/-! the reference: ones, fewest -/
def cb (n : Nat) : Nat := ((List.range 6).filter (fun b => n.testBit b)).length
theorem s_ones (σ : XM) {n : Nat} (hn : n < 64) : x_M y_M_ones [xI (n : Int)] σ (x_is (.inl (some (xI (cb n : Int)))) σ) := by
  have k1 : ∀ n : Fin 64, (n : Nat) ≠ 0 → x_and ((n : Nat) : Int) (((n : Nat) : Int) - 1) = (((n : Nat) &&& ((n : Nat) - 1) : Nat) : Int) ∧ ((n : Nat) &&& ((n : Nat) - 1)) < (n : Nat) ∧ cb n = cb ((n : Nat) &&& ((n : Nat) - 1)) + 1 := by decide +kernel
  have k2 : ∀ n : Fin 64, cb n ≤ 6 := by decide +kernel
  refine x_of 2 rfl (Nat.le_of_ble_eq_true rfl) ?_
  show x_A y_M_ones 0 [some (xI (n : Int)), none, none] [] σ 0 0 _
  generalize hQ : x_is (.inl (some (xI (cb n : Int)))) σ = Q
  refine x_iconst (0) d_M_ones_0 rfl ⟨by decide, by decide⟩ ?_
  refine x_istore_n d_M_ones_1 rfl (by decide) ?_
  dsimp only [x_st1, x_st2, x_kill, List.set, List.getElem?_cons_zero, List.getElem?_cons_succ]
  refine x_iload_n d_M_ones_2 rfl rfl ?_
  refine x_istore_n d_M_ones_3 rfl (by decide) ?_
  dsimp only [x_st1, x_st2, x_kill, List.set, List.getElem?_cons_zero, List.getElem?_cons_succ]
  have all : ∀ (fuel : Nat) (v c : Nat), v < fuel → v < 64 → c + cb v = cb n → x_A y_M_ones 4 [some (xI (n : Int)), some (xI (c : Int)), some (xI (v : Int))] [] σ 0 0 Q := by
    intro fuel
    induction fuel with
    | zero => intro v c h; omega
    | succ fuel ih =>
      intro v c h1 h2 h3
      have z2 : cb n ≤ 6 := k2 ⟨n, hn⟩
      refine x_iload_n d_M_ones_4 rfl rfl ?_
      refine x_if_eq (20) d_M_ones_5 (by decide) (fun c0 => ?_) (fun c0 => ?_)
      · have : v = 0 := by omega
        subst this
        refine x_iload_n d_M_ones_20 rfl rfl ?_
        refine x_ireturn d_M_ones_21 rfl ?_ (Nat.zero_le _) (Nat.zero_le _)
        have : c = cb n := h3
        rw [← hQ, this]
        exact ⟨rfl, rfl⟩
      · have z := k1 ⟨v, h2⟩ (fun e : v = 0 => c0 (by rw [e]; rfl))
        refine x_iincN d_M_ones_8 rfl (by decide) (by omega) (by omega) ?_
        dsimp only [x_st1, x_st2, x_kill, List.set, List.getElem?_cons_zero, List.getElem?_cons_succ]
        refine x_iload_n d_M_ones_11 rfl rfl ?_
        refine x_iload_n d_M_ones_12 rfl rfl ?_
        refine x_iconst (1) d_M_ones_13 rfl ⟨by decide, by decide⟩ ?_
        refine x_isubN d_M_ones_14 (by omega) (by omega) ?_
        refine x_iand d_M_ones_15 ?_
        rw [z.1]
        refine x_istore_n d_M_ones_16 rfl (by decide) ?_
        dsimp only [x_st1, x_st2, x_kill, List.set, List.getElem?_cons_zero, List.getElem?_cons_succ]
        refine x_goto (4) d_M_ones_17 (by decide) ?_
        have z3 : cb v = cb (v &&& (v - 1)) + 1 := z.2.2
        have z4 : (v &&& (v - 1)) < v := z.2.1
        exact ih (v &&& (v - 1)) (c + 1) (by omega) (by omega) (by omega)
  exact all 64 n 0 (by omega) hn (by omega)
noncomputable def sufB (h : HH) (pl : Int) (by' : Nat) (mask set : Int) : Bool := @decide (∀ i, i < 5 → okS h pl by' mask set i) (Classical.propDecidable _)
theorem sufB_1 {h : HH} {pl : Int} {by' : Nat} {mask set : Int} (z : ∀ i, i < 5 → okS h pl by' mask set i) : sufB h pl by' mask set = true := @decide_eq_true _ (Classical.propDecidable _) z
theorem sufB_0 {h : HH} {pl : Int} {by' : Nat} {mask set : Int} (z : ∃ i, i < 5 ∧ ¬ okS h pl by' mask set i) : sufB h pl by' mask set = false := @decide_eq_false _ (Classical.propDecidable _) (fun q => by obtain ⟨i, h1, h2⟩ := z; exact h2 (q i h1))
/-- what a set of doors costs -/
def f_dc (h : HH) (s : Nat) : Nat → Int
  | 0 => 0
  | d + 1 => f_dc h s d + if x_and (x_shr s d) 1 = 1 then h.1 6 d 2 else 0
theorem f_dc_bd {h : HH} (hh : Hwf h) {s d : Nat} (hd : d ≤ h.2 6) : 0 ≤ f_dc h s d ∧ f_dc h s d ≤ 1000 * d := by
  induction d with
  | zero => unfold f_dc; omega
  | succ d ih =>
    have := ih (by omega)
    have g := hh.2.2.2.2.2.2.2.1 d (by omega)
    unfold f_dc
    split <;> omega
/-- the sets of so many doors, one after the other: the best yet, and what it costs -/
def f_fst (h : HH) (suf : Int → Bool) (many : Nat) (z : Int × Int) : Nat → Int × Int
  | 0 => z
  | s + 1 => if cb s = many ∧ x_and (s : Int) (f_made h (h.2 6)) = 0 ∧ ((f_fst h suf many z s).1 = -1 ∨ f_dc h s (h.2 6) < (f_fst h suf many z s).2) ∧ suf (x_or (s : Int) (f_made h (h.2 6))) = true then ((s : Int), f_dc h s (h.2 6)) else f_fst h suf many z s
def f_few (h : HH) (suf : Int → Bool) : Nat → Int × Int
  | 0 => (-1, 0)
  | n + 1 => if (f_few h suf n).1 = -1 then f_fst h suf n (f_few h suf n) (2 ^ h.2 6) else f_few h suf n
theorem f_few_up {h : HH} {suf : Int → Bool} {n m : Nat} (a : (f_few h suf n).1 ≠ -1) (b : n ≤ m) : f_few h suf m = f_few h suf n := by
  induction b with
  | refl => rfl
  | step b ih =>
    show (if _ then _ else _) = _
    rw [ih, if_neg a]
def okF (h : HH) (pl by' mask : Int) : Prop := f_wi pl 0 3 = 1 ∧ f_wi by' 0 20 = 1 ∧ 0 ≤ mask ∧ x_and mask (x_xor (x_or (x_shl 1 (h.2 2) - 1) 16) (-1)) = 0
theorem xb_xor (s t : Int) (b : Nat) : xb (x_xor s t) b = (xb s b ^^ xb t b) := by
  unfold xb x_xor
  rw [Int32.ofInt_toInt, Int32.toBitVec_xor, BitVec.getLsbD_xor]
theorem okF_bit {h : HH} (hh : Hwf h) {pl by' mask : Int} (z : okF h pl by' mask) : ∀ i, i < 4 → xb mask i = true → i < h.2 2 := by
  intro i hi hx
  have b := hh.1
  have key : ∀ n : Fin 5, ∀ i : Fin 4, xb (x_xor (x_or (x_shl 1 ((n : Nat) : Int) - 1) 16) (-1)) i = true ∨ (i : Nat) < n := by decide +kernel
  rcases key ⟨h.2 2, by omega⟩ ⟨i, hi⟩ with q | q
  · have e := congrArg (fun s => xb s i) z.2.2.2
    simp only [xb_and, xb_zero, hx, Bool.true_and] at e
    rw [show xb (x_xor (x_or (x_shl 1 ((h.2 2 : Nat) : Int) - 1) 16) (-1)) i = true from q] at e
    cases e
  · exact q
/-- a question that is asked: answered, or refused with a number -/
def mPub (G : Nat → Nat → Int) (ok : Prop) (code V : Int) : Option XV → XM → Prop := fun v τ => (ok ∧ ∃ G', τ = (S0, G') ∧ bFrame (up G o_M 0 0) G' ∧ v = some (xI V)) ∨ (¬ ok ∧ ∃ G', τ = (S0, G') ∧ bFrame (up G o_M 0 code) G' ∧ v = some (xI 0))
theorem mRep.th {h : HH} {G : Nat → Nat → Int} (r : mRep h G) (z : Int) : mRep h (up G o_M 0 z) :=
  r.same (fun k h1 _ => up_ne (by omega)) (fun i h1 _ => up_cell (by have : o_M < m_room := (by decide); omega))
theorem up_on (G : Nat → Nat → Int) (i j : Nat) (a b : Int) : up (up G i j a) i j b = up G i j b := by
  funext x y
  simp only [up]
  split <;> rfl
theorem s_fewest {h : HH} {G : Nat → Nat → Int} (hh : Hwf h) (r0 : mRep h G) (pl by' mask : Int) : x_M y_M_fewest [oM, xI pl, xI by', xI mask] (S0, G) (fun r τ => ∃ v, r = .inl v ∧ mPub G (okF h pl by' mask) 1 (f_few h (sufB h pl by'.toNat mask) (h.2 6 + 1)).1 v τ) := by
  have b := hh.1
  refine x_of 6 rfl (Nat.le_of_ble_eq_true rfl) ?_
  show x_A y_M_fewest 0 [some oM, some (xI pl), some (xI by'), some (xI mask), none, none, none, none, none, none] [] (S0, G) 0 0 _
  generalize hQ : (fun (r : XRes) (τ : XM) => ∃ v, r = .inl v ∧ mPub G (okF h pl by' mask) 1 (f_few h (sufB h pl by'.toNat mask) (h.2 6 + 1)).1 v τ) = Q
  refine x_aload_n d_M_fewest_0 rfl rfl ?_
  refine x_iconst (0) d_M_fewest_1 rfl ⟨by decide, by decide⟩ ?_
  refine x_putIG (kf := 0) tyX12 d_M_fewest_2 rfl rfl rfl in_M f_M_217 tyX12_ok nmX12 (by decide +kernel) rfl ?_
  have r := r0.th 0
  have q1 := f_wi_01 pl 0 3
  have q2 := f_wi_01 by' 0 20
  have ff : ¬ okF h pl by' mask → x_A y_M_fewest 41 [some oM, some (xI pl), some (xI by'), some (xI mask), none, none, none, none, none, none] [] (S0, up G o_M 0 0) 0 0 Q := by
    intro z
    refine x_aload_n d_M_fewest_41 rfl rfl ?_
    refine x_iconst (1) d_M_fewest_42 rfl ⟨by decide, by decide⟩ ?_
    refine x_V1 d_M_fewest_43 e_M_fewest_M_fails ⟨rfl, rfl, Nat.zero_le _, Nat.zero_le _⟩ rfl rfl rfl rfl (Nat.le_of_ble_eq_true rfl) (s_fails (up G o_M 0 0) 1) ?_
    refine x_ireturn d_M_fewest_46 rfl ?_ (Nat.zero_le _) (Nat.zero_le _)
    rw [← hQ]
    refine ⟨_, rfl, Or.inr ⟨z, _, rfl, ?_, rfl⟩⟩
    rw [up_on]
    exact bFrame.rf _
  refine x_iload_n d_M_fewest_5 rfl rfl ?_
  refine x_S1 d_M_fewest_6 e_M_fewest_M_isPlan ⟨rfl, rfl, Nat.zero_le _, Nat.zero_le _⟩ rfl rfl (Nat.le_of_ble_eq_true rfl) (s_isPlan _ _) ?_
  refine x_if_eq (41) d_M_fewest_9 (by decide) (fun c1 => ?_) (fun c1 => ?_)
  · exact ff (fun z => by have := z.1; omega)
  · refine x_iload_n d_M_fewest_12 rfl rfl ?_
    refine x_S1 d_M_fewest_13 e_M_fewest_M_isMinute ⟨rfl, rfl, Nat.zero_le _, Nat.zero_le _⟩ rfl rfl (Nat.le_of_ble_eq_true rfl) (s_isMinute _ _) ?_
    refine x_if_eq (41) d_M_fewest_16 (by decide) (fun c2 => ?_) (fun c2 => ?_)
    · exact ff (fun z => by have := z.2.1; omega)
    · refine x_iload_n d_M_fewest_19 rfl rfl ?_
      refine x_if_lt (41) d_M_fewest_20 (by decide) (fun c3 => ?_) (fun c3 => ?_)
      · exact ff (fun z => by have := z.2.2.1; omega)
      · have e0 := r.1
        have hs : 1 ≤ x_shl 1 ((h.2 2 : Nat) : Int) ∧ x_shl 1 ((h.2 2 : Nat) : Int) ≤ 16 := by
          have key : ∀ n : Fin 5, 1 ≤ x_shl 1 ((n : Nat) : Int) ∧ x_shl 1 ((n : Nat) : Int) ≤ 16 := by decide +kernel
          exact key ⟨h.2 2, by omega⟩
        refine x_iload_n d_M_fewest_23 rfl rfl ?_
        refine x_iconst (1) d_M_fewest_24 rfl ⟨by decide, by decide⟩ ?_
        refine x_aload_n d_M_fewest_25 rfl rfl ?_
        refine x_getIG (kf := 3) d_M_fewest_26 rfl rfl rfl in_M f_M_253 ?_
        rw [e0.2.2.1]
        refine x_ishl d_M_fewest_29 ?_
        refine x_iconst (1) d_M_fewest_30 rfl ⟨by decide, by decide⟩ ?_
        refine x_isubN d_M_fewest_31 (by omega) (by omega) ?_
        refine x_bipush (16) d_M_fewest_32 rfl ⟨by decide, by decide⟩ ?_
        refine x_ior d_M_fewest_34 ?_
        refine x_iconst (-1) d_M_fewest_35 rfl ⟨by decide, by decide⟩ ?_
        refine x_ixor d_M_fewest_36 ?_
        refine x_iand d_M_fewest_37 ?_
        refine x_if_eq (47) d_M_fewest_38 (by decide) (fun c4 => ?_) (fun c4 => ?_)
        · have ok : okF h pl by' mask := ⟨by omega, by omega, by omega, c4⟩
          have bits := okF_bit hh ok
          have hby : 0 ≤ by' ∧ by' ≤ 20 := by
            have := ok.2.1
            unfold f_wi at this
            split at this
            · assumption
            · omega
          obtain ⟨y, rfl⟩ : ∃ y : Nat, by' = y := ⟨by'.toNat, by omega⟩
          rw [Int.toNat_natCast] at hQ
          generalize hsu : sufB h pl y mask = suf at hQ
          have h64 : 2 ^ h.2 6 ≤ 64 ∧ x_shl 1 ((h.2 6 : Nat) : Int) = ((2 ^ h.2 6 : Nat) : Int) := by
            have key : ∀ n : Fin 7, 2 ^ (n : Nat) ≤ 64 ∧ x_shl 1 ((n : Nat) : Int) = ((2 ^ (n : Nat) : Nat) : Int) := by decide +kernel
            exact key ⟨h.2 6, by omega⟩
          refine x_iconst (-1) d_M_fewest_47 rfl ⟨by decide, by decide⟩ ?_
          refine x_istore d_M_fewest_48 (by decide) ?_
          dsimp only [x_st1, x_st2, x_kill, List.set, List.getElem?_cons_zero, List.getElem?_cons_succ]
          refine x_iconst (0) d_M_fewest_50 rfl ⟨by decide, by decide⟩ ?_
          refine x_istore d_M_fewest_51 (by decide) ?_
          dsimp only [x_st1, x_st2, x_kill, List.set, List.getElem?_cons_zero, List.getElem?_cons_succ]
          refine x_iconst (0) d_M_fewest_53 rfl ⟨by decide, by decide⟩ ?_
          refine x_istore d_M_fewest_54 (by decide) ?_
          dsimp only [x_st1, x_st2, x_kill, List.set, List.getElem?_cons_zero, List.getElem?_cons_succ]
          have fin : ∀ G' z6 z5, bFrame (up G o_M 0 0) G' → x_A y_M_fewest 209 [some oM, some (xI pl), some (xI (y : Int)), some (xI mask), some (xI (f_few h suf (h.2 6 + 1)).1), some (xI z5), some (xI z6), none, none, none] [] (S0, G') 0 0 Q := by
            intro G' z6 z5 f
            refine x_iload d_M_fewest_209 rfl ?_
            refine x_ireturn d_M_fewest_211 rfl ?_ (Nat.zero_le _) (Nat.zero_le _)
            rw [← hQ]
            exact ⟨_, rfl, Or.inl ⟨ok, G', rfl, f, rfl⟩⟩
          have all : ∀ G', bFrame (up G o_M 0 0) G' → x_A y_M_fewest 56 [some oM, some (xI pl), some (xI (y : Int)), some (xI mask), some (xI (f_few h suf 0).1), some (xI (f_few h suf 0).2), some (xI ((0 : Nat) : Int)), none, none, none] [] (S0, G') 0 0 Q := by
            refine x_up_to (P := fun n => ∀ G', bFrame (up G o_M 0 0) G' → x_A y_M_fewest 56 [some oM, some (xI pl), some (xI (y : Int)), some (xI mask), some (xI (f_few h suf n).1), some (xI (f_few h suf n).2), some (xI (n : Int)), none, none, none] [] (S0, G') 0 0 Q) 0 (h.2 6 + 1) (Nat.zero_le _) ?_ (fun n _ hn k => ?_)
            · intro G1 f1
              have e1 := (f1.rep r).1
              refine x_iload d_M_fewest_56 rfl ?_
              refine x_aload_n d_M_fewest_58 rfl rfl ?_
              refine x_getIG (kf := 7) d_M_fewest_59 rfl rfl rfl in_M f_M_269 ?_
              refine x_icmp_gt (209) d_M_fewest_62 (by decide) (fun c => ?_) (fun c => ?_)
              · exact fin G1 _ _ f1
              · omega
            · intro G1 f1
              have e1 := (f1.rep r).1
              refine x_iload d_M_fewest_56 rfl ?_
              refine x_aload_n d_M_fewest_58 rfl rfl ?_
              refine x_getIG (kf := 7) d_M_fewest_59 rfl rfl rfl in_M f_M_269 ?_
              refine x_icmp_gt (209) d_M_fewest_62 (by decide) (fun c => ?_) (fun c => ?_)
              · omega
              · refine x_iload d_M_fewest_65 rfl ?_
                refine x_iconst (-1) d_M_fewest_67 rfl ⟨by decide, by decide⟩ ?_
                refine x_icmp_ne (209) d_M_fewest_68 (by decide) (fun c5 => ?_) (fun c5 => ?_)
                · rw [← f_few_up c5 (Nat.le_of_lt hn)]
                  exact fin G1 _ _ f1
                · have em : f_few h suf (n + 1) = f_fst h suf n (f_few h suf n) (2 ^ h.2 6) := by
                    show (if _ then _ else _) = _
                    rw [if_pos c5]
                  rw [em] at k
                  generalize f_few h suf n = z0 at *
                  refine x_iconst (0) d_M_fewest_71 rfl ⟨by decide, by decide⟩ ?_
                  refine x_istore d_M_fewest_72 (by decide) ?_
                  dsimp only [x_st1, x_st2, x_kill, List.set, List.getElem?_cons_zero, List.getElem?_cons_succ]
                  have sets : ∀ G', bFrame (up G o_M 0 0) G' → x_A y_M_fewest 74 [some oM, some (xI pl), some (xI (y : Int)), some (xI mask), some (xI (f_fst h suf n z0 0).1), some (xI (f_fst h suf n z0 0).2), some (xI (n : Int)), some (xI ((0 : Nat) : Int)), none, none] [] (S0, G') 0 0 Q := by
                    refine x_up_to (P := fun s => ∀ G', bFrame (up G o_M 0 0) G' → x_A y_M_fewest 74 [some oM, some (xI pl), some (xI (y : Int)), some (xI mask), some (xI (f_fst h suf n z0 s).1), some (xI (f_fst h suf n z0 s).2), some (xI (n : Int)), some (xI (s : Int)), none, none] [] (S0, G') 0 0 Q) 0 (2 ^ h.2 6) (Nat.zero_le _) ?_ (fun s _ hs k2 => ?_)
                    · intro G2 f2
                      have e2 := (f2.rep r).1
                      refine x_iload d_M_fewest_74 rfl ?_
                      refine x_iconst (1) d_M_fewest_76 rfl ⟨by decide, by decide⟩ ?_
                      refine x_aload_n d_M_fewest_77 rfl rfl ?_
                      refine x_getIG (kf := 7) d_M_fewest_78 rfl rfl rfl in_M f_M_269 ?_
                      rw [e2.2.2.2.2.2.2.1]
                      refine x_ishl d_M_fewest_81 ?_
                      rw [h64.2]
                      refine x_icmp_ge (203) d_M_fewest_82 (by decide) (fun c6 => ?_) (fun c6 => ?_)
                      · refine x_iincN d_M_fewest_203 rfl (by decide) (by omega) (by omega) ?_
                        dsimp only [x_st1, x_st2, x_kill, List.set, List.getElem?_cons_zero, List.getElem?_cons_succ]
                        refine x_goto (56) d_M_fewest_206 (by decide) ?_
                        exact x_sub (fun j v hj => by
                          match j, hj with
                          | 0, hj => exact hj
                          | 1, hj => exact hj
                          | 2, hj => exact hj
                          | 3, hj => exact hj
                          | 4, hj => exact hj
                          | 5, hj => exact hj
                          | 6, hj => exact hj
                          | 7, hj => cases hj
                          | 8, hj => exact hj
                          | 9, hj => exact hj
                          | j + 10, hj => cases hj) (k G2 f2)
                      · omega
                    · intro G2 f2
                      have r2 := f2.rep r
                      have e2 := r2.1
                      have cbb : cb s ≤ 6 := by
                        have key : ∀ n : Fin 64, cb n ≤ 6 := by decide +kernel
                        exact key ⟨s, by omega⟩
                      have st : f_fst h suf n z0 (s + 1) = if cb s = n ∧ x_and (s : Int) (f_made h (h.2 6)) = 0 ∧ ((f_fst h suf n z0 s).1 = -1 ∨ f_dc h s (h.2 6) < (f_fst h suf n z0 s).2) ∧ suf (x_or (s : Int) (f_made h (h.2 6))) = true then ((s : Int), f_dc h s (h.2 6)) else f_fst h suf n z0 s := rfl
                      generalize f_fst h suf n z0 s = zz at *
                      have skip : ¬ (cb s = n ∧ x_and (s : Int) (f_made h (h.2 6)) = 0 ∧ (zz.1 = -1 ∨ f_dc h s (h.2 6) < zz.2) ∧ suf (x_or (s : Int) (f_made h (h.2 6))) = true) → ∀ G3, bFrame (up G o_M 0 0) G3 → x_A y_M_fewest 197 [some oM, some (xI pl), some (xI (y : Int)), some (xI mask), some (xI zz.1), some (xI zz.2), some (xI (n : Int)), some (xI (s : Int)), none, none] [] (S0, G3) 0 0 Q := by
                        intro nz G3 f3
                        rw [st, if_neg nz] at k2
                        refine x_iincN d_M_fewest_197 rfl (by decide) (by omega) (by omega) ?_
                        dsimp only [x_st1, x_st2, x_kill, List.set, List.getElem?_cons_zero, List.getElem?_cons_succ]
                        refine x_goto (74) d_M_fewest_200 (by decide) ?_
                        exact k2 G3 f3
                      refine x_iload d_M_fewest_74 rfl ?_
                      refine x_iconst (1) d_M_fewest_76 rfl ⟨by decide, by decide⟩ ?_
                      refine x_aload_n d_M_fewest_77 rfl rfl ?_
                      refine x_getIG (kf := 7) d_M_fewest_78 rfl rfl rfl in_M f_M_269 ?_
                      rw [e2.2.2.2.2.2.2.1]
                      refine x_ishl d_M_fewest_81 ?_
                      rw [h64.2]
                      refine x_icmp_ge (203) d_M_fewest_82 (by decide) (fun c6 => ?_) (fun c6 => ?_)
                      · omega
                      · refine x_iload d_M_fewest_85 rfl ?_
                        refine x_S1 d_M_fewest_87 e_M_fewest_M_ones ⟨rfl, rfl, Nat.zero_le _, Nat.zero_le _⟩ rfl rfl (Nat.le_of_ble_eq_true rfl) (s_ones _ (n := s) (by omega)) ?_
                        refine x_iload d_M_fewest_90 rfl ?_
                        refine x_icmp_ne (197) d_M_fewest_92 (by decide) (fun c7 => ?_) (fun c7 => ?_)
                        · exact skip (fun q => by have := q.1; omega) G2 f2
                        · refine x_iload d_M_fewest_95 rfl ?_
                          refine x_aload_n d_M_fewest_97 rfl rfl ?_
                          refine x_V1 d_M_fewest_98 e_M_fewest_M_made ⟨rfl, rfl, Nat.zero_le _, Nat.zero_le _⟩ rfl rfl rfl rfl (Nat.le_of_ble_eq_true rfl) (s_made hh r2) ?_
                          refine x_iand d_M_fewest_101 ?_
                          refine x_if_eq (108) d_M_fewest_102 (by decide) (fun c8 => ?_) (fun c8 => ?_)
                          · refine x_iconst (0) d_M_fewest_108 rfl ⟨by decide, by decide⟩ ?_
                            refine x_istore d_M_fewest_109 (by decide) ?_
                            dsimp only [x_st1, x_st2, x_kill, List.set, List.getElem?_cons_zero, List.getElem?_cons_succ]
                            refine x_iconst (0) d_M_fewest_111 rfl ⟨by decide, by decide⟩ ?_
                            refine x_istore d_M_fewest_112 (by decide) ?_
                            dsimp only [x_st1, x_st2, x_kill, List.set, List.getElem?_cons_zero, List.getElem?_cons_succ]
                            refine x_up_to (P := fun d => x_A y_M_fewest 114 [some oM, some (xI pl), some (xI (y : Int)), some (xI mask), some (xI zz.1), some (xI zz.2), some (xI (n : Int)), some (xI (s : Int)), some (xI (f_dc h s d)), some (xI (d : Int))] [] (S0, G2) 0 0 Q) 0 (h.2 6) (Nat.zero_le _) ?_ (fun d _ hd k3 => ?_)
                            · refine x_iload d_M_fewest_114 rfl ?_
                              refine x_aload_n d_M_fewest_116 rfl rfl ?_
                              refine x_getIG (kf := 7) d_M_fewest_117 rfl rfl rfl in_M f_M_269 ?_
                              refine x_icmp_ge (156) d_M_fewest_120 (by decide) (fun c9 => ?_) (fun c9 => ?_)
                              · have suffs : (zz.1 = -1 ∨ f_dc h s (h.2 6) < zz.2) → x_A y_M_fewest 169 [some oM, some (xI pl), some (xI (y : Int)), some (xI mask), some (xI zz.1), some (xI zz.2), some (xI (n : Int)), some (xI (s : Int)), some (xI (f_dc h s (h.2 6))), some (xI ((h.2 6 : Nat) : Int))] [] (S0, G2) 0 0 Q := by
                                  intro q3
                                  refine x_aload_n d_M_fewest_169 rfl rfl ?_
                                  refine x_iload_n d_M_fewest_170 rfl rfl ?_
                                  refine x_iload_n d_M_fewest_171 rfl rfl ?_
                                  refine x_iload_n d_M_fewest_172 rfl rfl ?_
                                  refine x_iload d_M_fewest_173 rfl ?_
                                  refine x_aload_n d_M_fewest_175 rfl rfl ?_
                                  refine x_V1 d_M_fewest_176 e_M_fewest_M_made ⟨rfl, rfl, Nat.zero_le _, Nat.zero_le _⟩ rfl rfl rfl rfl (Nat.le_of_ble_eq_true rfl) (s_made hh r2) ?_
                                  refine x_ior d_M_fewest_179 ?_
                                  refine x_VQ d_M_fewest_180 e_M_fewest_M_suffices ⟨rfl, rfl, Nat.zero_le _, Nat.zero_le _⟩ rfl rfl rfl rfl (Nat.le_of_ble_eq_true rfl) (s_suffices hh r2 pl y mask (x_or (s : Int) (f_made h (h.2 6))) (by omega) bits) (fun v τ hv => ?_)
                                  obtain ⟨G3, rfl, f3, hv⟩ := hv
                                  have f4 := f2.tr f3
                                  rcases hv with ⟨rfl, hv⟩ | ⟨rfl, hv⟩
                                  · have es : suf (x_or (s : Int) (f_made h (h.2 6))) = true := by rw [← hsu]; exact sufB_1 hv
                                    show x_A y_M_fewest 183 [some oM, some (xI pl), some (xI (y : Int)), some (xI mask), some (xI zz.1), some (xI zz.2), some (xI (n : Int)), some (xI (s : Int)), some (xI (f_dc h s (h.2 6))), some (xI ((h.2 6 : Nat) : Int))] [xI 1] (S0, G3) 0 0 Q
                                    rw [st, if_pos ⟨by omega, c8, q3, es⟩] at k2
                                    refine x_if_ne (189) d_M_fewest_183 (by decide) (fun c10 => ?_) (fun c10 => ?_)
                                    · refine x_iload d_M_fewest_189 rfl ?_
                                      refine x_istore d_M_fewest_191 (by decide) ?_
                                      dsimp only [x_st1, x_st2, x_kill, List.set, List.getElem?_cons_zero, List.getElem?_cons_succ]
                                      refine x_iload d_M_fewest_193 rfl ?_
                                      refine x_istore d_M_fewest_195 (by decide) ?_
                                      dsimp only [x_st1, x_st2, x_kill, List.set, List.getElem?_cons_zero, List.getElem?_cons_succ]
                                      refine x_iincN d_M_fewest_197 rfl (by decide) (by omega) (by omega) ?_
                                      dsimp only [x_st1, x_st2, x_kill, List.set, List.getElem?_cons_zero, List.getElem?_cons_succ]
                                      refine x_goto (74) d_M_fewest_200 (by decide) ?_
                                      exact x_sub (fun j v hj => by
                                        match j, hj with
                                        | 0, hj => exact hj
                                        | 1, hj => exact hj
                                        | 2, hj => exact hj
                                        | 3, hj => exact hj
                                        | 4, hj => exact hj
                                        | 5, hj => exact hj
                                        | 6, hj => exact hj
                                        | 7, hj => exact hj
                                        | 8, hj => cases hj
                                        | 9, hj => cases hj
                                        | j + 10, hj => cases hj) (k2 G3 f4)
                                    · exact absurd c10 (by decide)
                                  · have es : suf (x_or (s : Int) (f_made h (h.2 6))) = false := by rw [← hsu]; exact sufB_0 hv
                                    show x_A y_M_fewest 183 [some oM, some (xI pl), some (xI (y : Int)), some (xI mask), some (xI zz.1), some (xI zz.2), some (xI (n : Int)), some (xI (s : Int)), some (xI (f_dc h s (h.2 6))), some (xI ((h.2 6 : Nat) : Int))] [xI 0] (S0, G3) 0 0 Q
                                    refine x_if_ne (189) d_M_fewest_183 (by decide) (fun c10 => ?_) (fun c10 => ?_)
                                    · exact absurd rfl c10
                                    · refine x_goto (197) d_M_fewest_186 (by decide) ?_
                                      exact x_sub (fun j v hj => by
                                        match j, hj with
                                        | 0, hj => exact hj
                                        | 1, hj => exact hj
                                        | 2, hj => exact hj
                                        | 3, hj => exact hj
                                        | 4, hj => exact hj
                                        | 5, hj => exact hj
                                        | 6, hj => exact hj
                                        | 7, hj => exact hj
                                        | 8, hj => cases hj
                                        | 9, hj => cases hj
                                        | j + 10, hj => cases hj) (skip (fun q => by rw [es] at q; exact absurd q.2.2.2 (by decide)) G3 f4)
                                refine x_iload d_M_fewest_156 rfl ?_
                                refine x_iconst (-1) d_M_fewest_158 rfl ⟨by decide, by decide⟩ ?_
                                refine x_icmp_eq (169) d_M_fewest_159 (by decide) (fun c10 => ?_) (fun c10 => ?_)
                                · exact suffs (Or.inl c10)
                                · refine x_iload d_M_fewest_162 rfl ?_
                                  refine x_iload d_M_fewest_164 rfl ?_
                                  refine x_icmp_ge (197) d_M_fewest_166 (by decide) (fun c11 => ?_) (fun c11 => ?_)
                                  · exact x_sub (fun j v hj => by
                                      match j, hj with
                                      | 0, hj => exact hj
                                      | 1, hj => exact hj
                                      | 2, hj => exact hj
                                      | 3, hj => exact hj
                                      | 4, hj => exact hj
                                      | 5, hj => exact hj
                                      | 6, hj => exact hj
                                      | 7, hj => exact hj
                                      | 8, hj => cases hj
                                      | 9, hj => cases hj
                                      | j + 10, hj => cases hj) (skip (fun q => by rcases q.2.2.1 with z | z <;> omega) G2 f2)
                                  · exact suffs (Or.inr (by omega))
                              · omega
                            · have db := f_dc_bd hh (s := s) (d := d) (by omega)
                              have gd := hh.2.2.2.2.2.2.2.1 d hd
                              have ed := (r2.2.2.2.2.2.2.2.1 d hd).2.2.1
                              have sd : f_dc h s (d + 1) = f_dc h s d + if x_and (x_shr s d) 1 = 1 then h.1 6 d 2 else 0 := rfl
                              refine x_iload d_M_fewest_114 rfl ?_
                              refine x_aload_n d_M_fewest_116 rfl rfl ?_
                              refine x_getIG (kf := 7) d_M_fewest_117 rfl rfl rfl in_M f_M_269 ?_
                              refine x_icmp_ge (156) d_M_fewest_120 (by decide) (fun c9 => ?_) (fun c9 => ?_)
                              · omega
                              · refine x_iload d_M_fewest_123 rfl ?_
                                refine x_iload d_M_fewest_125 rfl ?_
                                refine x_iload d_M_fewest_127 rfl ?_
                                refine x_ishr d_M_fewest_129 ?_
                                refine x_iconst (1) d_M_fewest_130 rfl ⟨by decide, by decide⟩ ?_
                                refine x_iand d_M_fewest_131 ?_
                                refine x_iconst (1) d_M_fewest_132 rfl ⟨by decide, by decide⟩ ?_
                                refine x_icmp_ne (146) d_M_fewest_133 (by decide) (fun c10 => ?_) (fun c10 => ?_)
                                · rw [sd, if_neg c10] at k3
                                  refine x_iconst (0) d_M_fewest_146 rfl ⟨by decide, by decide⟩ ?_
                                  refine x_iaddN d_M_fewest_147 (by omega) (by omega) ?_
                                  refine x_istore d_M_fewest_148 (by decide) ?_
                                  dsimp only [x_st1, x_st2, x_kill, List.set, List.getElem?_cons_zero, List.getElem?_cons_succ]
                                  refine x_iincN d_M_fewest_150 rfl (by decide) (by omega) (by omega) ?_
                                  dsimp only [x_st1, x_st2, x_kill, List.set, List.getElem?_cons_zero, List.getElem?_cons_succ]
                                  refine x_goto (114) d_M_fewest_153 (by decide) ?_
                                  exact k3
                                · rw [sd, if_pos c10] at k3
                                  refine x_aload_n d_M_fewest_136 rfl rfl ?_
                                  refine x_getF (kf := 42) d_M_fewest_137 rfl rfl rfl in_M f_M_104 ?_
                                  refine x_iload d_M_fewest_140 rfl ?_
                                  refine x_ialdN (d) d_M_fewest_142 rfl (by omega) (by omega) ?_
                                  rw [ed]
                                  refine x_goto (147) d_M_fewest_143 (by decide) ?_
                                  refine x_iaddN d_M_fewest_147 (by omega) (by omega) ?_
                                  refine x_istore d_M_fewest_148 (by decide) ?_
                                  dsimp only [x_st1, x_st2, x_kill, List.set, List.getElem?_cons_zero, List.getElem?_cons_succ]
                                  refine x_iincN d_M_fewest_150 rfl (by decide) (by omega) (by omega) ?_
                                  dsimp only [x_st1, x_st2, x_kill, List.set, List.getElem?_cons_zero, List.getElem?_cons_succ]
                                  refine x_goto (114) d_M_fewest_153 (by decide) ?_
                                  exact k3
                          · refine x_goto (197) d_M_fewest_105 (by decide) ?_
                            exact skip (fun q => c8 q.2.1) G2 f2
                  exact sets G1 f1
          exact all _ (bFrame.rf _)
        · exact ff (fun z => c4 z.2.2.2)
