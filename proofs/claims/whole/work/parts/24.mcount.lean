/-! the reference: sums over the house -/
def f_people (h : HH) : Int := su (fun g => h.1 5 g 1) (h.2 5)
theorem s_people {h : HH} {G : Nat → Nat → Int} (hh : Hwf h) (r : mRep h G) : x_M y_M_people [oM] (S0, G) (x_is (.inl (some (xI (f_people h)))) (S0, G)) := by
  have b := hh.1
  have e0 := r.1
  refine x_of 2 rfl (Nat.le_of_ble_eq_true rfl) ?_
  show x_A y_M_people 0 [some oM, none, none] [] (S0, G) 0 0 _
  refine x_iconst (0) d_M_people_0 rfl ⟨by decide, by decide⟩ ?_
  refine x_istore_n d_M_people_1 rfl (by decide) ?_
  dsimp only [x_st1, x_st2, x_kill, List.set, List.getElem?_cons_zero, List.getElem?_cons_succ]
  refine x_iconst (0) d_M_people_2 rfl ⟨by decide, by decide⟩ ?_
  refine x_istore_n d_M_people_3 rfl (by decide) ?_
  dsimp only [x_st1, x_st2, x_kill, List.set, List.getElem?_cons_zero, List.getElem?_cons_succ]
  refine x_up_to (P := fun i => x_A y_M_people 4 [some oM, some (xI (su (fun g => h.1 5 g 1) i)), some (xI (i : Int))] [] (S0, G) 0 0 (x_is (.inl (some (xI (f_people h)))) (S0, G))) 0 (h.2 5) (Nat.zero_le _) ?_ (fun i _ hi k => ?_)
  · refine x_iload_n d_M_people_4 rfl rfl ?_
    refine x_aload_n d_M_people_5 rfl rfl ?_
    refine x_getIG (kf := 6) d_M_people_6 rfl rfl rfl in_M f_M_262 ?_
    refine x_icmp_ge (27) d_M_people_9 (by decide) (fun c => ?_) (fun c => ?_)
    · refine x_iload_n d_M_people_27 rfl rfl ?_
      refine x_ireturn d_M_people_28 rfl ?_ (Nat.zero_le _) (Nat.zero_le _)
      exact ⟨rfl, rfl⟩
    · omega
  · refine x_iload_n d_M_people_4 rfl rfl ?_
    refine x_aload_n d_M_people_5 rfl rfl ?_
    refine x_getIG (kf := 6) d_M_people_6 rfl rfl rfl in_M f_M_262 ?_
    refine x_icmp_ge (27) d_M_people_9 (by decide) (fun c => ?_) (fun c => ?_)
    · omega
    · have b1 := su_bd (f := fun g => h.1 5 g 1) (c := 0) (d := 60) (n := i) (fun j hj => by have := hh.2.2.2.2.2.2.1 j (by omega); omega)
      have b2 := hh.2.2.2.2.2.2.1 i hi
      obtain ⟨-, e2, -⟩ := r.2.2.2.2.2.2.1 i hi
      refine x_iload_n d_M_people_12 rfl rfl ?_
      refine x_aload_n d_M_people_13 rfl rfl ?_
      refine x_getF (kf := 38) d_M_people_14 rfl rfl rfl in_M f_M_92 ?_
      refine x_iload_n d_M_people_17 rfl rfl ?_
      refine x_ialdN (i) d_M_people_18 rfl (by omega) (by omega) ?_
      rw [e2]
      refine x_iaddN d_M_people_19 (by omega) (by omega) ?_
      refine x_istore_n d_M_people_20 rfl (by decide) ?_
      dsimp only [x_st1, x_st2, x_kill, List.set, List.getElem?_cons_zero, List.getElem?_cons_succ]
      refine x_iincN d_M_people_21 rfl (by decide) (by omega) (by omega) ?_
      dsimp only [x_st1, x_st2, x_kill, List.set, List.getElem?_cons_zero, List.getElem?_cons_succ]
      refine x_goto (4) d_M_people_24 (by decide) ?_
      exact k
def f_wide (h : HH) (p : Int) (set : Int) : Nat → Int
  | 0 => h.1 0 p.toNat 1
  | d + 1 => f_wide h p set d + if x_and (x_shr set d) 1 = 1 ∧ h.1 6 d 0 = p then h.1 6 d 1 else 0
theorem f_wide_bd {h : HH} (hh : Hwf h) {p : Nat} (hp : p < h.2 0) (set : Int) {d : Nat} (hd : d ≤ h.2 6) : 0 ≤ f_wide h p set d ∧ f_wide h p set d ≤ 40 + 40 * d := by
  induction d with
  | zero =>
    have := hh.2.1 p hp
    unfold f_wide
    rw [Int.toNat_natCast]
    omega
  | succ d ih =>
    have := ih (by omega)
    have g := hh.2.2.2.2.2.2.2.1 d (by omega)
    unfold f_wide
    split <;> omega
theorem s_wideOut {h : HH} {G : Nat → Nat → Int} (hh : Hwf h) (r : mRep h G) (p : Nat) (hp : p < h.2 0) (set : Int) : x_M y_M_wideOut [oM, xI (p : Int), xI set] (S0, G) (x_is (.inl (some (xI (f_wide h p set (h.2 6))))) (S0, G)) := by
  have b := hh.1
  have e0 := r.1
  obtain ⟨-, e3, -⟩ := r.2.1 p hp
  refine x_of 2 rfl (Nat.le_of_ble_eq_true rfl) ?_
  show x_A y_M_wideOut 0 [some oM, some (xI (p : Int)), some (xI set), none, none] [] (S0, G) 0 0 _
  refine x_aload_n d_M_wideOut_0 rfl rfl ?_
  refine x_getF (kf := 16) d_M_wideOut_1 rfl rfl rfl in_M f_M_26 ?_
  refine x_iload_n d_M_wideOut_4 rfl rfl ?_
  refine x_ialdN (p) d_M_wideOut_5 rfl (by omega) (by omega) ?_
  refine x_istore_n d_M_wideOut_6 rfl (by decide) ?_
  dsimp only [x_st1, x_st2, x_kill, List.set, List.getElem?_cons_zero, List.getElem?_cons_succ]
  refine x_iconst (0) d_M_wideOut_7 rfl ⟨by decide, by decide⟩ ?_
  refine x_istore d_M_wideOut_8 (by decide) ?_
  dsimp only [x_st1, x_st2, x_kill, List.set, List.getElem?_cons_zero, List.getElem?_cons_succ]
  have e4 : G m_out p = f_wide h p set 0 := by rw [e3]; unfold f_wide; rw [Int.toNat_natCast]
  rw [e4]
  refine x_up_to (P := fun i => x_A y_M_wideOut 10 [some oM, some (xI (p : Int)), some (xI set), some (xI (f_wide h p set i)), some (xI (i : Int))] [] (S0, G) 0 0 (x_is (.inl (some (xI (f_wide h p set (h.2 6))))) (S0, G))) 0 (h.2 6) (Nat.zero_le _) ?_ (fun i _ hi k => ?_)
  · refine x_iload d_M_wideOut_10 rfl ?_
    refine x_aload_n d_M_wideOut_12 rfl rfl ?_
    refine x_getIG (kf := 7) d_M_wideOut_13 rfl rfl rfl in_M f_M_269 ?_
    refine x_icmp_ge (60) d_M_wideOut_16 (by decide) (fun c => ?_) (fun c => ?_)
    · refine x_iload_n d_M_wideOut_60 rfl rfl ?_
      refine x_ireturn d_M_wideOut_61 rfl ?_ (Nat.zero_le _) (Nat.zero_le _)
      exact ⟨rfl, rfl⟩
    · omega
  · obtain ⟨e5, e6, -⟩ := r.2.2.2.2.2.2.2.1 i hi
    have g := hh.2.2.2.2.2.2.2.1 i hi
    have b1 := f_wide_bd hh hp set (d := i) (by omega)
    refine x_iload d_M_wideOut_10 rfl ?_
    refine x_aload_n d_M_wideOut_12 rfl rfl ?_
    refine x_getIG (kf := 7) d_M_wideOut_13 rfl rfl rfl in_M f_M_269 ?_
    refine x_icmp_ge (60) d_M_wideOut_16 (by decide) (fun c => ?_) (fun c => ?_)
    · omega
    · refine x_iload_n d_M_wideOut_19 rfl rfl ?_
      refine x_iload_n d_M_wideOut_20 rfl rfl ?_
      refine x_iload d_M_wideOut_21 rfl ?_
      refine x_ishr d_M_wideOut_23 ?_
      refine x_iconst (1) d_M_wideOut_24 rfl ⟨by decide, by decide⟩ ?_
      refine x_iand d_M_wideOut_25 ?_
      refine x_iconst (1) d_M_wideOut_26 rfl ⟨by decide, by decide⟩ ?_
      refine x_icmp_ne (51) d_M_wideOut_27 (by decide) (fun c1 => ?_) (fun c1 => ?_)
      · have e7 : f_wide h p set (i + 1) = f_wide h p set i + 0 := by
          show _ + (if _ then _ else _) = _
          rw [if_neg (fun q => c1 q.1)]
        refine x_iconst (0) d_M_wideOut_51 rfl ⟨by decide, by decide⟩ ?_
        refine x_iaddN d_M_wideOut_52 (by omega) (by omega) ?_
        refine x_istore_n d_M_wideOut_53 rfl (by decide) ?_
        dsimp only [x_st1, x_st2, x_kill, List.set, List.getElem?_cons_zero, List.getElem?_cons_succ]
        refine x_iincN d_M_wideOut_54 rfl (by decide) (by omega) (by omega) ?_
        dsimp only [x_st1, x_st2, x_kill, List.set, List.getElem?_cons_zero, List.getElem?_cons_succ]
        refine x_goto (10) d_M_wideOut_57 (by decide) ?_
        rw [← e7]
        exact k
      · refine x_aload_n d_M_wideOut_30 rfl rfl ?_
        refine x_getF (kf := 40) d_M_wideOut_31 rfl rfl rfl in_M f_M_98 ?_
        refine x_iload d_M_wideOut_34 rfl ?_
        refine x_ialdN (i) d_M_wideOut_36 rfl (by omega) (by omega) ?_
        refine x_iload_n d_M_wideOut_37 rfl rfl ?_
        refine x_icmp_ne (51) d_M_wideOut_38 (by decide) (fun c2 => ?_) (fun c2 => ?_)
        · have e7 : f_wide h p set (i + 1) = f_wide h p set i + 0 := by
            show _ + (if _ then _ else _) = _
            rw [if_neg (fun q => c2 (e5.trans q.2))]
          refine x_iconst (0) d_M_wideOut_51 rfl ⟨by decide, by decide⟩ ?_
          refine x_iaddN d_M_wideOut_52 (by omega) (by omega) ?_
          refine x_istore_n d_M_wideOut_53 rfl (by decide) ?_
          dsimp only [x_st1, x_st2, x_kill, List.set, List.getElem?_cons_zero, List.getElem?_cons_succ]
          refine x_iincN d_M_wideOut_54 rfl (by decide) (by omega) (by omega) ?_
          dsimp only [x_st1, x_st2, x_kill, List.set, List.getElem?_cons_zero, List.getElem?_cons_succ]
          refine x_goto (10) d_M_wideOut_57 (by decide) ?_
          rw [← e7]
          exact k
        · refine x_aload_n d_M_wideOut_41 rfl rfl ?_
          refine x_getF (kf := 41) d_M_wideOut_42 rfl rfl rfl in_M f_M_101 ?_
          refine x_iload d_M_wideOut_45 rfl ?_
          refine x_ialdN (i) d_M_wideOut_47 rfl (by omega) (by omega) ?_
          rw [e6]
          have e7 : f_wide h p set (i + 1) = f_wide h p set i + h.1 6 i 1 := by
            show _ + (if _ then _ else _) = _
            rw [if_pos ⟨c1, e5.symm.trans c2⟩]
          refine x_goto (52) d_M_wideOut_48 (by decide) ?_
          refine x_iaddN d_M_wideOut_52 (by omega) (by omega) ?_
          refine x_istore_n d_M_wideOut_53 rfl (by decide) ?_
          dsimp only [x_st1, x_st2, x_kill, List.set, List.getElem?_cons_zero, List.getElem?_cons_succ]
          refine x_iincN d_M_wideOut_54 rfl (by decide) (by omega) (by omega) ?_
          dsimp only [x_st1, x_st2, x_kill, List.set, List.getElem?_cons_zero, List.getElem?_cons_succ]
          refine x_goto (10) d_M_wideOut_57 (by decide) ?_
          rw [← e7]
          exact k
def f_made (h : HH) : Nat → Int
  | 0 => 0
  | d + 1 => x_or (f_made h d) (if h.1 6 d 3 = 0 then 0 else x_shl 1 d)
theorem f_made_s (h : HH) (d : Nat) : f_made h (d + 1) = x_or (f_made h d) (if h.1 6 d 3 = 0 then 0 else x_shl 1 d) := rfl
theorem s_made {h : HH} {G : Nat → Nat → Int} (hh : Hwf h) (r : mRep h G) : x_M y_M_made [oM] (S0, G) (x_is (.inl (some (xI (f_made h (h.2 6))))) (S0, G)) := by
  have b := hh.1
  have e0 := r.1
  refine x_of 2 rfl (Nat.le_of_ble_eq_true rfl) ?_
  show x_A y_M_made 0 [some oM, none, none] [] (S0, G) 0 0 _
  refine x_iconst (0) d_M_made_0 rfl ⟨by decide, by decide⟩ ?_
  refine x_istore_n d_M_made_1 rfl (by decide) ?_
  dsimp only [x_st1, x_st2, x_kill, List.set, List.getElem?_cons_zero, List.getElem?_cons_succ]
  refine x_iconst (0) d_M_made_2 rfl ⟨by decide, by decide⟩ ?_
  refine x_istore_n d_M_made_3 rfl (by decide) ?_
  dsimp only [x_st1, x_st2, x_kill, List.set, List.getElem?_cons_zero, List.getElem?_cons_succ]
  refine x_up_to (P := fun i => x_A y_M_made 4 [some oM, some (xI (f_made h i)), some (xI (i : Int))] [] (S0, G) 0 0 (x_is (.inl (some (xI (f_made h (h.2 6))))) (S0, G))) 0 (h.2 6) (Nat.zero_le _) ?_ (fun i _ hi k => ?_)
  · refine x_iload_n d_M_made_4 rfl rfl ?_
    refine x_aload_n d_M_made_5 rfl rfl ?_
    refine x_getIG (kf := 7) d_M_made_6 rfl rfl rfl in_M f_M_269 ?_
    refine x_icmp_ge (37) d_M_made_9 (by decide) (fun c => ?_) (fun c => ?_)
    · refine x_iload_n d_M_made_37 rfl rfl ?_
      refine x_ireturn d_M_made_38 rfl ?_ (Nat.zero_le _) (Nat.zero_le _)
      exact ⟨rfl, rfl⟩
    · omega
  · obtain ⟨-, -, -, e5⟩ := r.2.2.2.2.2.2.2.1 i hi
    refine x_iload_n d_M_made_4 rfl rfl ?_
    refine x_aload_n d_M_made_5 rfl rfl ?_
    refine x_getIG (kf := 7) d_M_made_6 rfl rfl rfl in_M f_M_269 ?_
    refine x_icmp_ge (37) d_M_made_9 (by decide) (fun c => ?_) (fun c => ?_)
    · omega
    · refine x_iload_n d_M_made_12 rfl rfl ?_
      refine x_aload_n d_M_made_13 rfl rfl ?_
      refine x_getF (kf := 43) d_M_made_14 rfl rfl rfl in_M f_M_107 ?_
      refine x_iload_n d_M_made_17 rfl rfl ?_
      refine x_baldN (i) d_M_made_18 rfl (by omega) (by omega) ?_
      rw [e5]
      refine x_if_eq (28) d_M_made_19 (by decide) (fun c1 => ?_) (fun c1 => ?_)
      · have e7 : f_made h (i + 1) = x_or (f_made h i) 0 := by
          rw [f_made_s, if_pos c1]
        refine x_iconst (0) d_M_made_28 rfl ⟨by decide, by decide⟩ ?_
        refine x_ior d_M_made_29 ?_
        refine x_istore_n d_M_made_30 rfl (by decide) ?_
        dsimp only [x_st1, x_st2, x_kill, List.set, List.getElem?_cons_zero, List.getElem?_cons_succ]
        refine x_iincN d_M_made_31 rfl (by decide) (by omega) (by omega) ?_
        dsimp only [x_st1, x_st2, x_kill, List.set, List.getElem?_cons_zero, List.getElem?_cons_succ]
        refine x_goto (4) d_M_made_34 (by decide) ?_
        rw [← e7]
        exact k
      · have e7 : f_made h (i + 1) = x_or (f_made h i) (x_shl 1 i) := by
          rw [f_made_s, if_neg c1]
        refine x_iconst (1) d_M_made_22 rfl ⟨by decide, by decide⟩ ?_
        refine x_iload_n d_M_made_23 rfl rfl ?_
        refine x_ishl d_M_made_24 ?_
        refine x_goto (29) d_M_made_25 (by decide) ?_
        refine x_ior d_M_made_29 ?_
        refine x_istore_n d_M_made_30 rfl (by decide) ?_
        dsimp only [x_st1, x_st2, x_kill, List.set, List.getElem?_cons_zero, List.getElem?_cons_succ]
        refine x_iincN d_M_made_31 rfl (by decide) (by omega) (by omega) ?_
        dsimp only [x_st1, x_st2, x_kill, List.set, List.getElem?_cons_zero, List.getElem?_cons_succ]
        refine x_goto (4) d_M_made_34 (by decide) ?_
        rw [← e7]
        exact k
/-- which of the sets counts for a fan in a minute: the first k of them looked at -/
def f_byIx (h : HH) (pl fan m : Int) : Nat → Int
  | 0 => -1
  | k + 1 => if h.1 4 k 0 = pl ∧ h.1 4 k 1 = fan ∧ h.1 4 k 2 ≤ m ∧ (f_byIx h pl fan m k = -1 ∨ h.1 4 (f_byIx h pl fan m k).toNat 2 ≤ h.1 4 k 2) then k else f_byIx h pl fan m k
def f_isBy (h : HH) (pl fan m : Int) : Int := if f_byIx h pl fan m (h.2 4) = -1 then 0 else h.1 4 (f_byIx h pl fan m (h.2 4)).toNat 3
theorem f_byIx_bd (h : HH) (pl fan m : Int) (k : Nat) : -1 ≤ f_byIx h pl fan m k ∧ f_byIx h pl fan m k < k := by
  induction k with
  | zero => unfold f_byIx; omega
  | succ k ih =>
    unfold f_byIx
    split <;> omega
theorem f_isBy_bd {h : HH} (hh : Hwf h) (pl fan m : Int) : -1 ≤ f_isBy h pl fan m ∧ f_isBy h pl fan m ≤ 1 := by
  unfold f_isBy
  have := f_byIx_bd h pl fan m (h.2 4)
  split
  · omega
  · have := hh.2.2.2.2.2.1 (f_byIx h pl fan m (h.2 4)).toNat (by omega)
    omega
theorem s_isBy {h : HH} {G : Nat → Nat → Int} (hh : Hwf h) (r : mRep h G) (pl fan m : Int) : x_M y_M_isBy [oM, xI pl, xI fan, xI m] (S0, G) (x_is (.inl (some (xI (f_isBy h pl fan m)))) (S0, G)) := by
  have b := hh.1
  have e0 := r.1
  refine x_of 2 rfl (Nat.le_of_ble_eq_true rfl) ?_
  show x_A y_M_isBy 0 [some oM, some (xI pl), some (xI fan), some (xI m), none, none] [] (S0, G) 0 0 _
  refine x_iconst (-1) d_M_isBy_0 rfl ⟨by decide, by decide⟩ ?_
  refine x_istore d_M_isBy_1 (by decide) ?_
  dsimp only [x_st1, x_st2, x_kill, List.set, List.getElem?_cons_zero, List.getElem?_cons_succ]
  refine x_iconst (0) d_M_isBy_3 rfl ⟨by decide, by decide⟩ ?_
  refine x_istore d_M_isBy_4 (by decide) ?_
  dsimp only [x_st1, x_st2, x_kill, List.set, List.getElem?_cons_zero, List.getElem?_cons_succ]
  refine x_up_to (P := fun i => x_A y_M_isBy 6 [some oM, some (xI pl), some (xI fan), some (xI m), some (xI (f_byIx h pl fan m i)), some (xI (i : Int))] [] (S0, G) 0 0 (x_is (.inl (some (xI (f_isBy h pl fan m)))) (S0, G))) 0 (h.2 4) (Nat.zero_le _) ?_ (fun i _ hi k => ?_)
  · have bd := f_byIx_bd h pl fan m (h.2 4)
    refine x_iload d_M_isBy_6 rfl ?_
    refine x_aload_n d_M_isBy_8 rfl rfl ?_
    refine x_getIG (kf := 5) d_M_isBy_9 rfl rfl rfl in_M f_M_259 ?_
    refine x_icmp_ge (81) d_M_isBy_12 (by decide) (fun c => ?_) (fun c => ?_)
    · refine x_iload d_M_isBy_81 rfl ?_
      refine x_iconst (-1) d_M_isBy_83 rfl ⟨by decide, by decide⟩ ?_
      refine x_icmp_ne (91) d_M_isBy_84 (by decide) (fun c1 => ?_) (fun c1 => ?_)
      · refine x_aload_n d_M_isBy_91 rfl rfl ?_
        refine x_getF (kf := 36) d_M_isBy_92 rfl rfl rfl in_M f_M_86 ?_
        refine x_iload d_M_isBy_95 rfl ?_
        refine x_ialdN ((f_byIx h pl fan m (h.2 4)).toNat) d_M_isBy_97 rfl (by omega) (by omega) ?_
        refine x_ireturn d_M_isBy_98 rfl ?_ (Nat.zero_le _) (Nat.zero_le _)
        unfold f_isBy
        obtain ⟨-, -, -, e4⟩ := r.2.2.2.2.2.1 (f_byIx h pl fan m (h.2 4)).toNat (by omega)
        rw [if_neg c1, ← e4]; exact ⟨rfl, rfl⟩
      · refine x_iconst (0) d_M_isBy_87 rfl ⟨by decide, by decide⟩ ?_
        refine x_goto (98) d_M_isBy_88 (by decide) ?_
        refine x_ireturn d_M_isBy_98 rfl ?_ (Nat.zero_le _) (Nat.zero_le _)
        unfold f_isBy
        rw [if_pos c1]; exact ⟨rfl, rfl⟩
    · omega
  · obtain ⟨e1, e2, e3, -⟩ := r.2.2.2.2.2.1 i hi
    have bd := f_byIx_bd h pl fan m i
    refine x_iload d_M_isBy_6 rfl ?_
    refine x_aload_n d_M_isBy_8 rfl rfl ?_
    refine x_getIG (kf := 5) d_M_isBy_9 rfl rfl rfl in_M f_M_259 ?_
    refine x_icmp_ge (81) d_M_isBy_12 (by decide) (fun c => ?_) (fun c => ?_)
    · omega
    · have no : (¬ (h.1 4 i 0 = pl ∧ h.1 4 i 1 = fan ∧ h.1 4 i 2 ≤ m ∧ (f_byIx h pl fan m i = -1 ∨ h.1 4 (f_byIx h pl fan m i).toNat 2 ≤ h.1 4 i 2))) → x_A y_M_isBy 75 [some oM, some (xI pl), some (xI fan), some (xI m), some (xI (f_byIx h pl fan m i)), some (xI (i : Int))] [] (S0, G) 0 0 (x_is (.inl (some (xI (f_isBy h pl fan m)))) (S0, G)) := by
        intro hn
        refine x_iincN d_M_isBy_75 rfl (by decide) (by omega) (by omega) ?_
        dsimp only [x_st1, x_st2, x_kill, List.set, List.getElem?_cons_zero, List.getElem?_cons_succ]
        refine x_goto (6) d_M_isBy_78 (by decide) ?_
        have e7 : f_byIx h pl fan m (i + 1) = f_byIx h pl fan m i := by
          show (if _ then _ else _) = _
          rw [if_neg hn]
        rw [← e7]
        exact k
      have yes : (h.1 4 i 0 = pl ∧ h.1 4 i 1 = fan ∧ h.1 4 i 2 ≤ m ∧ (f_byIx h pl fan m i = -1 ∨ h.1 4 (f_byIx h pl fan m i).toNat 2 ≤ h.1 4 i 2)) → x_A y_M_isBy 71 [some oM, some (xI pl), some (xI fan), some (xI m), some (xI (f_byIx h pl fan m i)), some (xI (i : Int))] [] (S0, G) 0 0 (x_is (.inl (some (xI (f_isBy h pl fan m)))) (S0, G)) := by
        intro hn
        refine x_iload d_M_isBy_71 rfl ?_
        refine x_istore d_M_isBy_73 (by decide) ?_
        dsimp only [x_st1, x_st2, x_kill, List.set, List.getElem?_cons_zero, List.getElem?_cons_succ]
        refine x_iincN d_M_isBy_75 rfl (by decide) (by omega) (by omega) ?_
        dsimp only [x_st1, x_st2, x_kill, List.set, List.getElem?_cons_zero, List.getElem?_cons_succ]
        refine x_goto (6) d_M_isBy_78 (by decide) ?_
        have e7 : f_byIx h pl fan m (i + 1) = (i : Int) := by
          show (if _ then _ else _) = _
          rw [if_pos hn]
        rw [e7] at k
        exact k
      refine x_aload_n d_M_isBy_15 rfl rfl ?_
      refine x_getF (kf := 33) d_M_isBy_16 rfl rfl rfl in_M f_M_77 ?_
      refine x_iload d_M_isBy_19 rfl ?_
      refine x_ialdN (i) d_M_isBy_21 rfl (by omega) (by omega) ?_
      refine x_iload_n d_M_isBy_22 rfl rfl ?_
      refine x_icmp_ne (75) d_M_isBy_23 (by decide) (fun c1 => ?_) (fun c1 => ?_)
      · exact no (fun q => c1 (e1.trans q.1))
      · refine x_aload_n d_M_isBy_26 rfl rfl ?_
        refine x_getF (kf := 34) d_M_isBy_27 rfl rfl rfl in_M f_M_80 ?_
        refine x_iload d_M_isBy_30 rfl ?_
        refine x_ialdN (i) d_M_isBy_32 rfl (by omega) (by omega) ?_
        refine x_iload_n d_M_isBy_33 rfl rfl ?_
        refine x_icmp_ne (75) d_M_isBy_34 (by decide) (fun c2 => ?_) (fun c2 => ?_)
        · exact no (fun q => c2 (e2.trans q.2.1))
        · refine x_aload_n d_M_isBy_37 rfl rfl ?_
          refine x_getF (kf := 35) d_M_isBy_38 rfl rfl rfl in_M f_M_83 ?_
          refine x_iload d_M_isBy_41 rfl ?_
          refine x_ialdN (i) d_M_isBy_43 rfl (by omega) (by omega) ?_
          refine x_iload_n d_M_isBy_44 rfl rfl ?_
          refine x_icmp_gt (75) d_M_isBy_45 (by decide) (fun c3 => ?_) (fun c3 => ?_)
          · exact no (fun q => by have := q.2.2.1; omega)
          · refine x_iload d_M_isBy_48 rfl ?_
            refine x_iconst (-1) d_M_isBy_50 rfl ⟨by decide, by decide⟩ ?_
            refine x_icmp_eq (71) d_M_isBy_51 (by decide) (fun c4 => ?_) (fun c4 => ?_)
            · exact yes ⟨e1.symm.trans c1, e2.symm.trans c2, by omega, Or.inl c4⟩
            · obtain ⟨-, -, e4, -⟩ := r.2.2.2.2.2.1 (f_byIx h pl fan m i).toNat (by omega)
              refine x_aload_n d_M_isBy_54 rfl rfl ?_
              refine x_getF (kf := 35) d_M_isBy_55 rfl rfl rfl in_M f_M_83 ?_
              refine x_iload d_M_isBy_58 rfl ?_
              refine x_ialdN (i) d_M_isBy_60 rfl (by omega) (by omega) ?_
              refine x_aload_n d_M_isBy_61 rfl rfl ?_
              refine x_getF (kf := 35) d_M_isBy_62 rfl rfl rfl in_M f_M_83 ?_
              refine x_iload d_M_isBy_65 rfl ?_
              refine x_ialdN ((f_byIx h pl fan m i).toNat) d_M_isBy_67 rfl (by omega) (by omega) ?_
              refine x_icmp_lt (75) d_M_isBy_68 (by decide) (fun c5 => ?_) (fun c5 => ?_)
              · exact no (fun q => by rcases q.2.2.2 with q | q <;> omega)
              · exact yes ⟨e1.symm.trans c1, e2.symm.trans c2, by omega, Or.inr (by omega)⟩
