/-! the class: plain questions of House -/
abbrev oHo : XV := xR (some o_Ho)
section CH
variable {h : HH} {G : Nat → Nat → Int}
theorem c_walkTimes (hh : Hwf h) (r : fRep h G) : x_M y_Ho_walkTimes [oHo] (S0, G) (x_is (.inl (some (xI (h.1 9 0 1)))) (S0, G)) := by
  have h9 := r.1
  refine x_of 0 rfl (Nat.le_of_ble_eq_true rfl) ?_
  show x_A y_Ho_walkTimes 0 [some oHo] [] (S0, G) 0 0 _
  refine x_aload_n d_Ho_walkTimes_0 rfl rfl ?_
  refine x_getF (kf := 9) d_Ho_walkTimes_1 rfl rfl rfl in_Ho f_Ho_44 ?_
  refine x_iconst (0) d_Ho_walkTimes_4 rfl ⟨by decide, by decide⟩ ?_
  refine x_iconst (1) d_Ho_walkTimes_5 rfl ⟨by decide, by decide⟩ ?_
  refine x_V1 d_Ho_walkTimes_6 e_Ho_walkTimes_Ta_at ⟨rfl, rfl, Nat.zero_le _, Nat.zero_le _⟩ rfl rfl rfl rfl (Nat.le_of_ble_eq_true rfl) (k_at hh r 9 0 1 (by decide) (by omega) (by decide) rfl rfl) ?_
  refine x_ireturn d_Ho_walkTimes_9 rfl ?_ (Nat.zero_le _) (Nat.zero_le _)
  exact ⟨rfl, rfl⟩
theorem c_gives (hh : Hwf h) (r : fRep h G) (f : Int) (m : Nat) (hf : -1 ≤ f ∧ f < h.2 2) (hm : m ≤ 20) : x_M y_Ho_gives [oHo, xI f, xI (m : Int)] (S0, G) (x_is (.inl (some (xI (f_gives h f m)))) (S0, G)) := by
  refine x_of 1 rfl (Nat.le_of_ble_eq_true rfl) ?_
  show x_A y_Ho_gives 0 [some oHo, some (xI f), some (xI (m : Int)), none] [] (S0, G) 0 0 _
  unfold f_gives
  refine x_aload_n d_Ho_gives_0 rfl rfl ?_
  refine x_getF (kf := 2) d_Ho_gives_1 rfl rfl rfl in_Ho f_Ho_23 ?_
  refine x_iload_n d_Ho_gives_4 rfl rfl ?_
  refine x_V1 d_Ho_gives_5 e_Ho_gives_Ta_has ⟨rfl, rfl, Nat.zero_le _, Nat.zero_le _⟩ rfl rfl rfl rfl (Nat.le_of_ble_eq_true rfl) (k_has r 2 (by decide) (f)) ?_
  by_cases e : f = -1
  · subst e
    rw [decide_eq_false (by omega)]
    refine x_if_eq (37) d_Ho_gives_8 (by decide) (fun g => ?_) (fun g => ?_)
    · refine x_iconst (0) d_Ho_gives_37 rfl ⟨by decide, by decide⟩ ?_
      refine x_ireturn d_Ho_gives_38 rfl ?_ (Nat.zero_le _) (Nat.zero_le _)
      rw [if_pos (Or.inl rfl)]
      exact ⟨rfl, rfl⟩
    · exact (g rfl).elim
  · obtain ⟨n, rfl⟩ : ∃ n : Nat, f = (n : Int) := ⟨f.toNat, by omega⟩
    have hn : n < h.2 2 := by omega
    have b := hh.2.2.2.1 n hn
    rw [decide_eq_true (by omega), Int.toNat_natCast]
    refine x_if_eq (37) d_Ho_gives_8 (by decide) (fun g => ?_) (fun g => ?_)
    · cases g
    · refine x_iload_n d_Ho_gives_11 rfl rfl ?_
      refine x_aload_n d_Ho_gives_12 rfl rfl ?_
      refine x_getF (kf := 2) d_Ho_gives_13 rfl rfl rfl in_Ho f_Ho_23 ?_
      refine x_iload_n d_Ho_gives_16 rfl rfl ?_
      refine x_iconst (1) d_Ho_gives_17 rfl ⟨by decide, by decide⟩ ?_
      refine x_V1 d_Ho_gives_18 e_Ho_gives_Ta_at ⟨rfl, rfl, Nat.zero_le _, Nat.zero_le _⟩ rfl rfl rfl rfl (Nat.le_of_ble_eq_true rfl) (k_at hh r 2 n 1 (by decide) hn (by decide) rfl rfl) ?_
      refine x_icmp_lt (37) d_Ho_gives_21 (by decide) (fun g2 => ?_) (fun g2 => ?_)
      · refine x_iconst (0) d_Ho_gives_37 rfl ⟨by decide, by decide⟩ ?_
        refine x_ireturn d_Ho_gives_38 rfl ?_ (Nat.zero_le _) (Nat.zero_le _)
        rw [if_pos (Or.inr (Or.inl g2))]
        exact ⟨rfl, rfl⟩
      · refine x_iload_n d_Ho_gives_24 rfl rfl ?_
        refine x_aload_n d_Ho_gives_25 rfl rfl ?_
        refine x_getF (kf := 2) d_Ho_gives_26 rfl rfl rfl in_Ho f_Ho_23 ?_
        refine x_iload_n d_Ho_gives_29 rfl rfl ?_
        refine x_iconst (2) d_Ho_gives_30 rfl ⟨by decide, by decide⟩ ?_
        refine x_V1 d_Ho_gives_31 e_Ho_gives_Ta_at ⟨rfl, rfl, Nat.zero_le _, Nat.zero_le _⟩ rfl rfl rfl rfl (Nat.le_of_ble_eq_true rfl) (k_at hh r 2 n 2 (by decide) hn (by decide) rfl rfl) ?_
        refine x_icmp_lt (39) d_Ho_gives_34 (by decide) (fun g3 => ?_) (fun g3 => ?_)
        · have hp : 0 ≤ h.1 2 n 4 * ((m : Int) - h.1 2 n 1) ∧ h.1 2 n 4 * ((m : Int) - h.1 2 n 1) ≤ 100000 * 20 := ⟨Int.mul_nonneg (by omega) (by omega), Int.mul_le_mul (by omega) (by omega) (by omega) (by omega)⟩
          refine x_aload_n d_Ho_gives_39 rfl rfl ?_
          refine x_getF (kf := 2) d_Ho_gives_40 rfl rfl rfl in_Ho f_Ho_23 ?_
          refine x_iload_n d_Ho_gives_43 rfl rfl ?_
          refine x_iconst (4) d_Ho_gives_44 rfl ⟨by decide, by decide⟩ ?_
          refine x_V1 d_Ho_gives_45 e_Ho_gives_Ta_at ⟨rfl, rfl, Nat.zero_le _, Nat.zero_le _⟩ rfl rfl rfl rfl (Nat.le_of_ble_eq_true rfl) (k_at hh r 2 n 4 (by decide) hn (by decide) rfl rfl) ?_
          refine x_iload_n d_Ho_gives_48 rfl rfl ?_
          refine x_aload_n d_Ho_gives_49 rfl rfl ?_
          refine x_getF (kf := 2) d_Ho_gives_50 rfl rfl rfl in_Ho f_Ho_23 ?_
          refine x_iload_n d_Ho_gives_53 rfl rfl ?_
          refine x_iconst (1) d_Ho_gives_54 rfl ⟨by decide, by decide⟩ ?_
          refine x_V1 d_Ho_gives_55 e_Ho_gives_Ta_at ⟨rfl, rfl, Nat.zero_le _, Nat.zero_le _⟩ rfl rfl rfl rfl (Nat.le_of_ble_eq_true rfl) (k_at hh r 2 n 1 (by decide) hn (by decide) rfl rfl) ?_
          refine x_isubN d_Ho_gives_58 (by omega) (by omega) ?_
          refine x_imulN d_Ho_gives_59 (by omega) (by omega) ?_
          refine x_istore_n d_Ho_gives_60 rfl (by decide) ?_
          dsimp only [x_st1, x_st2, x_kill, List.set, List.getElem?_cons_zero, List.getElem?_cons_succ]
          refine x_aload_n d_Ho_gives_61 rfl rfl ?_
          refine x_getF (kf := 2) d_Ho_gives_62 rfl rfl rfl in_Ho f_Ho_23 ?_
          refine x_iload_n d_Ho_gives_65 rfl rfl ?_
          refine x_iconst (5) d_Ho_gives_66 rfl ⟨by decide, by decide⟩ ?_
          refine x_V1 d_Ho_gives_67 e_Ho_gives_Ta_at ⟨rfl, rfl, Nat.zero_le _, Nat.zero_le _⟩ rfl rfl rfl rfl (Nat.le_of_ble_eq_true rfl) (k_at hh r 2 n 5 (by decide) hn (by decide) rfl rfl) ?_
          refine x_aload_n d_Ho_gives_70 rfl rfl ?_
          refine x_getF (kf := 2) d_Ho_gives_71 rfl rfl rfl in_Ho f_Ho_23 ?_
          refine x_iload_n d_Ho_gives_74 rfl rfl ?_
          refine x_iconst (3) d_Ho_gives_75 rfl ⟨by decide, by decide⟩ ?_
          refine x_V1 d_Ho_gives_76 e_Ho_gives_Ta_at ⟨rfl, rfl, Nat.zero_le _, Nat.zero_le _⟩ rfl rfl rfl rfl (Nat.le_of_ble_eq_true rfl) (k_at hh r 2 n 3 (by decide) hn (by decide) rfl rfl) ?_
          refine x_iload_n d_Ho_gives_79 rfl rfl ?_
          refine x_iaddN d_Ho_gives_80 (by omega) (by omega) ?_
          refine x_S1 d_Ho_gives_81 e_Ho_gives_JM_min ⟨rfl, rfl, Nat.zero_le _, Nat.zero_le _⟩ rfl rfl (Nat.le_of_ble_eq_true rfl) (s_min _ _ _) ?_
          refine x_ireturn d_Ho_gives_84 rfl ?_ (Nat.zero_le _) (Nat.zero_le _)
          rw [if_neg (by omega)]
          exact ⟨rfl, rfl⟩
        · refine x_iconst (0) d_Ho_gives_37 rfl ⟨by decide, by decide⟩ ?_
          refine x_ireturn d_Ho_gives_38 rfl ?_ (Nat.zero_le _) (Nat.zero_le _)
          rw [if_pos (Or.inr (Or.inr (by omega)))]
          exact ⟨rfl, rfl⟩
/-- the other end, or -1 -/
def f_end (h : HH) (p : Int) (w : Nat) : Int := if f_at h p w = true then f_oth h p w else -1
theorem c_otherEnd (hh : Hwf h) (r : fRep h G) (w : Nat) (hw : w < h.2 1) (p : Int) : x_M y_Ho_otherEnd [oHo, xI (w : Int), xI p] (S0, G) (x_is (.inl (some (xI (f_end h p w)))) (S0, G)) := by
  have b := hh.2.2.1 w hw
  refine x_of 3 rfl (Nat.le_of_ble_eq_true rfl) ?_
  show x_A y_Ho_otherEnd 0 [some oHo, some (xI (w : Int)), some (xI p), none, none, none] [] (S0, G) 0 0 _
  refine x_aload_n d_Ho_otherEnd_0 rfl rfl ?_
  refine x_getF (kf := 1) d_Ho_otherEnd_1 rfl rfl rfl in_Ho f_Ho_20 ?_
  refine x_iload_n d_Ho_otherEnd_4 rfl rfl ?_
  refine x_iconst (0) d_Ho_otherEnd_5 rfl ⟨by decide, by decide⟩ ?_
  refine x_V1 d_Ho_otherEnd_6 e_Ho_otherEnd_Ta_at ⟨rfl, rfl, Nat.zero_le _, Nat.zero_le _⟩ rfl rfl rfl rfl (Nat.le_of_ble_eq_true rfl) (k_at hh r 1 w 0 (by decide) hw (by decide) rfl rfl) ?_
  refine x_istore_n d_Ho_otherEnd_9 rfl (by decide) ?_
  dsimp only [x_st1, x_st2, x_kill, List.set, List.getElem?_cons_zero, List.getElem?_cons_succ]
  refine x_aload_n d_Ho_otherEnd_10 rfl rfl ?_
  refine x_getF (kf := 1) d_Ho_otherEnd_11 rfl rfl rfl in_Ho f_Ho_20 ?_
  refine x_iload_n d_Ho_otherEnd_14 rfl rfl ?_
  refine x_iconst (1) d_Ho_otherEnd_15 rfl ⟨by decide, by decide⟩ ?_
  refine x_V1 d_Ho_otherEnd_16 e_Ho_otherEnd_Ta_at ⟨rfl, rfl, Nat.zero_le _, Nat.zero_le _⟩ rfl rfl rfl rfl (Nat.le_of_ble_eq_true rfl) (k_at hh r 1 w 1 (by decide) hw (by decide) rfl rfl) ?_
  refine x_istore d_Ho_otherEnd_19 (by decide) ?_
  dsimp only [x_st1, x_st2, x_kill, List.set, List.getElem?_cons_zero, List.getElem?_cons_succ]
  refine x_iload_n d_Ho_otherEnd_21 rfl rfl ?_
  refine x_iload_n d_Ho_otherEnd_22 rfl rfl ?_
  unfold f_end f_at f_oth
  refine x_icmp_ne (31) d_Ho_otherEnd_23 (by decide) (fun g1 => ?_) (fun g1 => ?_)
  · refine x_iload d_Ho_otherEnd_31 rfl ?_
    refine x_iload_n d_Ho_otherEnd_33 rfl rfl ?_
    refine x_icmp_ne (41) d_Ho_otherEnd_34 (by decide) (fun g2 => ?_) (fun g2 => ?_)
    · refine x_iconst (-1) d_Ho_otherEnd_41 rfl ⟨by decide, by decide⟩ ?_
      refine x_istore d_Ho_otherEnd_42 (by decide) ?_
      dsimp only [x_st1, x_st2, x_kill, List.set, List.getElem?_cons_zero, List.getElem?_cons_succ]
      refine x_aload_n d_Ho_otherEnd_44 rfl rfl ?_
      refine x_getF (kf := 0) d_Ho_otherEnd_45 rfl rfl rfl in_Ho f_Ho_14 ?_
      refine x_iload d_Ho_otherEnd_48 rfl ?_
      refine x_V1 d_Ho_otherEnd_50 e_Ho_otherEnd_Ta_has ⟨rfl, rfl, Nat.zero_le _, Nat.zero_le _⟩ rfl rfl rfl rfl (Nat.le_of_ble_eq_true rfl) (k_has r 0 (by decide) (-1)) ?_
      rw [decide_eq_false (by omega)]
      refine x_if_eq (61) d_Ho_otherEnd_53 (by decide) (fun g3 => ?_) (fun g3 => ?_)
      · refine x_iconst (-1) d_Ho_otherEnd_61 rfl ⟨by decide, by decide⟩ ?_
        refine x_ireturn d_Ho_otherEnd_62 rfl ?_ (Nat.zero_le _) (Nat.zero_le _)
        rw [if_neg (by simp; omega)]
        exact ⟨rfl, rfl⟩
      · exact (g3 rfl).elim
    · refine x_iload_n d_Ho_otherEnd_37 rfl rfl ?_
      refine x_goto (42) d_Ho_otherEnd_38 (by decide) ?_
      refine x_istore d_Ho_otherEnd_42 (by decide) ?_
      dsimp only [x_st1, x_st2, x_kill, List.set, List.getElem?_cons_zero, List.getElem?_cons_succ]
      refine x_aload_n d_Ho_otherEnd_44 rfl rfl ?_
      refine x_getF (kf := 0) d_Ho_otherEnd_45 rfl rfl rfl in_Ho f_Ho_14 ?_
      refine x_iload d_Ho_otherEnd_48 rfl ?_
      refine x_V1 d_Ho_otherEnd_50 e_Ho_otherEnd_Ta_has ⟨rfl, rfl, Nat.zero_le _, Nat.zero_le _⟩ rfl rfl rfl rfl (Nat.le_of_ble_eq_true rfl) (k_has r 0 (by decide) (h.1 1 w 0)) ?_
      rw [decide_eq_true (by omega)]
      refine x_if_eq (61) d_Ho_otherEnd_53 (by decide) (fun g3 => ?_) (fun g3 => ?_)
      · cases g3
      · refine x_iload d_Ho_otherEnd_56 rfl ?_
        refine x_goto (62) d_Ho_otherEnd_58 (by decide) ?_
        refine x_ireturn d_Ho_otherEnd_62 rfl ?_ (Nat.zero_le _) (Nat.zero_le _)
        rw [if_pos (by simp; omega), if_neg (by omega)]
        exact ⟨rfl, rfl⟩
  · refine x_iload d_Ho_otherEnd_26 rfl ?_
    refine x_goto (42) d_Ho_otherEnd_28 (by decide) ?_
    refine x_istore d_Ho_otherEnd_42 (by decide) ?_
    dsimp only [x_st1, x_st2, x_kill, List.set, List.getElem?_cons_zero, List.getElem?_cons_succ]
    refine x_aload_n d_Ho_otherEnd_44 rfl rfl ?_
    refine x_getF (kf := 0) d_Ho_otherEnd_45 rfl rfl rfl in_Ho f_Ho_14 ?_
    refine x_iload d_Ho_otherEnd_48 rfl ?_
    refine x_V1 d_Ho_otherEnd_50 e_Ho_otherEnd_Ta_has ⟨rfl, rfl, Nat.zero_le _, Nat.zero_le _⟩ rfl rfl rfl rfl (Nat.le_of_ble_eq_true rfl) (k_has r 0 (by decide) (h.1 1 w 1)) ?_
    rw [decide_eq_true (by omega)]
    refine x_if_eq (61) d_Ho_otherEnd_53 (by decide) (fun g3 => ?_) (fun g3 => ?_)
    · cases g3
    · refine x_iload d_Ho_otherEnd_56 rfl ?_
      refine x_goto (62) d_Ho_otherEnd_58 (by decide) ?_
      refine x_ireturn d_Ho_otherEnd_62 rfl ?_ (Nat.zero_le _) (Nat.zero_le _)
      rw [if_pos (by simp; omega), if_pos (by omega)]
      exact ⟨rfl, rfl⟩
theorem c_allPeople (hh : Hwf h) (r : fRep h G) : x_M y_Ho_allPeople [oHo] (S0, G) (x_is (.inl (some (xI (f_people h)))) (S0, G)) := by
  have b := hh.1
  refine x_of 2 rfl (Nat.le_of_ble_eq_true rfl) ?_
  show x_A y_Ho_allPeople 0 [some oHo, none, none] [] (S0, G) 0 0 _
  refine x_iconst (0) d_Ho_allPeople_0 rfl ⟨by decide, by decide⟩ ?_
  refine x_istore_n d_Ho_allPeople_1 rfl (by decide) ?_
  dsimp only [x_st1, x_st2, x_kill, List.set, List.getElem?_cons_zero, List.getElem?_cons_succ]
  refine x_iconst (0) d_Ho_allPeople_2 rfl ⟨by decide, by decide⟩ ?_
  refine x_istore_n d_Ho_allPeople_3 rfl (by decide) ?_
  dsimp only [x_st1, x_st2, x_kill, List.set, List.getElem?_cons_zero, List.getElem?_cons_succ]
  refine x_up_to (P := fun i => x_A y_Ho_allPeople 4 [some oHo, some (xI (su (fun g => h.1 5 g 1) i)), some (xI (i : Int))] [] (S0, G) 0 0 (x_is (.inl (some (xI (f_people h)))) (S0, G))) 0 (h.2 5) (Nat.zero_le _) ?_ (fun i _ hi k => ?_)
  · refine x_iload_n d_Ho_allPeople_4 rfl rfl ?_
    refine x_aload_n d_Ho_allPeople_5 rfl rfl ?_
    refine x_getF (kf := 5) d_Ho_allPeople_6 rfl rfl rfl in_Ho f_Ho_32 ?_
    refine x_V1 d_Ho_allPeople_9 e_Ho_allPeople_Ta_size ⟨rfl, rfl, Nat.zero_le _, Nat.zero_le _⟩ rfl rfl rfl rfl (Nat.le_of_ble_eq_true rfl) (k_size r 5 (by decide)) ?_
    refine x_icmp_ge (33) d_Ho_allPeople_12 (by decide) (fun c => ?_) (fun c => ?_)
    · refine x_iload_n d_Ho_allPeople_33 rfl rfl ?_
      refine x_ireturn d_Ho_allPeople_34 rfl ?_ (Nat.zero_le _) (Nat.zero_le _)
      exact ⟨rfl, rfl⟩
    · omega
  · refine x_iload_n d_Ho_allPeople_4 rfl rfl ?_
    refine x_aload_n d_Ho_allPeople_5 rfl rfl ?_
    refine x_getF (kf := 5) d_Ho_allPeople_6 rfl rfl rfl in_Ho f_Ho_32 ?_
    refine x_V1 d_Ho_allPeople_9 e_Ho_allPeople_Ta_size ⟨rfl, rfl, Nat.zero_le _, Nat.zero_le _⟩ rfl rfl rfl rfl (Nat.le_of_ble_eq_true rfl) (k_size r 5 (by decide)) ?_
    refine x_icmp_ge (33) d_Ho_allPeople_12 (by decide) (fun c => ?_) (fun c => ?_)
    · omega
    · have b1 := su_bd (f := fun g => h.1 5 g 1) (c := 0) (d := 60) (n := i) (fun j hj => by have := hh.2.2.2.2.2.2.1 j (by omega); omega)
      have b2 := hh.2.2.2.2.2.2.1 i hi
      refine x_iload_n d_Ho_allPeople_15 rfl rfl ?_
      refine x_aload_n d_Ho_allPeople_16 rfl rfl ?_
      refine x_getF (kf := 5) d_Ho_allPeople_17 rfl rfl rfl in_Ho f_Ho_32 ?_
      refine x_iload_n d_Ho_allPeople_20 rfl rfl ?_
      refine x_iconst (1) d_Ho_allPeople_21 rfl ⟨by decide, by decide⟩ ?_
      refine x_V1 d_Ho_allPeople_22 e_Ho_allPeople_Ta_at ⟨rfl, rfl, Nat.zero_le _, Nat.zero_le _⟩ rfl rfl rfl rfl (Nat.le_of_ble_eq_true rfl) (k_at hh r 5 i 1 (by decide) hi (by decide) rfl rfl) ?_
      refine x_iaddN d_Ho_allPeople_25 (by omega) (by omega) ?_
      refine x_istore_n d_Ho_allPeople_26 rfl (by decide) ?_
      dsimp only [x_st1, x_st2, x_kill, List.set, List.getElem?_cons_zero, List.getElem?_cons_succ]
      refine x_iincN d_Ho_allPeople_27 rfl (by decide) (by omega) (by omega) ?_
      dsimp only [x_st1, x_st2, x_kill, List.set, List.getElem?_cons_zero, List.getElem?_cons_succ]
      refine x_goto (4) d_Ho_allPeople_30 (by decide) ?_
      exact k
theorem x_shl_01 {z : Int} (hz : z = 0 ∨ z = 1) (d : Nat) : x_shl z d = if z = 0 then 0 else x_shl 1 d := by
  rcases hz with rfl | rfl
  · rw [if_pos rfl]
    unfold x_shl
    show (0 <<< (Int32.ofInt d &&& 31)).toInt = 0
    simp
  · rfl
theorem c_madeDoors (hh : Hwf h) (r : fRep h G) : x_M y_Ho_madeDoors [oHo] (S0, G) (x_is (.inl (some (xI (f_made h (h.2 6))))) (S0, G)) := by
  have b := hh.1
  refine x_of 2 rfl (Nat.le_of_ble_eq_true rfl) ?_
  show x_A y_Ho_madeDoors 0 [some oHo, none, none] [] (S0, G) 0 0 _
  refine x_iconst (0) d_Ho_madeDoors_0 rfl ⟨by decide, by decide⟩ ?_
  refine x_istore_n d_Ho_madeDoors_1 rfl (by decide) ?_
  dsimp only [x_st1, x_st2, x_kill, List.set, List.getElem?_cons_zero, List.getElem?_cons_succ]
  refine x_iconst (0) d_Ho_madeDoors_2 rfl ⟨by decide, by decide⟩ ?_
  refine x_istore_n d_Ho_madeDoors_3 rfl (by decide) ?_
  dsimp only [x_st1, x_st2, x_kill, List.set, List.getElem?_cons_zero, List.getElem?_cons_succ]
  refine x_up_to (P := fun i => x_A y_Ho_madeDoors 4 [some oHo, some (xI (f_made h i)), some (xI (i : Int))] [] (S0, G) 0 0 (x_is (.inl (some (xI (f_made h (h.2 6))))) (S0, G))) 0 (h.2 6) (Nat.zero_le _) ?_ (fun i _ hi k => ?_)
  · refine x_iload_n d_Ho_madeDoors_4 rfl rfl ?_
    refine x_aload_n d_Ho_madeDoors_5 rfl rfl ?_
    refine x_getF (kf := 6) d_Ho_madeDoors_6 rfl rfl rfl in_Ho f_Ho_35 ?_
    refine x_V1 d_Ho_madeDoors_9 e_Ho_madeDoors_Ta_size ⟨rfl, rfl, Nat.zero_le _, Nat.zero_le _⟩ rfl rfl rfl rfl (Nat.le_of_ble_eq_true rfl) (k_size r 6 (by decide)) ?_
    refine x_icmp_ge (35) d_Ho_madeDoors_12 (by decide) (fun c => ?_) (fun c => ?_)
    · refine x_iload_n d_Ho_madeDoors_35 rfl rfl ?_
      refine x_ireturn d_Ho_madeDoors_36 rfl ?_ (Nat.zero_le _) (Nat.zero_le _)
      exact ⟨rfl, rfl⟩
    · omega
  · refine x_iload_n d_Ho_madeDoors_4 rfl rfl ?_
    refine x_aload_n d_Ho_madeDoors_5 rfl rfl ?_
    refine x_getF (kf := 6) d_Ho_madeDoors_6 rfl rfl rfl in_Ho f_Ho_35 ?_
    refine x_V1 d_Ho_madeDoors_9 e_Ho_madeDoors_Ta_size ⟨rfl, rfl, Nat.zero_le _, Nat.zero_le _⟩ rfl rfl rfl rfl (Nat.le_of_ble_eq_true rfl) (k_size r 6 (by decide)) ?_
    refine x_icmp_ge (35) d_Ho_madeDoors_12 (by decide) (fun c => ?_) (fun c => ?_)
    · omega
    · have b2 := hh.2.2.2.2.2.2.2.1 i hi
      refine x_iload_n d_Ho_madeDoors_15 rfl rfl ?_
      refine x_aload_n d_Ho_madeDoors_16 rfl rfl ?_
      refine x_getF (kf := 6) d_Ho_madeDoors_17 rfl rfl rfl in_Ho f_Ho_35 ?_
      refine x_iload_n d_Ho_madeDoors_20 rfl rfl ?_
      refine x_iconst (3) d_Ho_madeDoors_21 rfl ⟨by decide, by decide⟩ ?_
      refine x_V1 d_Ho_madeDoors_22 e_Ho_madeDoors_Ta_at ⟨rfl, rfl, Nat.zero_le _, Nat.zero_le _⟩ rfl rfl rfl rfl (Nat.le_of_ble_eq_true rfl) (k_at hh r 6 i 3 (by decide) hi (by decide) rfl rfl) ?_
      refine x_iload_n d_Ho_madeDoors_25 rfl rfl ?_
      refine x_ishl d_Ho_madeDoors_26 ?_
      rw [x_shl_01 (by omega)]
      refine x_ior d_Ho_madeDoors_27 ?_
      refine x_istore_n d_Ho_madeDoors_28 rfl (by decide) ?_
      dsimp only [x_st1, x_st2, x_kill, List.set, List.getElem?_cons_zero, List.getElem?_cons_succ]
      refine x_iincN d_Ho_madeDoors_29 rfl (by decide) (by omega) (by omega) ?_
      dsimp only [x_st1, x_st2, x_kill, List.set, List.getElem?_cons_zero, List.getElem?_cons_succ]
      refine x_goto (4) d_Ho_madeDoors_32 (by decide) ?_
      rw [f_made_s] at k
      exact k
theorem c_exitWidth (hh : Hwf h) (r : fRep h G) (p : Nat) (hp : p < h.2 0) (set : Int) : x_M y_Ho_exitWidth [oHo, xI (p : Int), xI set] (S0, G) (x_is (.inl (some (xI (f_wide h p set (h.2 6))))) (S0, G)) := by
  have b := hh.1
  refine x_of 2 rfl (Nat.le_of_ble_eq_true rfl) ?_
  show x_A y_Ho_exitWidth 0 [some oHo, some (xI (p : Int)), some (xI set), none, none] [] (S0, G) 0 0 _
  refine x_aload_n d_Ho_exitWidth_0 rfl rfl ?_
  refine x_getF (kf := 0) d_Ho_exitWidth_1 rfl rfl rfl in_Ho f_Ho_14 ?_
  refine x_iload_n d_Ho_exitWidth_4 rfl rfl ?_
  refine x_iconst (1) d_Ho_exitWidth_5 rfl ⟨by decide, by decide⟩ ?_
  refine x_V1 d_Ho_exitWidth_6 e_Ho_exitWidth_Ta_at ⟨rfl, rfl, Nat.zero_le _, Nat.zero_le _⟩ rfl rfl rfl rfl (Nat.le_of_ble_eq_true rfl) (k_at hh r 0 p 1 (by decide) hp (by decide) rfl rfl) ?_
  have e4 : h.1 0 p 1 = f_wide h p set 0 := by unfold f_wide; rw [Int.toNat_natCast]
  rw [e4]
  refine x_istore_n d_Ho_exitWidth_9 rfl (by decide) ?_
  dsimp only [x_st1, x_st2, x_kill, List.set, List.getElem?_cons_zero, List.getElem?_cons_succ]
  refine x_iconst (0) d_Ho_exitWidth_10 rfl ⟨by decide, by decide⟩ ?_
  refine x_istore d_Ho_exitWidth_11 (by decide) ?_
  dsimp only [x_st1, x_st2, x_kill, List.set, List.getElem?_cons_zero, List.getElem?_cons_succ]
  refine x_up_to (P := fun i => x_A y_Ho_exitWidth 13 [some oHo, some (xI (p : Int)), some (xI set), some (xI (f_wide h p set i)), some (xI (i : Int))] [] (S0, G) 0 0 (x_is (.inl (some (xI (f_wide h p set (h.2 6))))) (S0, G))) 0 (h.2 6) (Nat.zero_le _) ?_ (fun i _ hi k => ?_)
  · refine x_iload d_Ho_exitWidth_13 rfl ?_
    refine x_aload_n d_Ho_exitWidth_15 rfl rfl ?_
    refine x_getF (kf := 6) d_Ho_exitWidth_16 rfl rfl rfl in_Ho f_Ho_35 ?_
    refine x_V1 d_Ho_exitWidth_19 e_Ho_exitWidth_Ta_size ⟨rfl, rfl, Nat.zero_le _, Nat.zero_le _⟩ rfl rfl rfl rfl (Nat.le_of_ble_eq_true rfl) (k_size r 6 (by decide)) ?_
    refine x_icmp_ge (68) d_Ho_exitWidth_22 (by decide) (fun c => ?_) (fun c => ?_)
    · refine x_iload_n d_Ho_exitWidth_68 rfl rfl ?_
      refine x_ireturn d_Ho_exitWidth_69 rfl ?_ (Nat.zero_le _) (Nat.zero_le _)
      exact ⟨rfl, rfl⟩
    · omega
  · have b2 := hh.2.2.2.2.2.2.2.1 i hi
    have b3 := f_wide_bd hh hp set (d := i) (by omega)
    have e5 : f_wide h p set (i + 1) = f_wide h p set i + if x_and (x_shr set i) 1 = 1 ∧ h.1 6 i 0 = p then h.1 6 i 1 else 0 := rfl
    refine x_iload d_Ho_exitWidth_13 rfl ?_
    refine x_aload_n d_Ho_exitWidth_15 rfl rfl ?_
    refine x_getF (kf := 6) d_Ho_exitWidth_16 rfl rfl rfl in_Ho f_Ho_35 ?_
    refine x_V1 d_Ho_exitWidth_19 e_Ho_exitWidth_Ta_size ⟨rfl, rfl, Nat.zero_le _, Nat.zero_le _⟩ rfl rfl rfl rfl (Nat.le_of_ble_eq_true rfl) (k_size r 6 (by decide)) ?_
    refine x_icmp_ge (68) d_Ho_exitWidth_22 (by decide) (fun c => ?_) (fun c => ?_)
    · omega
    · refine x_iload_n d_Ho_exitWidth_25 rfl rfl ?_
      refine x_iload d_Ho_exitWidth_26 rfl ?_
      refine x_ishr d_Ho_exitWidth_28 ?_
      refine x_iconst (1) d_Ho_exitWidth_29 rfl ⟨by decide, by decide⟩ ?_
      refine x_iand d_Ho_exitWidth_30 ?_
      refine x_iconst (1) d_Ho_exitWidth_31 rfl ⟨by decide, by decide⟩ ?_
      refine x_icmp_ne (62) d_Ho_exitWidth_32 (by decide) (fun g1 => ?_) (fun g1 => ?_)
      · rw [if_neg (fun z => g1 z.1), Int.add_zero] at e5
        rw [e5] at k
        refine x_iincN d_Ho_exitWidth_62 rfl (by decide) (by omega) (by omega) ?_
        dsimp only [x_st1, x_st2, x_kill, List.set, List.getElem?_cons_zero, List.getElem?_cons_succ]
        refine x_goto (13) d_Ho_exitWidth_65 (by decide) ?_
        exact k
      · refine x_aload_n d_Ho_exitWidth_35 rfl rfl ?_
        refine x_getF (kf := 6) d_Ho_exitWidth_36 rfl rfl rfl in_Ho f_Ho_35 ?_
        refine x_iload d_Ho_exitWidth_39 rfl ?_
        refine x_iconst (0) d_Ho_exitWidth_41 rfl ⟨by decide, by decide⟩ ?_
        refine x_V1 d_Ho_exitWidth_42 e_Ho_exitWidth_Ta_at ⟨rfl, rfl, Nat.zero_le _, Nat.zero_le _⟩ rfl rfl rfl rfl (Nat.le_of_ble_eq_true rfl) (k_at hh r 6 i 0 (by decide) hi (by decide) rfl rfl) ?_
        refine x_iload_n d_Ho_exitWidth_45 rfl rfl ?_
        refine x_icmp_ne (62) d_Ho_exitWidth_46 (by decide) (fun g2 => ?_) (fun g2 => ?_)
        · rw [if_neg (fun z => g2 z.2), Int.add_zero] at e5
          rw [e5] at k
          refine x_iincN d_Ho_exitWidth_62 rfl (by decide) (by omega) (by omega) ?_
          dsimp only [x_st1, x_st2, x_kill, List.set, List.getElem?_cons_zero, List.getElem?_cons_succ]
          refine x_goto (13) d_Ho_exitWidth_65 (by decide) ?_
          exact k
        · rw [if_pos ⟨by omega, by omega⟩] at e5
          refine x_iload_n d_Ho_exitWidth_49 rfl rfl ?_
          refine x_aload_n d_Ho_exitWidth_50 rfl rfl ?_
          refine x_getF (kf := 6) d_Ho_exitWidth_51 rfl rfl rfl in_Ho f_Ho_35 ?_
          refine x_iload d_Ho_exitWidth_54 rfl ?_
          refine x_iconst (1) d_Ho_exitWidth_56 rfl ⟨by decide, by decide⟩ ?_
          refine x_V1 d_Ho_exitWidth_57 e_Ho_exitWidth_Ta_at ⟨rfl, rfl, Nat.zero_le _, Nat.zero_le _⟩ rfl rfl rfl rfl (Nat.le_of_ble_eq_true rfl) (k_at hh r 6 i 1 (by decide) hi (by decide) rfl rfl) ?_
          refine x_iaddN d_Ho_exitWidth_60 (by omega) (by omega) ?_
          refine x_istore_n d_Ho_exitWidth_61 rfl (by decide) ?_
          dsimp only [x_st1, x_st2, x_kill, List.set, List.getElem?_cons_zero, List.getElem?_cons_succ]
          refine x_iincN d_Ho_exitWidth_62 rfl (by decide) (by omega) (by omega) ?_
          dsimp only [x_st1, x_st2, x_kill, List.set, List.getElem?_cons_zero, List.getElem?_cons_succ]
          refine x_goto (13) d_Ho_exitWidth_65 (by decide) ?_
          rw [e5] at k
          exact k
def f_dcs (h : HH) (set : Int) (d : Nat) : Int := if x_and (x_shr set d) 1 = 1 then h.1 6 d 2 else 0
theorem f_dcs_bd (hh : Hwf h) (set : Int) {d : Nat} (hd : d ≤ h.2 6) : 0 ≤ su (f_dcs h set) d ∧ su (f_dcs h set) d ≤ d * 1000 := by
  have := su_bd (f := f_dcs h set) (c := 0) (d := 1000) (n := d) (fun i hi => by
    have g := hh.2.2.2.2.2.2.2.1 i (by omega)
    unfold f_dcs
    split <;> omega)
  omega
theorem c_doorCost (hh : Hwf h) (r : fRep h G) (set : Int) : x_M y_Ho_doorCost [oHo, xI set] (S0, G) (x_is (.inl (some (xI (su (f_dcs h set) (h.2 6))))) (S0, G)) := by
  have b := hh.1
  refine x_of 2 rfl (Nat.le_of_ble_eq_true rfl) ?_
  show x_A y_Ho_doorCost 0 [some oHo, some (xI set), none, none] [] (S0, G) 0 0 _
  refine x_iconst (0) d_Ho_doorCost_0 rfl ⟨by decide, by decide⟩ ?_
  refine x_istore_n d_Ho_doorCost_1 rfl (by decide) ?_
  dsimp only [x_st1, x_st2, x_kill, List.set, List.getElem?_cons_zero, List.getElem?_cons_succ]
  refine x_iconst (0) d_Ho_doorCost_2 rfl ⟨by decide, by decide⟩ ?_
  refine x_istore_n d_Ho_doorCost_3 rfl (by decide) ?_
  dsimp only [x_st1, x_st2, x_kill, List.set, List.getElem?_cons_zero, List.getElem?_cons_succ]
  refine x_up_to (P := fun i => x_A y_Ho_doorCost 4 [some oHo, some (xI set), some (xI (su (f_dcs h set) i)), some (xI (i : Int))] [] (S0, G) 0 0 (x_is (.inl (some (xI (su (f_dcs h set) (h.2 6))))) (S0, G))) 0 (h.2 6) (Nat.zero_le _) ?_ (fun i _ hi k => ?_)
  · refine x_iload_n d_Ho_doorCost_4 rfl rfl ?_
    refine x_aload_n d_Ho_doorCost_5 rfl rfl ?_
    refine x_getF (kf := 6) d_Ho_doorCost_6 rfl rfl rfl in_Ho f_Ho_35 ?_
    refine x_V1 d_Ho_doorCost_9 e_Ho_doorCost_Ta_size ⟨rfl, rfl, Nat.zero_le _, Nat.zero_le _⟩ rfl rfl rfl rfl (Nat.le_of_ble_eq_true rfl) (k_size r 6 (by decide)) ?_
    refine x_icmp_ge (42) d_Ho_doorCost_12 (by decide) (fun c => ?_) (fun c => ?_)
    · refine x_iload_n d_Ho_doorCost_42 rfl rfl ?_
      refine x_ireturn d_Ho_doorCost_43 rfl ?_ (Nat.zero_le _) (Nat.zero_le _)
      exact ⟨rfl, rfl⟩
    · omega
  · have b2 := hh.2.2.2.2.2.2.2.1 i hi
    have b3 := f_dcs_bd hh set (d := i) (by omega)
    have e5 : su (f_dcs h set) (i + 1) = su (f_dcs h set) i + if x_and (x_shr set i) 1 = 1 then h.1 6 i 2 else 0 := rfl
    refine x_iload_n d_Ho_doorCost_4 rfl rfl ?_
    refine x_aload_n d_Ho_doorCost_5 rfl rfl ?_
    refine x_getF (kf := 6) d_Ho_doorCost_6 rfl rfl rfl in_Ho f_Ho_35 ?_
    refine x_V1 d_Ho_doorCost_9 e_Ho_doorCost_Ta_size ⟨rfl, rfl, Nat.zero_le _, Nat.zero_le _⟩ rfl rfl rfl rfl (Nat.le_of_ble_eq_true rfl) (k_size r 6 (by decide)) ?_
    refine x_icmp_ge (42) d_Ho_doorCost_12 (by decide) (fun c => ?_) (fun c => ?_)
    · omega
    · refine x_iload_n d_Ho_doorCost_15 rfl rfl ?_
      refine x_iload_n d_Ho_doorCost_16 rfl rfl ?_
      refine x_ishr d_Ho_doorCost_17 ?_
      refine x_iconst (1) d_Ho_doorCost_18 rfl ⟨by decide, by decide⟩ ?_
      refine x_iand d_Ho_doorCost_19 ?_
      refine x_iconst (1) d_Ho_doorCost_20 rfl ⟨by decide, by decide⟩ ?_
      refine x_icmp_ne (36) d_Ho_doorCost_21 (by decide) (fun g1 => ?_) (fun g1 => ?_)
      · rw [if_neg g1, Int.add_zero] at e5
        rw [e5] at k
        refine x_iincN d_Ho_doorCost_36 rfl (by decide) (by omega) (by omega) ?_
        dsimp only [x_st1, x_st2, x_kill, List.set, List.getElem?_cons_zero, List.getElem?_cons_succ]
        refine x_goto (4) d_Ho_doorCost_39 (by decide) ?_
        exact k
      · rw [if_pos (by omega)] at e5
        refine x_iload_n d_Ho_doorCost_24 rfl rfl ?_
        refine x_aload_n d_Ho_doorCost_25 rfl rfl ?_
        refine x_getF (kf := 6) d_Ho_doorCost_26 rfl rfl rfl in_Ho f_Ho_35 ?_
        refine x_iload_n d_Ho_doorCost_29 rfl rfl ?_
        refine x_iconst (2) d_Ho_doorCost_30 rfl ⟨by decide, by decide⟩ ?_
        refine x_V1 d_Ho_doorCost_31 e_Ho_doorCost_Ta_at ⟨rfl, rfl, Nat.zero_le _, Nat.zero_le _⟩ rfl rfl rfl rfl (Nat.le_of_ble_eq_true rfl) (k_at hh r 6 i 2 (by decide) hi (by decide) rfl rfl) ?_
        refine x_iaddN d_Ho_doorCost_34 (by omega) (by omega) ?_
        refine x_istore_n d_Ho_doorCost_35 rfl (by decide) ?_
        dsimp only [x_st1, x_st2, x_kill, List.set, List.getElem?_cons_zero, List.getElem?_cons_succ]
        refine x_iincN d_Ho_doorCost_36 rfl (by decide) (by omega) (by omega) ?_
        dsimp only [x_st1, x_st2, x_kill, List.set, List.getElem?_cons_zero, List.getElem?_cons_succ]
        refine x_goto (4) d_Ho_doorCost_39 (by decide) ?_
        rw [e5] at k
        exact k
end CH
