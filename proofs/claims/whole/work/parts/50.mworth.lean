/-! the reference: isIn, leaves, worthOf -/
theorem x_d16 {n : Nat} (h : n < 336) : x_div (n : Int) 16 = ((n / 16 : Nat) : Int) := by
  have key : ∀ n : Fin 336, x_div ((n : Nat) : Int) 16 = (((n : Nat) / 16 : Nat) : Int) := by decide +kernel
  exact key ⟨n, h⟩
theorem x_r16 {n : Nat} (h : n < 336) : x_rem (n : Int) 16 = ((n % 16 : Nat) : Int) := by
  have key : ∀ n : Fin 336, x_rem ((n : Nat) : Int) 16 = (((n : Nat) % 16 : Nat) : Int) := by decide +kernel
  exact key ⟨n, h⟩
/-- the side that lies in the memory -/
def f_in (G : Nat → Nat → Int) (n : Nat) : Bool := xb (G m_sides (n / 16)) (n % 16)
theorem s_isIn (G : Nat → Nat → Int) {n : Nat} (hn : n < 336) : x_M y_M_isIn [oM, xI (n : Int)] (S0, G) (x_is (.inl (some (xI (b2i (f_in G n))))) (S0, G)) := by
  refine x_of 0 rfl (Nat.le_of_ble_eq_true rfl) ?_
  show x_A y_M_isIn 0 [some oM, some (xI (n : Int))] [] (S0, G) 0 0 _
  refine x_aload_n d_M_isIn_0 rfl rfl ?_
  refine x_getF (kf := 69) d_M_isIn_1 rfl rfl rfl in_M f_M_174 ?_
  refine x_iload_n d_M_isIn_4 rfl rfl ?_
  refine x_bipush (16) d_M_isIn_5 rfl ⟨by decide, by decide⟩ ?_
  refine x_idiv d_M_isIn_7 (by decide) ?_
  rw [x_d16 hn]
  refine x_ialdN (n / 16) d_M_isIn_8 rfl (by omega) (by omega) ?_
  refine x_iload_n d_M_isIn_9 rfl rfl ?_
  refine x_bipush (16) d_M_isIn_10 rfl ⟨by decide, by decide⟩ ?_
  refine x_irem d_M_isIn_12 (by decide) ?_
  rw [x_r16 hn]
  refine x_ishr d_M_isIn_13 ?_
  refine x_iconst (1) d_M_isIn_14 rfl ⟨by decide, by decide⟩ ?_
  refine x_iand d_M_isIn_15 ?_
  refine x_iconst (1) d_M_isIn_16 rfl ⟨by decide, by decide⟩ ?_
  have hb := x_bit (G m_sides (n / 16)) (b := n % 16) (by omega)
  refine x_icmp_ne (24) d_M_isIn_17 (by decide) (fun c => ?_) (fun c => ?_)
  · refine x_iconst (0) d_M_isIn_24 rfl ⟨by decide, by decide⟩ ?_
    refine x_zreturn d_M_isIn_25 rfl (by first | exact Or.inl rfl | exact Or.inr rfl | (split <;> first | exact Or.inl rfl | exact Or.inr rfl) | assumption) ?_ (Nat.zero_le _) (Nat.zero_le _)
    have : f_in G n = false := by
      unfold f_in
      cases q : xb (G m_sides (n / 16)) (n % 16) with
      | false => rfl
      | true => exact absurd (hb.2 q) c
    rw [this]; exact ⟨rfl, rfl⟩
  · refine x_iconst (1) d_M_isIn_20 rfl ⟨by decide, by decide⟩ ?_
    refine x_goto (25) d_M_isIn_21 (by decide) ?_
    refine x_zreturn d_M_isIn_25 rfl (by first | exact Or.inl rfl | exact Or.inr rfl | (split <;> first | exact Or.inl rfl | exact Or.inr rfl) | assumption) ?_ (Nat.zero_le _) (Nat.zero_le _)
    have : f_in G n = true := hb.1 c
    rw [this]; exact ⟨rfl, rfl⟩
def f_lw (h : HH) (S : Nat → Bool) (by' p m w : Nat) : Int := if f_at h p w = true ∧ (m : Int) + h.1 1 w 2 * h.1 9 0 1 ≤ by' ∧ S (16 * ((m : Int) + h.1 1 w 2 * h.1 9 0 1).toNat + (f_oth h p w).toNat) = false then h.1 1 w 3 else 0
def f_lv (h : HH) (S : Nat → Bool) (by' p m : Nat) : Int := (if m < by' then f_wide h p (f_made h (h.2 6)) (h.2 6) else 0) + su (f_lw h S by' p m) (h.2 1)
theorem f_lw_bd {h : HH} (hh : Hwf h) {S : Nat → Bool} {by' p m w : Nat} (hw : w < h.2 1) : 0 ≤ f_lw h S by' p m w ∧ f_lw h S by' p m w ≤ 40 := by
  have := hh.2.2.1 w hw
  unfold f_lw
  split <;> omega
theorem f_lv_bd {h : HH} (hh : Hwf h) {S : Nat → Bool} {by' p m : Nat} (hp : p < h.2 0) : 0 ≤ f_lv h S by' p m ∧ f_lv h S by' p m ≤ 1000 := by
  have b := hh.1
  have h1 := su_bd (f := f_lw h S by' p m) (c := 0) (d := 40) (n := h.2 1) (fun w hw => f_lw_bd hh hw)
  have h2 := f_wide_bd hh hp (f_made h (h.2 6)) (d := h.2 6) (Nat.le_refl _)
  unfold f_lv
  split <;> omega
theorem s_leaves {h : HH} {G : Nat → Nat → Int} (hh : Hwf h) (r : mRep h G) (p m by' : Nat) (hp : p < h.2 0) (hb : by' ≤ 20) (hm : m ≤ by') : x_M y_M_leaves [oM, xI (p : Int), xI (m : Int), xI (by' : Int)] (S0, G) (x_is (.inl (some (xI (if m < by' ∧ f_in G (16 * (m + 1) + p) = false then -1 else f_lv h (f_in G) by' p m)))) (S0, G)) := by
  have b := hh.1
  have e0 := r.1
  have dl := hh.2.2.2.2.2.2.2.2.2.2
  have e9 := r.2.2.2.2.2.2.2.2.2.2
  have wb := f_wide_bd hh hp (f_made h (h.2 6)) (d := h.2 6) (Nat.le_refl _)
  refine x_of 3 rfl (Nat.le_of_ble_eq_true rfl) ?_
  show x_A y_M_leaves 0 [some oM, some (xI (p : Int)), some (xI (m : Int)), some (xI (by' : Int)), none, none, none] [] (S0, G) 0 0 _
  generalize hV : (if m < by' ∧ f_in G (16 * (m + 1) + p) = false then -1 else f_lv h (f_in G) by' p m) = V
  -- the ways
  have ways : ∀ t : Int, 0 ≤ t → t ≤ 280 → (t + su (f_lw h (f_in G) by' p m) (h.2 1) = V) → x_A y_M_leaves 41 [some oM, some (xI (p : Int)), some (xI (m : Int)), some (xI (by' : Int)), some (xI t), none, none] [] (S0, G) 0 0 (x_is (.inl (some (xI V))) (S0, G)) := by
    intro t t1 t2 t3
    refine x_iconst (0) d_M_leaves_41 rfl ⟨by decide, by decide⟩ ?_
    refine x_istore d_M_leaves_42 (by decide) ?_
    dsimp only [x_st1, x_st2, x_kill, List.set, List.getElem?_cons_zero, List.getElem?_cons_succ]
    rw [show t = t + su (f_lw h (f_in G) by' p m) 0 from (Int.add_zero t).symm]
    refine x_up_to (P := fun i => x_A y_M_leaves 44 [some oM, some (xI (p : Int)), some (xI (m : Int)), some (xI (by' : Int)), some (xI (t + su (f_lw h (f_in G) by' p m) i)), some (xI (i : Int)), none] [] (S0, G) 0 0 (x_is (.inl (some (xI V))) (S0, G))) 0 (h.2 1) (Nat.zero_le _) ?_ (fun i _ hi k => ?_)
    · refine x_iload d_M_leaves_44 rfl ?_
      refine x_aload_n d_M_leaves_46 rfl rfl ?_
      refine x_getIG (kf := 2) d_M_leaves_47 rfl rfl rfl in_M f_M_250 ?_
      refine x_icmp_ge (122) d_M_leaves_50 (by decide) (fun c => ?_) (fun c => ?_)
      · refine x_iload d_M_leaves_122 rfl ?_
        refine x_ireturn d_M_leaves_124 rfl ?_ (Nat.zero_le _) (Nat.zero_le _)
        rw [t3]
        exact ⟨rfl, rfl⟩
      · omega
    · obtain ⟨-, -, e3, e4, -⟩ := r.2.2.1 i hi
      have g := hh.2.2.1 i hi
      have b1 := su_bd (f := f_lw h (f_in G) by' p m) (c := 0) (d := 40) (n := i) (fun w hw => f_lw_bd hh (by omega))
      have m1 : 0 ≤ h.1 1 i 2 * h.1 9 0 1 := Int.mul_nonneg (by omega) (by omega)
      have m2 : h.1 1 i 2 * h.1 9 0 1 ≤ 4 * 3 := Int.mul_le_mul (by omega) (by omega) (by omega) (by omega)
      have skip : f_lw h (f_in G) by' p m i = 0 → x_A y_M_leaves 116 [some oM, some (xI (p : Int)), some (xI (m : Int)), some (xI (by' : Int)), some (xI (t + su (f_lw h (f_in G) by' p m) i)), some (xI (i : Int)), none] [] (S0, G) 0 0 (x_is (.inl (some (xI V))) (S0, G)) := by
        intro z
        have e7 : su (f_lw h (f_in G) by' p m) (i + 1) = su (f_lw h (f_in G) by' p m) i := by
          show _ + _ = _
          rw [z, Int.add_zero]
        rw [e7] at k
        refine x_iincN d_M_leaves_116 rfl (by decide) (by omega) (by omega) ?_
        dsimp only [x_st1, x_st2, x_kill, List.set, List.getElem?_cons_zero, List.getElem?_cons_succ]
        refine x_goto (44) d_M_leaves_119 (by decide) ?_
        exact k
      refine x_iload d_M_leaves_44 rfl ?_
      refine x_aload_n d_M_leaves_46 rfl rfl ?_
      refine x_getIG (kf := 2) d_M_leaves_47 rfl rfl rfl in_M f_M_250 ?_
      refine x_icmp_ge (122) d_M_leaves_50 (by decide) (fun c => ?_) (fun c => ?_)
      · omega
      · refine x_iload_n d_M_leaves_53 rfl rfl ?_
        refine x_aload_n d_M_leaves_54 rfl rfl ?_
        refine x_getF (kf := 20) d_M_leaves_55 rfl rfl rfl in_M f_M_38 ?_
        refine x_iload d_M_leaves_58 rfl ?_
        refine x_ialdN (i) d_M_leaves_60 rfl (by omega) (by omega) ?_
        refine x_aload_n d_M_leaves_61 rfl rfl ?_
        refine x_getIG (kf := 11) d_M_leaves_62 rfl rfl rfl in_M f_M_13 ?_
        rw [e3, e9.2.1]
        refine x_imulN d_M_leaves_65 (by omega) (by omega) ?_
        refine x_iaddN d_M_leaves_66 (by omega) (by omega) ?_
        refine x_istore d_M_leaves_67 (by decide) ?_
        dsimp only [x_st1, x_st2, x_kill, List.set, List.getElem?_cons_zero, List.getElem?_cons_succ]
        refine x_aload_n d_M_leaves_69 rfl rfl ?_
        refine x_iload_n d_M_leaves_70 rfl rfl ?_
        refine x_iload d_M_leaves_71 rfl ?_
        refine x_V1 d_M_leaves_73 e_M_leaves_M_isAt ⟨rfl, rfl, Nat.zero_le _, Nat.zero_le _⟩ rfl rfl rfl rfl (Nat.le_of_ble_eq_true rfl) (s_isAt hh r p i hi) ?_
        refine x_if_eq (116) d_M_leaves_76 (by decide) (fun c1 => ?_) (fun c1 => ?_)
        · have z : f_lw h (f_in G) by' p m i = 0 := by
            unfold f_lw
            rw [if_neg]
            intro q
            rw [q.1] at c1
            exact absurd c1 (by decide)
          exact x_sub (fun j v hj => by
            match j, hj with
            | 0, hj => exact hj
            | 1, hj => exact hj
            | 2, hj => exact hj
            | 3, hj => exact hj
            | 4, hj => exact hj
            | 5, hj => exact hj
            | 6, hj => cases hj
            | j + 7, hj => cases hj) (skip z)
        · have a1 : f_at h p i = true := by
            cases q : f_at h p i with
            | true => rfl
            | false => rw [q] at c1; exact absurd rfl c1
          refine x_iload d_M_leaves_79 rfl ?_
          refine x_iload_n d_M_leaves_81 rfl rfl ?_
          refine x_icmp_gt (116) d_M_leaves_82 (by decide) (fun c2 => ?_) (fun c2 => ?_)
          · have z : f_lw h (f_in G) by' p m i = 0 := by
              unfold f_lw
              rw [if_neg (fun q => by omega)]
            exact x_sub (fun j v hj => by
              match j, hj with
              | 0, hj => exact hj
              | 1, hj => exact hj
              | 2, hj => exact hj
              | 3, hj => exact hj
              | 4, hj => exact hj
              | 5, hj => exact hj
              | 6, hj => cases hj
              | j + 7, hj => cases hj) (skip z)
          · obtain ⟨x, hx⟩ : ∃ x : Nat, (m : Int) + h.1 1 i 2 * h.1 9 0 1 = x := ⟨((m : Int) + h.1 1 i 2 * h.1 9 0 1).toNat, by omega⟩
            have ob := f_oth_bd hh p hi
            obtain ⟨o, ho⟩ : ∃ o : Nat, f_oth h p i = o := ⟨(f_oth h p i).toNat, by omega⟩
            have hl : f_lw h (f_in G) by' p m i = if f_in G (16 * x + o) = false then h.1 1 i 3 else 0 := by
              unfold f_lw
              rw [hx, ho, Int.toNat_natCast, Int.toNat_natCast]
              simp only [a1, show (x : Int) ≤ by' by omega, true_and]
            rw [hx]
            refine x_aload_n d_M_leaves_85 rfl rfl ?_
            refine x_aload_n d_M_leaves_86 rfl rfl ?_
            refine x_iload_n d_M_leaves_87 rfl rfl ?_
            refine x_iload d_M_leaves_88 rfl ?_
            refine x_V1 d_M_leaves_90 e_M_leaves_M_otherEnd ⟨rfl, rfl, Nat.zero_le _, Nat.zero_le _⟩ rfl rfl rfl rfl (Nat.le_of_ble_eq_true rfl) (s_otherEnd hh r p i hi) ?_
            rw [ho]
            refine x_iload d_M_leaves_93 rfl ?_
            refine x_S1 d_M_leaves_95 e_M_leaves_M_begin ⟨rfl, rfl, Nat.zero_le _, Nat.zero_le _⟩ rfl rfl (Nat.le_of_ble_eq_true rfl) (s_begin _ o x (by omega) (by omega)) ?_
            refine x_V1 d_M_leaves_98 e_M_leaves_M_isIn ⟨rfl, rfl, Nat.zero_le _, Nat.zero_le _⟩ rfl rfl rfl rfl (Nat.le_of_ble_eq_true rfl) (s_isIn G (n := 16 * x + o) (by omega)) ?_
            refine x_if_ne (116) d_M_leaves_101 (by decide) (fun c3 => ?_) (fun c3 => ?_)
            · have z : f_lw h (f_in G) by' p m i = 0 := by
                rw [hl, if_neg]
                intro q
                rw [q] at c3
                exact absurd rfl c3
              exact x_sub (fun j v hj => by
                match j, hj with
                | 0, hj => exact hj
                | 1, hj => exact hj
                | 2, hj => exact hj
                | 3, hj => exact hj
                | 4, hj => exact hj
                | 5, hj => exact hj
                | 6, hj => cases hj
                | j + 7, hj => cases hj) (skip z)
            · have z : f_lw h (f_in G) by' p m i = h.1 1 i 3 := by
                rw [hl, if_pos]
                cases q : f_in G (16 * x + o) with
                | false => rfl
                | true => rw [q] at c3; exact absurd c3 (by decide)
              refine x_iload d_M_leaves_104 rfl ?_
              refine x_aload_n d_M_leaves_106 rfl rfl ?_
              refine x_getF (kf := 21) d_M_leaves_107 rfl rfl rfl in_M f_M_41 ?_
              refine x_iload d_M_leaves_110 rfl ?_
              refine x_ialdN (i) d_M_leaves_112 rfl (by omega) (by omega) ?_
              rw [e4]
              have e7 : t + su (f_lw h (f_in G) by' p m) (i + 1) = t + su (f_lw h (f_in G) by' p m) i + h.1 1 i 3 := by
                show _ + (_ + _) = _
                rw [z]
                omega
              rw [e7] at k
              refine x_iaddN d_M_leaves_113 (by omega) (by omega) ?_
              refine x_istore d_M_leaves_114 (by decide) ?_
              dsimp only [x_st1, x_st2, x_kill, List.set, List.getElem?_cons_zero, List.getElem?_cons_succ]
              refine x_iincN d_M_leaves_116 rfl (by decide) (by omega) (by omega) ?_
              dsimp only [x_st1, x_st2, x_kill, List.set, List.getElem?_cons_zero, List.getElem?_cons_succ]
              refine x_goto (44) d_M_leaves_119 (by decide) ?_
              exact x_sub (fun j v hj => by
                match j, hj with
                | 0, hj => exact hj
                | 1, hj => exact hj
                | 2, hj => exact hj
                | 3, hj => exact hj
                | 4, hj => exact hj
                | 5, hj => exact hj
                | 6, hj => cases hj
                | j + 7, hj => cases hj) k
  refine x_iload_n d_M_leaves_0 rfl rfl ?_
  refine x_iload_n d_M_leaves_1 rfl rfl ?_
  refine x_icmp_ge (21) d_M_leaves_2 (by decide) (fun c => ?_) (fun c => ?_)
  · have hmb : m = by' := by omega
    subst hmb
    refine x_iload_n d_M_leaves_21 rfl rfl ?_
    refine x_iload_n d_M_leaves_22 rfl rfl ?_
    refine x_icmp_ge (38) d_M_leaves_23 (by decide) (fun c1 => ?_) (fun c1 => ?_)
    · refine x_iconst (0) d_M_leaves_38 rfl ⟨by decide, by decide⟩ ?_
      refine x_istore d_M_leaves_39 (by decide) ?_
      dsimp only [x_st1, x_st2, x_kill, List.set, List.getElem?_cons_zero, List.getElem?_cons_succ]
      refine ways 0 (by omega) (by omega) ?_
      rw [← hV, if_neg (by omega)]
      unfold f_lv
      rw [if_neg (by omega)]
    · omega
  · have hm2 : m < by' := by omega
    refine x_aload_n d_M_leaves_5 rfl rfl ?_
    refine x_iload_n d_M_leaves_6 rfl rfl ?_
    refine x_iload_n d_M_leaves_7 rfl rfl ?_
    refine x_iconst (1) d_M_leaves_8 rfl ⟨by decide, by decide⟩ ?_
    refine x_iaddN d_M_leaves_9 (by omega) (by omega) ?_
    rw [show (m : Int) + 1 = ((m + 1 : Nat) : Int) by omega]
    refine x_S1 d_M_leaves_10 e_M_leaves_M_begin ⟨rfl, rfl, Nat.zero_le _, Nat.zero_le _⟩ rfl rfl (Nat.le_of_ble_eq_true rfl) (s_begin _ p (m + 1) (by omega) (by omega)) ?_
    refine x_V1 d_M_leaves_13 e_M_leaves_M_isIn ⟨rfl, rfl, Nat.zero_le _, Nat.zero_le _⟩ rfl rfl rfl rfl (Nat.le_of_ble_eq_true rfl) (s_isIn G (n := 16 * (m + 1) + p) (by omega)) ?_
    refine x_if_ne (21) d_M_leaves_16 (by decide) (fun c1 => ?_) (fun c1 => ?_)
    · have q : f_in G (16 * (m + 1) + p) ≠ false := by
        intro q
        rw [q] at c1
        exact absurd rfl c1
      refine x_iload_n d_M_leaves_21 rfl rfl ?_
      refine x_iload_n d_M_leaves_22 rfl rfl ?_
      refine x_icmp_ge (38) d_M_leaves_23 (by decide) (fun c2 => ?_) (fun c2 => ?_)
      · omega
      · refine x_aload_n d_M_leaves_26 rfl rfl ?_
        refine x_iload_n d_M_leaves_27 rfl rfl ?_
        refine x_aload_n d_M_leaves_28 rfl rfl ?_
        refine x_V1 d_M_leaves_29 e_M_leaves_M_made ⟨rfl, rfl, Nat.zero_le _, Nat.zero_le _⟩ rfl rfl rfl rfl (Nat.le_of_ble_eq_true rfl) (s_made hh r) ?_
        refine x_V1 d_M_leaves_32 e_M_leaves_M_wideOut ⟨rfl, rfl, Nat.zero_le _, Nat.zero_le _⟩ rfl rfl rfl rfl (Nat.le_of_ble_eq_true rfl) (s_wideOut hh r p hp (f_made h (h.2 6))) ?_
        refine x_goto (39) d_M_leaves_35 (by decide) ?_
        refine x_istore d_M_leaves_39 (by decide) ?_
        dsimp only [x_st1, x_st2, x_kill, List.set, List.getElem?_cons_zero, List.getElem?_cons_succ]
        refine ways _ (by omega) (by omega) ?_
        rw [← hV, if_neg (fun z => q z.2)]
        unfold f_lv
        rw [if_pos hm2]
    · have q : f_in G (16 * (m + 1) + p) = false := by
        cases q : f_in G (16 * (m + 1) + p) with
        | false => rfl
        | true => rw [q] at c1; exact absurd c1 (by decide)
      refine x_iconst (-1) d_M_leaves_19 rfl ⟨by decide, by decide⟩ ?_
      refine x_ireturn d_M_leaves_20 rfl ?_ (Nat.zero_le _) (Nat.zero_le _)
      rw [← hV, if_pos ⟨hm2, q⟩]
      exact ⟨rfl, rfl⟩
