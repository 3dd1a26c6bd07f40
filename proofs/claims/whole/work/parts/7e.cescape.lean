/-! the class: Escape's joins -/
abbrev oEs : XV := xR (some o_Es)
theorem c_ebegin (σ : XM) (p m : Nat) (hp : p < 8) (hm : m ≤ 60) : x_M y_Es_begin [xI (p : Int), xI (m : Int)] σ (x_is (.inl (some (xI ((16 * m + 2 * p : Nat) : Int)))) σ) := by
  refine x_of 0 rfl (Nat.le_of_ble_eq_true rfl) ?_
  show x_A y_Es_begin 0 [some (xI (p : Int)), some (xI (m : Int))] [] σ 0 0 _
  refine x_iconst (2) d_Es_begin_0 rfl ⟨by decide, by decide⟩ ?_
  refine x_iload_n d_Es_begin_1 rfl rfl ?_
  refine x_bipush (8) d_Es_begin_2 rfl ⟨by decide, by decide⟩ ?_
  refine x_imulN d_Es_begin_4 (by omega) (by omega) ?_
  refine x_iload_n d_Es_begin_5 rfl rfl ?_
  refine x_iaddN d_Es_begin_6 (by omega) (by omega) ?_
  refine x_imulN d_Es_begin_7 (by omega) (by omega) ?_
  refine x_ireturn d_Es_begin_8 rfl ?_ (Nat.zero_le _) (Nat.zero_le _)
  rw [show (2 : Int) * ((m : Int) * 8 + p) = ((16 * m + 2 * p : Nat) : Int) by omega]
  exact ⟨rfl, rfl⟩
theorem c_ebeing (σ : XM) (p m : Nat) (hp : p < 8) (hm : m ≤ 60) : x_M y_Es_being [xI (p : Int), xI (m : Int)] σ (x_is (.inl (some (xI ((16 * m + 2 * p + 1 : Nat) : Int)))) σ) := by
  refine x_of 0 rfl (Nat.le_of_ble_eq_true rfl) ?_
  show x_A y_Es_being 0 [some (xI (p : Int)), some (xI (m : Int))] [] σ 0 0 _
  refine x_iconst (2) d_Es_being_0 rfl ⟨by decide, by decide⟩ ?_
  refine x_iload_n d_Es_being_1 rfl rfl ?_
  refine x_bipush (8) d_Es_being_2 rfl ⟨by decide, by decide⟩ ?_
  refine x_imulN d_Es_being_4 (by omega) (by omega) ?_
  refine x_iload_n d_Es_being_5 rfl rfl ?_
  refine x_iaddN d_Es_being_6 (by omega) (by omega) ?_
  refine x_imulN d_Es_being_7 (by omega) (by omega) ?_
  refine x_iconst (1) d_Es_being_8 rfl ⟨by decide, by decide⟩ ?_
  refine x_iaddN d_Es_being_9 (by omega) (by omega) ?_
  refine x_ireturn d_Es_being_10 rfl ?_ (Nat.zero_le _) (Nat.zero_le _)
  rw [show (2 : Int) * ((m : Int) * 8 + p) + 1 = ((16 * m + 2 * p + 1 : Nat) : Int) by omega]
  exact ⟨rfl, rfl⟩
section CE
variable {h : HH} {G G0 : Nat → Nat → Int}
theorem jInv.rep {k : Nat} {F : (Nat → Bool) → Int} (r : fRep h G0) (hI : jInv G0 k F G) : fRep h G := by
  obtain ⟨N, h1, h2, h3, h4, h5⟩ := hI
  exact h5.rep r
theorem jInv.cell {k : Nat} {F : (Nat → Bool) → Int} (hI : jInv G0 k F G) {i : Nat} (hi : i < o_Ne ∨ ne_free < i) : G i = G0 i := by
  obtain ⟨N, h1, h2, h3, h4, h5⟩ := hI
  exact h5 i hi
theorem c_joinRooms (hh : Hwf h) (r : fRep h G0) {F : (Nat → Bool) → Int} (sh : Nat → Nat → Bool) (hsh : ∀ m p, m ≤ 20 → p < 8 → decide (h.1 9 0 0 < G0 sm_mixed (8 * m + p)) = sh m p) (by' : Nat) (hb : by' ≤ 20) (hI : jInv G0 0 F G) :
    x_M y_Es_joinRooms [oEs, xI (by' : Int)] (S0, G) (fun r τ => ∃ v, r = .inl v ∧ mJoined G0 336 (fun S => F S + su (fun p => su (fun m => kR h sh by' (fun n => S (rho n)) m p) (by' + 1)) (h.2 0)) v τ) := by
  have b := hh.1
  refine x_of 3 rfl (Nat.le_of_ble_eq_true rfl) ?_
  show x_A y_Es_joinRooms 0 [some oEs, some (xI (by' : Int)), none, none, none] [] (S0, G) 0 0 _
  generalize hQ : (fun (r : XRes) (τ : XM) => ∃ v, r = .inl v ∧ mJoined G0 336 (fun S => F S + su (fun p => su (fun m => kR h sh by' (fun n => S (rho n)) m p) (by' + 1)) (h.2 0)) v τ) = Q
  refine x_iconst (0) d_Es_joinRooms_0 rfl ⟨by decide, by decide⟩ ?_
  refine x_istore_n d_Es_joinRooms_1 rfl (by decide) ?_
  dsimp only [x_st1, x_st2, x_kill, List.set, List.getElem?_cons_zero, List.getElem?_cons_succ]
  refine x_up_to (P := fun p => ∀ G1 z1 z2, jInv G0 (42 * p) (fun S => F S + su (fun p => su (fun m => kR h sh by' (fun n => S (rho n)) m p) (by' + 1)) p) G1 → x_A y_Es_joinRooms 2 [some oEs, some (xI (by' : Int)), some (xI (p : Int)), z1, z2] [] (S0, G1) 0 0 Q) 0 (h.2 0) (Nat.zero_le _) (fun G1 z1 z2 hJ => ?_) (fun p _ hp k G1 z1 z2 hJ => ?_) G none none (hI.to (by omega) (fun S => by show _ = F S + 0; omega))
  · have r1 := hJ.rep r
    refine x_iload_n d_Es_joinRooms_2 rfl rfl ?_
    refine x_aload_n d_Es_joinRooms_3 rfl rfl ?_
    refine x_getF (kf := 0) d_Es_joinRooms_4 rfl rfl rfl in_Es f_Es_18 ?_
    refine x_getF (kf := 0) d_Es_joinRooms_7 rfl rfl rfl in_Ho f_Es_74 ?_
    refine x_V1 d_Es_joinRooms_10 e_Es_joinRooms_Ta_size ⟨rfl, rfl, Nat.zero_le _, Nat.zero_le _⟩ rfl rfl rfl rfl (Nat.le_of_ble_eq_true rfl) (k_size r1 0 (by decide)) ?_
    refine x_icmp_ge (116) d_Es_joinRooms_13 (by decide) (fun g => ?_) (fun g => ?_)
    · refine x_return d_Es_joinRooms_116 rfl ?_ (Nat.zero_le _) (Nat.zero_le _)
      rw [← hQ]
      exact ⟨none, rfl, rfl, G1, rfl, hJ.to (by omega) (fun S => rfl)⟩
    · omega
  · have r1 := hJ.rep r
    have bp := hh.2.1 p hp
    refine x_iload_n d_Es_joinRooms_2 rfl rfl ?_
    refine x_aload_n d_Es_joinRooms_3 rfl rfl ?_
    refine x_getF (kf := 0) d_Es_joinRooms_4 rfl rfl rfl in_Es f_Es_18 ?_
    refine x_getF (kf := 0) d_Es_joinRooms_7 rfl rfl rfl in_Ho f_Es_74 ?_
    refine x_V1 d_Es_joinRooms_10 e_Es_joinRooms_Ta_size ⟨rfl, rfl, Nat.zero_le _, Nat.zero_le _⟩ rfl rfl rfl rfl (Nat.le_of_ble_eq_true rfl) (k_size r1 0 (by decide)) ?_
    refine x_icmp_ge (116) d_Es_joinRooms_13 (by decide) (fun g => ?_) (fun g => ?_)
    · omega
    · refine x_aload_n d_Es_joinRooms_16 rfl rfl ?_
      refine x_getF (kf := 0) d_Es_joinRooms_17 rfl rfl rfl in_Es f_Es_18 ?_
      refine x_getF (kf := 0) d_Es_joinRooms_20 rfl rfl rfl in_Ho f_Es_74 ?_
      refine x_iload_n d_Es_joinRooms_23 rfl rfl ?_
      refine x_iconst (0) d_Es_joinRooms_24 rfl ⟨by decide, by decide⟩ ?_
      refine x_V1 d_Es_joinRooms_25 e_Es_joinRooms_Ta_at ⟨rfl, rfl, Nat.zero_le _, Nat.zero_le _⟩ rfl rfl rfl rfl (Nat.le_of_ble_eq_true rfl) (k_at hh r1 0 p 0 (by decide) hp (by decide) rfl rfl) ?_
      refine x_istore_n d_Es_joinRooms_28 rfl (by decide) ?_
      dsimp only [x_st1, x_st2, x_kill, List.set, List.getElem?_cons_zero, List.getElem?_cons_succ]
      refine x_iconst (0) d_Es_joinRooms_29 rfl ⟨by decide, by decide⟩ ?_
      refine x_istore d_Es_joinRooms_30 (by decide) ?_
      dsimp only [x_st1, x_st2, x_kill, List.set, List.getElem?_cons_zero, List.getElem?_cons_succ]
      refine x_up_to (P := fun m => ∀ G2, jInv G0 (42 * p + 2 * m) (fun S => F S + su (fun p => su (fun m => kR h sh by' (fun n => S (rho n)) m p) (by' + 1)) p + su (fun m => kR h sh by' (fun n => S (rho n)) m p) m) G2 → x_A y_Es_joinRooms 32 [some oEs, some (xI (by' : Int)), some (xI (p : Int)), some (xI (h.1 0 p 0)), some (xI (m : Int))] [] (S0, G2) 0 0 Q) 0 (by' + 1) (Nat.zero_le _) (fun G2 hJ2 => ?_) (fun m _ hm k2 G2 hJ2 => ?_) G1 (hJ.to (by omega) (fun S => by show _ = _ + (0 : Int); omega))
      · refine x_iload d_Es_joinRooms_32 rfl ?_
        refine x_iload_n d_Es_joinRooms_34 rfl rfl ?_
        refine x_icmp_gt (110) d_Es_joinRooms_35 (by decide) (fun g => ?_) (fun g => ?_)
        · refine x_iincN d_Es_joinRooms_110 rfl (by decide) (by omega) (by omega) ?_
          dsimp only [x_st1, x_st2, x_kill, List.set, List.getElem?_cons_zero, List.getElem?_cons_succ]
          refine x_goto (2) d_Es_joinRooms_113 (by decide) ?_
          exact k G2 _ _ (hJ2.to (by omega) (fun S => by show _ = F S + (su _ p + su (fun m => kR h sh by' (fun n => S (rho n)) m p) (by' + 1)); omega))
        · omega
      · have r2 := hJ2.rep r
        refine x_iload d_Es_joinRooms_32 rfl ?_
        refine x_iload_n d_Es_joinRooms_34 rfl rfl ?_
        refine x_icmp_gt (110) d_Es_joinRooms_35 (by decide) (fun g => ?_) (fun g => ?_)
        · omega
        · refine x_aload_n d_Es_joinRooms_38 rfl rfl ?_
          refine x_getF (kf := 2) d_Es_joinRooms_39 rfl rfl rfl in_Es f_Es_12 ?_
          refine x_iload_n d_Es_joinRooms_42 rfl rfl ?_
          refine x_iload d_Es_joinRooms_43 rfl ?_
          refine x_S1 d_Es_joinRooms_45 e_Es_joinRooms_Es_begin ⟨rfl, rfl, Nat.zero_le _, Nat.zero_le _⟩ rfl rfl (Nat.le_of_ble_eq_true rfl) (c_ebegin _ p m (by omega) (by omega)) ?_
          refine x_iload_n d_Es_joinRooms_48 rfl rfl ?_
          refine x_iload d_Es_joinRooms_49 rfl ?_
          refine x_S1 d_Es_joinRooms_51 e_Es_joinRooms_Es_being ⟨rfl, rfl, Nat.zero_le _, Nat.zero_le _⟩ rfl rfl (Nat.le_of_ble_eq_true rfl) (c_ebeing _ p m (by omega) (by omega)) ?_
          refine x_aload_n d_Es_joinRooms_54 rfl rfl ?_
          refine x_getF (kf := 1) d_Es_joinRooms_55 rfl rfl rfl in_Es f_Es_22 ?_
          refine x_iload_n d_Es_joinRooms_58 rfl rfl ?_
          refine x_iload d_Es_joinRooms_59 rfl ?_
          refine x_V1 d_Es_joinRooms_61 e_Es_joinRooms_Sm_isShut ⟨rfl, rfl, Nat.zero_le _, Nat.zero_le _⟩ rfl rfl rfl rfl (Nat.le_of_ble_eq_true rfl) (c_isShut hh r2 p m (by omega) (by omega)) ?_
          rw [hJ2.cell (i := sm_mixed) (by decide), hsh m p (by omega) (by omega)]
          have rest : ∀ G3, jInv G0 (42 * p + 2 * m + 1) (fun S => F S + su (fun p => su (fun m => kR h sh by' (fun n => S (rho n)) m p) (by' + 1)) p + su (fun m => kR h sh by' (fun n => S (rho n)) m p) m + ind S (16 * m + 2 * p) (16 * m + 2 * p + 1) (if sh m p = true then 0 else h.1 0 p 0)) G3 → x_A y_Es_joinRooms 75 [some oEs, some (xI (by' : Int)), some (xI (p : Int)), some (xI (h.1 0 p 0)), some (xI (m : Int))] [] (S0, G3) 0 0 Q := by
            intro G3 hJ3
            have eR : ∀ S : Nat → Bool, kR h sh by' (fun n => S (rho n)) m p = ind S (16 * m + 2 * p) (16 * m + 2 * p + 1) (if sh m p = true then 0 else h.1 0 p 0) + (if m < by' then ind S (16 * m + 2 * p + 1) (16 * (m + 1) + 2 * p) 1000000 else 0) := fun S => by
              unfold kR
              rw [ind_rho, rho_b (by omega) (by omega), rho_i (by omega) (by omega)]
              by_cases q : m < by'
              · rw [if_pos q, if_pos q, ind_rho, rho_b (by omega) (by omega), rho_i (by omega) (by omega)]
              · rw [if_neg q, if_neg q]
            refine x_iload d_Es_joinRooms_75 rfl ?_
            refine x_iload_n d_Es_joinRooms_77 rfl rfl ?_
            refine x_icmp_ge (104) d_Es_joinRooms_78 (by decide) (fun g2 => ?_) (fun g2 => ?_)
            · refine x_iincN d_Es_joinRooms_104 rfl (by decide) (by omega) (by omega) ?_
              dsimp only [x_st1, x_st2, x_kill, List.set, List.getElem?_cons_zero, List.getElem?_cons_succ]
              refine x_goto (32) d_Es_joinRooms_107 (by decide) ?_
              refine k2 G3 (hJ3.to (by omega) (fun S => ?_))
              show _ = _ + (su _ m + kR h sh by' (fun n => S (rho n)) m p)
              rw [eR S, if_neg (show ¬ m < by' by omega)]; omega
            · refine x_aload_n d_Es_joinRooms_81 rfl rfl ?_
              refine x_getF (kf := 2) d_Es_joinRooms_82 rfl rfl rfl in_Es f_Es_12 ?_
              refine x_iload_n d_Es_joinRooms_85 rfl rfl ?_
              refine x_iload d_Es_joinRooms_86 rfl ?_
              refine x_S1 d_Es_joinRooms_88 e_Es_joinRooms_Es_being ⟨rfl, rfl, Nat.zero_le _, Nat.zero_le _⟩ rfl rfl (Nat.le_of_ble_eq_true rfl) (c_ebeing _ p m (by omega) (by omega)) ?_
              refine x_iload_n d_Es_joinRooms_91 rfl rfl ?_
              refine x_iload d_Es_joinRooms_92 rfl ?_
              refine x_iconst (1) d_Es_joinRooms_94 rfl ⟨by decide, by decide⟩ ?_
              refine x_iaddN d_Es_joinRooms_95 (by omega) (by omega) ?_
              rw [show (m : Int) + 1 = ((m + 1 : Nat) : Int) by omega]
              refine x_S1 d_Es_joinRooms_96 e_Es_joinRooms_Es_begin ⟨rfl, rfl, Nat.zero_le _, Nat.zero_le _⟩ rfl rfl (Nat.le_of_ble_eq_true rfl) (c_ebegin _ p (m + 1) (by omega) (by omega)) ?_
              refine x_ldc (1000000) d_Es_joinRooms_99 k_Es_122 ⟨by decide, by decide⟩ ?_
              refine x_VQ d_Es_joinRooms_101 e_Es_joinRooms_Ne_join ⟨rfl, rfl, Nat.zero_le _, Nat.zero_le _⟩ rfl rfl rfl rfl (Nat.le_of_ble_eq_true rfl) (c_join hJ3 (by omega) (16 * m + 2 * p + 1) (16 * (m + 1) + 2 * p) 1000000 (by omega) (by omega) (by omega) (by omega)) (fun v τ hv => ?_)
              obtain ⟨rfl, G4, rfl, hJ4⟩ := hv
              show x_A y_Es_joinRooms 104 [some oEs, some (xI (by' : Int)), some (xI (p : Int)), some (xI (h.1 0 p 0)), some (xI (m : Int))] [] (S0, G4) 0 0 Q
              refine x_iincN d_Es_joinRooms_104 rfl (by decide) (by omega) (by omega) ?_
              dsimp only [x_st1, x_st2, x_kill, List.set, List.getElem?_cons_zero, List.getElem?_cons_succ]
              refine x_goto (32) d_Es_joinRooms_107 (by decide) ?_
              refine k2 G4 (hJ4.to (by omega) (fun S => ?_))
              show _ = _ + (su _ m + kR h sh by' (fun n => S (rho n)) m p)
              rw [eR S, if_pos (show m < by' by omega)]; omega
          have mid : x_A y_Es_joinRooms 72 [some oEs, some (xI (by' : Int)), some (xI (p : Int)), some (xI (h.1 0 p 0)), some (xI (m : Int))] [xI (if sh m p = true then 0 else h.1 0 p 0), xI ((16 * m + 2 * p + 1 : Nat) : Int), xI ((16 * m + 2 * p : Nat) : Int), oNe] (S0, G2) 0 0 Q := by
            refine x_VQ d_Es_joinRooms_72 e_Es_joinRooms_Ne_join ⟨rfl, rfl, Nat.zero_le _, Nat.zero_le _⟩ rfl rfl rfl rfl (Nat.le_of_ble_eq_true rfl) (c_join hJ2 (by omega) (16 * m + 2 * p) (16 * m + 2 * p + 1) _ (by omega) (by omega) (by omega) (by split <;> omega)) (fun v τ hv => ?_)
            obtain ⟨rfl, G4, rfl, hJ4⟩ := hv
            exact rest G4 hJ4
          by_cases q : sh m p = true
          · rw [if_pos q] at mid
            rw [q]
            refine x_if_eq (71) d_Es_joinRooms_64 (by decide) (fun g3 => ?_) (fun g3 => ?_)
            · cases g3
            · refine x_iconst (0) d_Es_joinRooms_67 rfl ⟨by decide, by decide⟩ ?_
              refine x_goto (72) d_Es_joinRooms_68 (by decide) ?_
              exact mid
          · rw [if_neg q] at mid
            rw [show sh m p = false by simpa using q]
            refine x_if_eq (71) d_Es_joinRooms_64 (by decide) (fun g3 => ?_) (fun g3 => ?_)
            · refine x_iload_n d_Es_joinRooms_71 rfl rfl ?_
              exact mid
            · exact absurd rfl g3
theorem c_joinWays (hh : Hwf h) (r : fRep h G0) {F : (Nat → Bool) → Int} (by' times : Nat) (hb : by' ≤ 20) (ht : 1 ≤ times ∧ times ≤ 3) (hI : jInv G0 336 F G) :
    x_M y_Es_joinWays [oEs, xI (by' : Int), xI (times : Int)] (S0, G) (fun r τ => ∃ v, r = .inl v ∧ mJoined G0 816 (fun S => F S + su (fun w => su (fun m => kW h by' times (fun n => S (rho n)) m w) (by' + 1)) (h.2 1)) v τ) := by
  have b := hh.1
  refine x_of 6 rfl (Nat.le_of_ble_eq_true rfl) ?_
  show x_A y_Es_joinWays 0 [some oEs, some (xI (by' : Int)), some (xI (times : Int)), none, none, none, none, none, none] [] (S0, G) 0 0 _
  generalize hQ : (fun (r : XRes) (τ : XM) => ∃ v, r = .inl v ∧ mJoined G0 816 (fun S => F S + su (fun w => su (fun m => kW h by' times (fun n => S (rho n)) m w) (by' + 1)) (h.2 1)) v τ) = Q
  refine x_iconst (0) d_Es_joinWays_0 rfl ⟨by decide, by decide⟩ ?_
  refine x_istore_n d_Es_joinWays_1 rfl (by decide) ?_
  dsimp only [x_st1, x_st2, x_kill, List.set, List.getElem?_cons_zero, List.getElem?_cons_succ]
  refine x_up_to (P := fun w => ∀ G1 z4 z5 z6 z7 z8, jInv G0 (336 + 40 * w) (fun S => F S + su (fun w => su (fun m => kW h by' times (fun n => S (rho n)) m w) (by' + 1)) w) G1 → x_A y_Es_joinWays 2 [some oEs, some (xI (by' : Int)), some (xI (times : Int)), some (xI (w : Int)), z4, z5, z6, z7, z8] [] (S0, G1) 0 0 Q) 0 (h.2 1) (Nat.zero_le _) (fun G1 z4 z5 z6 z7 z8 hJ => ?_) (fun w _ hw k G1 z4 z5 z6 z7 z8 hJ => ?_) G none none none none none (hI.to (by omega) (fun S => by show _ = F S + 0; omega))
  · have r1 := hJ.rep r
    refine x_iload_n d_Es_joinWays_2 rfl rfl ?_
    refine x_aload_n d_Es_joinWays_3 rfl rfl ?_
    refine x_getF (kf := 0) d_Es_joinWays_4 rfl rfl rfl in_Es f_Es_18 ?_
    refine x_getF (kf := 1) d_Es_joinWays_7 rfl rfl rfl in_Ho f_Es_110 ?_
    refine x_V1 d_Es_joinWays_10 e_Es_joinWays_Ta_size ⟨rfl, rfl, Nat.zero_le _, Nat.zero_le _⟩ rfl rfl rfl rfl (Nat.le_of_ble_eq_true rfl) (k_size r1 1 (by decide)) ?_
    refine x_icmp_ge (150) d_Es_joinWays_13 (by decide) (fun g => ?_) (fun g => ?_)
    · refine x_return d_Es_joinWays_150 rfl ?_ (Nat.zero_le _) (Nat.zero_le _)
      rw [← hQ]
      exact ⟨none, rfl, rfl, G1, rfl, hJ.to (by omega) (fun S => rfl)⟩
    · omega
  · have r1 := hJ.rep r
    have bw := hh.2.2.1 w hw
    obtain ⟨A, eA⟩ : ∃ A : Nat, h.1 1 w 0 = (A : Int) := ⟨(h.1 1 w 0).toNat, by omega⟩
    obtain ⟨B, eB⟩ : ∃ B : Nat, h.1 1 w 1 = (B : Int) := ⟨(h.1 1 w 1).toNat, by omega⟩
    obtain ⟨T, eT⟩ : ∃ T : Nat, h.1 1 w 2 * times = (T : Int) := ⟨(h.1 1 w 2 * times).toNat, by have : 0 ≤ h.1 1 w 2 * times := Int.mul_nonneg (by omega) (by omega); omega⟩
    have bT : 1 ≤ T ∧ T ≤ 12 := by
      have h1 : h.1 1 w 2 * times ≤ 4 * 3 := Int.mul_le_mul (by omega) (by omega) (by omega) (by omega)
      have h2 : 1 * 1 ≤ h.1 1 w 2 * times := Int.mul_le_mul (by omega) (by omega) (by omega) (by omega)
      omega
    refine x_iload_n d_Es_joinWays_2 rfl rfl ?_
    refine x_aload_n d_Es_joinWays_3 rfl rfl ?_
    refine x_getF (kf := 0) d_Es_joinWays_4 rfl rfl rfl in_Es f_Es_18 ?_
    refine x_getF (kf := 1) d_Es_joinWays_7 rfl rfl rfl in_Ho f_Es_110 ?_
    refine x_V1 d_Es_joinWays_10 e_Es_joinWays_Ta_size ⟨rfl, rfl, Nat.zero_le _, Nat.zero_le _⟩ rfl rfl rfl rfl (Nat.le_of_ble_eq_true rfl) (k_size r1 1 (by decide)) ?_
    refine x_icmp_ge (150) d_Es_joinWays_13 (by decide) (fun g => ?_) (fun g => ?_)
    · omega
    · refine x_aload_n d_Es_joinWays_16 rfl rfl ?_
      refine x_getF (kf := 0) d_Es_joinWays_17 rfl rfl rfl in_Es f_Es_18 ?_
      refine x_getF (kf := 1) d_Es_joinWays_20 rfl rfl rfl in_Ho f_Es_110 ?_
      refine x_iload_n d_Es_joinWays_23 rfl rfl ?_
      refine x_iconst (0) d_Es_joinWays_24 rfl ⟨by decide, by decide⟩ ?_
      refine x_V1 d_Es_joinWays_25 e_Es_joinWays_Ta_at ⟨rfl, rfl, Nat.zero_le _, Nat.zero_le _⟩ rfl rfl rfl rfl (Nat.le_of_ble_eq_true rfl) (k_at hh r1 1 w 0 (by decide) hw (by decide) rfl rfl) ?_
      rw [eA]
      refine x_istore d_Es_joinWays_28 (by decide) ?_
      dsimp only [x_st1, x_st2, x_kill, List.set, List.getElem?_cons_zero, List.getElem?_cons_succ]
      refine x_aload_n d_Es_joinWays_30 rfl rfl ?_
      refine x_getF (kf := 0) d_Es_joinWays_31 rfl rfl rfl in_Es f_Es_18 ?_
      refine x_getF (kf := 1) d_Es_joinWays_34 rfl rfl rfl in_Ho f_Es_110 ?_
      refine x_iload_n d_Es_joinWays_37 rfl rfl ?_
      refine x_iconst (1) d_Es_joinWays_38 rfl ⟨by decide, by decide⟩ ?_
      refine x_V1 d_Es_joinWays_39 e_Es_joinWays_Ta_at ⟨rfl, rfl, Nat.zero_le _, Nat.zero_le _⟩ rfl rfl rfl rfl (Nat.le_of_ble_eq_true rfl) (k_at hh r1 1 w 1 (by decide) hw (by decide) rfl rfl) ?_
      rw [eB]
      refine x_istore d_Es_joinWays_42 (by decide) ?_
      dsimp only [x_st1, x_st2, x_kill, List.set, List.getElem?_cons_zero, List.getElem?_cons_succ]
      refine x_aload_n d_Es_joinWays_44 rfl rfl ?_
      refine x_getF (kf := 0) d_Es_joinWays_45 rfl rfl rfl in_Es f_Es_18 ?_
      refine x_getF (kf := 1) d_Es_joinWays_48 rfl rfl rfl in_Ho f_Es_110 ?_
      refine x_iload_n d_Es_joinWays_51 rfl rfl ?_
      refine x_iconst (2) d_Es_joinWays_52 rfl ⟨by decide, by decide⟩ ?_
      refine x_V1 d_Es_joinWays_53 e_Es_joinWays_Ta_at ⟨rfl, rfl, Nat.zero_le _, Nat.zero_le _⟩ rfl rfl rfl rfl (Nat.le_of_ble_eq_true rfl) (k_at hh r1 1 w 2 (by decide) hw (by decide) rfl rfl) ?_
      refine x_iload_n d_Es_joinWays_56 rfl rfl ?_
      refine x_imulN d_Es_joinWays_57 (by omega) (by omega) ?_
      rw [eT]
      refine x_istore d_Es_joinWays_58 (by decide) ?_
      dsimp only [x_st1, x_st2, x_kill, List.set, List.getElem?_cons_zero, List.getElem?_cons_succ]
      refine x_aload_n d_Es_joinWays_60 rfl rfl ?_
      refine x_getF (kf := 0) d_Es_joinWays_61 rfl rfl rfl in_Es f_Es_18 ?_
      refine x_getF (kf := 1) d_Es_joinWays_64 rfl rfl rfl in_Ho f_Es_110 ?_
      refine x_iload_n d_Es_joinWays_67 rfl rfl ?_
      refine x_iconst (3) d_Es_joinWays_68 rfl ⟨by decide, by decide⟩ ?_
      refine x_V1 d_Es_joinWays_69 e_Es_joinWays_Ta_at ⟨rfl, rfl, Nat.zero_le _, Nat.zero_le _⟩ rfl rfl rfl rfl (Nat.le_of_ble_eq_true rfl) (k_at hh r1 1 w 3 (by decide) hw (by decide) rfl rfl) ?_
      refine x_istore d_Es_joinWays_72 (by decide) ?_
      dsimp only [x_st1, x_st2, x_kill, List.set, List.getElem?_cons_zero, List.getElem?_cons_succ]
      refine x_iconst (0) d_Es_joinWays_74 rfl ⟨by decide, by decide⟩ ?_
      refine x_istore d_Es_joinWays_75 (by decide) ?_
      dsimp only [x_st1, x_st2, x_kill, List.set, List.getElem?_cons_zero, List.getElem?_cons_succ]
      have eW : ∀ (S : Nat → Bool) (m : Nat), m ≤ 20 → kW h by' times (fun n => S (rho n)) m w = if m + T ≤ by' then ind S (16 * m + 2 * A + 1) (16 * (m + T) + 2 * B) (h.1 1 w 3) + ind S (16 * m + 2 * B + 1) (16 * (m + T) + 2 * A) (h.1 1 w 3) else 0 := fun S m hm => by
        unfold kW
        rw [eT, eA, eB, Int.toNat_natCast, Int.toNat_natCast, show ((m : Int) + T).toNat = m + T by omega]
        by_cases q : m + T ≤ by'
        · rw [if_pos (by omega), if_pos q, ind_rho, ind_rho, rho_b (by omega) (by omega), rho_b (by omega) (by omega), rho_i (by omega) (by omega), rho_i (by omega) (by omega)]
        · rw [if_neg (by omega), if_neg q]
      have inner : ∀ f m, m + f = 21 → m + T ≤ by' + 1 → ∀ G2, jInv G0 (336 + 40 * w + 2 * m) (fun S => F S + su (fun w => su (fun m => kW h by' times (fun n => S (rho n)) m w) (by' + 1)) w + su (fun m => kW h by' times (fun n => S (rho n)) m w) m) G2 → x_A y_Es_joinWays 77 [some oEs, some (xI (by' : Int)), some (xI (times : Int)), some (xI (w : Int)), some (xI (A : Int)), some (xI (B : Int)), some (xI (T : Int)), some (xI (h.1 1 w 3)), some (xI (m : Int))] [] (S0, G2) 0 0 Q := by
        intro f
        induction f with
        | zero => intro m hm hmT; omega
        | succ f ih =>
          intro m hm hmT G2 hJ2
          refine x_iload d_Es_joinWays_77 rfl ?_
          refine x_iload d_Es_joinWays_79 rfl ?_
          refine x_iaddN d_Es_joinWays_81 (by omega) (by omega) ?_
          refine x_iload_n d_Es_joinWays_82 rfl rfl ?_
          refine x_icmp_gt (144) d_Es_joinWays_83 (by decide) (fun g2 => ?_) (fun g2 => ?_)
          · refine x_iincN d_Es_joinWays_144 rfl (by decide) (by omega) (by omega) ?_
            dsimp only [x_st1, x_st2, x_kill, List.set, List.getElem?_cons_zero, List.getElem?_cons_succ]
            refine x_goto (2) d_Es_joinWays_147 (by decide) ?_
            refine k G2 _ _ _ _ _ (hJ2.to (by omega) (fun S => ?_))
            show _ = F S + (su _ w + su (fun m => kW h by' times (fun n => S (rho n)) m w) (by' + 1))
            rw [su_ext (f := fun m => kW h by' times (fun n => S (rho n)) m w) (m := m) (n := by' + 1) (by omega) (fun i h1 h2 => by rw [eW S i (by omega), if_neg (by omega)])]; omega
          · refine x_aload_n d_Es_joinWays_86 rfl rfl ?_
            refine x_getF (kf := 2) d_Es_joinWays_87 rfl rfl rfl in_Es f_Es_12 ?_
            refine x_iload d_Es_joinWays_90 rfl ?_
            refine x_iload d_Es_joinWays_92 rfl ?_
            refine x_S1 d_Es_joinWays_94 e_Es_joinWays_Es_being ⟨rfl, rfl, Nat.zero_le _, Nat.zero_le _⟩ rfl rfl (Nat.le_of_ble_eq_true rfl) (c_ebeing _ A m (by omega) (by omega)) ?_
            refine x_iload d_Es_joinWays_97 rfl ?_
            refine x_iload d_Es_joinWays_99 rfl ?_
            refine x_iload d_Es_joinWays_101 rfl ?_
            refine x_iaddN d_Es_joinWays_103 (by omega) (by omega) ?_
            rw [show (m : Int) + T = ((m + T : Nat) : Int) by omega]
            refine x_S1 d_Es_joinWays_104 e_Es_joinWays_Es_begin ⟨rfl, rfl, Nat.zero_le _, Nat.zero_le _⟩ rfl rfl (Nat.le_of_ble_eq_true rfl) (c_ebegin _ B (m + T) (by omega) (by omega)) ?_
            refine x_iload d_Es_joinWays_107 rfl ?_
            refine x_VQ d_Es_joinWays_109 e_Es_joinWays_Ne_join ⟨rfl, rfl, Nat.zero_le _, Nat.zero_le _⟩ rfl rfl rfl rfl (Nat.le_of_ble_eq_true rfl) (c_join hJ2 (by omega) (16 * m + 2 * A + 1) (16 * (m + T) + 2 * B) (h.1 1 w 3) (by omega) (by omega) (by omega) (by omega)) (fun v τ hv => ?_)
            obtain ⟨rfl, G3, rfl, hJ3⟩ := hv
            show x_A y_Es_joinWays 112 [some oEs, some (xI (by' : Int)), some (xI (times : Int)), some (xI (w : Int)), some (xI (A : Int)), some (xI (B : Int)), some (xI (T : Int)), some (xI (h.1 1 w 3)), some (xI (m : Int))] [] (S0, G3) 0 0 Q
            refine x_aload_n d_Es_joinWays_112 rfl rfl ?_
            refine x_getF (kf := 2) d_Es_joinWays_113 rfl rfl rfl in_Es f_Es_12 ?_
            refine x_iload d_Es_joinWays_116 rfl ?_
            refine x_iload d_Es_joinWays_118 rfl ?_
            refine x_S1 d_Es_joinWays_120 e_Es_joinWays_Es_being ⟨rfl, rfl, Nat.zero_le _, Nat.zero_le _⟩ rfl rfl (Nat.le_of_ble_eq_true rfl) (c_ebeing _ B m (by omega) (by omega)) ?_
            refine x_iload d_Es_joinWays_123 rfl ?_
            refine x_iload d_Es_joinWays_125 rfl ?_
            refine x_iload d_Es_joinWays_127 rfl ?_
            refine x_iaddN d_Es_joinWays_129 (by omega) (by omega) ?_
            rw [show (m : Int) + T = ((m + T : Nat) : Int) by omega]
            refine x_S1 d_Es_joinWays_130 e_Es_joinWays_Es_begin ⟨rfl, rfl, Nat.zero_le _, Nat.zero_le _⟩ rfl rfl (Nat.le_of_ble_eq_true rfl) (c_ebegin _ A (m + T) (by omega) (by omega)) ?_
            refine x_iload d_Es_joinWays_133 rfl ?_
            refine x_VQ d_Es_joinWays_135 e_Es_joinWays_Ne_join ⟨rfl, rfl, Nat.zero_le _, Nat.zero_le _⟩ rfl rfl rfl rfl (Nat.le_of_ble_eq_true rfl) (c_join hJ3 (by omega) (16 * m + 2 * B + 1) (16 * (m + T) + 2 * A) (h.1 1 w 3) (by omega) (by omega) (by omega) (by omega)) (fun v τ hv => ?_)
            obtain ⟨rfl, G4, rfl, hJ4⟩ := hv
            show x_A y_Es_joinWays 138 [some oEs, some (xI (by' : Int)), some (xI (times : Int)), some (xI (w : Int)), some (xI (A : Int)), some (xI (B : Int)), some (xI (T : Int)), some (xI (h.1 1 w 3)), some (xI (m : Int))] [] (S0, G4) 0 0 Q
            refine x_iincN d_Es_joinWays_138 rfl (by decide) (by omega) (by omega) ?_
            dsimp only [x_st1, x_st2, x_kill, List.set, List.getElem?_cons_zero, List.getElem?_cons_succ]
            refine x_goto (77) d_Es_joinWays_141 (by decide) ?_
            refine ih (m + 1) (by omega) (by omega) G4 (hJ4.to (by omega) (fun S => ?_))
            show _ = _ + (su _ m + kW h by' times (fun n => S (rho n)) m w)
            rw [eW S m (by omega), if_pos (by omega)]; omega
      by_cases q : T ≤ by' + 1
      · exact inner 21 0 rfl (by omega) G1 (hJ.to (by omega) (fun S => by show _ = _ + (0 : Int); omega))
      · refine x_iload d_Es_joinWays_77 rfl ?_
        refine x_iload d_Es_joinWays_79 rfl ?_
        refine x_iaddN d_Es_joinWays_81 (by omega) (by omega) ?_
        refine x_iload_n d_Es_joinWays_82 rfl rfl ?_
        refine x_icmp_gt (144) d_Es_joinWays_83 (by decide) (fun g2 => ?_) (fun g2 => ?_)
        · refine x_iincN d_Es_joinWays_144 rfl (by decide) (by omega) (by omega) ?_
          dsimp only [x_st1, x_st2, x_kill, List.set, List.getElem?_cons_zero, List.getElem?_cons_succ]
          refine x_goto (2) d_Es_joinWays_147 (by decide) ?_
          refine k G1 _ _ _ _ _ (hJ.to (by omega) (fun S => ?_))
          show _ = F S + (su _ w + su (fun m => kW h by' times (fun n => S (rho n)) m w) (by' + 1))
          rw [su_ext (f := fun m => kW h by' times (fun n => S (rho n)) m w) (m := 0) (n := by' + 1) (by omega) (fun i h1 h2 => by rw [eW S i (by omega), if_neg (by omega)])]
          show _ = F S + (su _ w + 0)
          omega
        · omega
theorem c_joinExits (hh : Hwf h) (r : fRep h G0) {F : (Nat → Bool) → Int} (by' : Nat) (set : Int) (hb : by' ≤ 20) (hI : jInv G0 816 F G) :
    x_M y_Es_joinExits [oEs, xI (by' : Int), xI set] (S0, G) (fun r τ => ∃ v, r = .inl v ∧ mJoined G0 976 (fun S => F S + su (fun p => su (fun m => kX h by' set (fun n => S (rho n)) m p) (by' + 1)) (h.2 0)) v τ) := by
  have b := hh.1
  refine x_of 3 rfl (Nat.le_of_ble_eq_true rfl) ?_
  show x_A y_Es_joinExits 0 [some oEs, some (xI (by' : Int)), some (xI set), none, none, none] [] (S0, G) 0 0 _
  generalize hQ : (fun (r : XRes) (τ : XM) => ∃ v, r = .inl v ∧ mJoined G0 976 (fun S => F S + su (fun p => su (fun m => kX h by' set (fun n => S (rho n)) m p) (by' + 1)) (h.2 0)) v τ) = Q
  refine x_iconst (0) d_Es_joinExits_0 rfl ⟨by decide, by decide⟩ ?_
  refine x_istore_n d_Es_joinExits_1 rfl (by decide) ?_
  dsimp only [x_st1, x_st2, x_kill, List.set, List.getElem?_cons_zero, List.getElem?_cons_succ]
  refine x_up_to (P := fun p => ∀ G1 z4 z5, jInv G0 (816 + 20 * p) (fun S => F S + su (fun p => su (fun m => kX h by' set (fun n => S (rho n)) m p) (by' + 1)) p) G1 → x_A y_Es_joinExits 2 [some oEs, some (xI (by' : Int)), some (xI set), some (xI (p : Int)), z4, z5] [] (S0, G1) 0 0 Q) 0 (h.2 0) (Nat.zero_le _) (fun G1 z4 z5 hJ => ?_) (fun p _ hp k G1 z4 z5 hJ => ?_) G none none (hI.to (by omega) (fun S => by show _ = F S + 0; omega))
  · have r1 := hJ.rep r
    refine x_iload_n d_Es_joinExits_2 rfl rfl ?_
    refine x_aload_n d_Es_joinExits_3 rfl rfl ?_
    refine x_getF (kf := 0) d_Es_joinExits_4 rfl rfl rfl in_Es f_Es_18 ?_
    refine x_getF (kf := 0) d_Es_joinExits_7 rfl rfl rfl in_Ho f_Es_74 ?_
    refine x_V1 d_Es_joinExits_10 e_Es_joinExits_Ta_size ⟨rfl, rfl, Nat.zero_le _, Nat.zero_le _⟩ rfl rfl rfl rfl (Nat.le_of_ble_eq_true rfl) (k_size r1 0 (by decide)) ?_
    refine x_icmp_ge (66) d_Es_joinExits_13 (by decide) (fun g => ?_) (fun g => ?_)
    · refine x_return d_Es_joinExits_66 rfl ?_ (Nat.zero_le _) (Nat.zero_le _)
      rw [← hQ]
      exact ⟨none, rfl, rfl, G1, rfl, hJ.to (by omega) (fun S => rfl)⟩
    · omega
  · have r1 := hJ.rep r
    have bw := f_wide_bd hh hp set (d := h.2 6) (Nat.le_refl _)
    refine x_iload_n d_Es_joinExits_2 rfl rfl ?_
    refine x_aload_n d_Es_joinExits_3 rfl rfl ?_
    refine x_getF (kf := 0) d_Es_joinExits_4 rfl rfl rfl in_Es f_Es_18 ?_
    refine x_getF (kf := 0) d_Es_joinExits_7 rfl rfl rfl in_Ho f_Es_74 ?_
    refine x_V1 d_Es_joinExits_10 e_Es_joinExits_Ta_size ⟨rfl, rfl, Nat.zero_le _, Nat.zero_le _⟩ rfl rfl rfl rfl (Nat.le_of_ble_eq_true rfl) (k_size r1 0 (by decide)) ?_
    refine x_icmp_ge (66) d_Es_joinExits_13 (by decide) (fun g => ?_) (fun g => ?_)
    · omega
    · refine x_aload_n d_Es_joinExits_16 rfl rfl ?_
      refine x_getF (kf := 0) d_Es_joinExits_17 rfl rfl rfl in_Es f_Es_18 ?_
      refine x_iload_n d_Es_joinExits_20 rfl rfl ?_
      refine x_iload_n d_Es_joinExits_21 rfl rfl ?_
      refine x_V1 d_Es_joinExits_22 e_Es_joinExits_Ho_exitWidth ⟨rfl, rfl, Nat.zero_le _, Nat.zero_le _⟩ rfl rfl rfl rfl (Nat.le_of_ble_eq_true rfl) (c_exitWidth hh r1 p hp set) ?_
      refine x_istore d_Es_joinExits_25 (by decide) ?_
      dsimp only [x_st1, x_st2, x_kill, List.set, List.getElem?_cons_zero, List.getElem?_cons_succ]
      refine x_iconst (0) d_Es_joinExits_27 rfl ⟨by decide, by decide⟩ ?_
      refine x_istore d_Es_joinExits_28 (by decide) ?_
      dsimp only [x_st1, x_st2, x_kill, List.set, List.getElem?_cons_zero, List.getElem?_cons_succ]
      refine x_up_to (P := fun m => ∀ G2, jInv G0 (816 + 20 * p + m) (fun S => F S + su (fun p => su (fun m => kX h by' set (fun n => S (rho n)) m p) (by' + 1)) p + su (fun m => kX h by' set (fun n => S (rho n)) m p) m) G2 → x_A y_Es_joinExits 30 [some oEs, some (xI (by' : Int)), some (xI set), some (xI (p : Int)), some (xI (f_wide h p set (h.2 6))), some (xI (m : Int))] [] (S0, G2) 0 0 Q) 0 by' (Nat.zero_le _) (fun G2 hJ2 => ?_) (fun m _ hm k2 G2 hJ2 => ?_) G1 (hJ.to (by omega) (fun S => by show _ = _ + (0 : Int); omega))
      · refine x_iload d_Es_joinExits_30 rfl ?_
        refine x_iload_n d_Es_joinExits_32 rfl rfl ?_
        refine x_icmp_ge (60) d_Es_joinExits_33 (by decide) (fun g => ?_) (fun g => ?_)
        · refine x_iincN d_Es_joinExits_60 rfl (by decide) (by omega) (by omega) ?_
          dsimp only [x_st1, x_st2, x_kill, List.set, List.getElem?_cons_zero, List.getElem?_cons_succ]
          refine x_goto (2) d_Es_joinExits_63 (by decide) ?_
          refine k G2 _ _ (hJ2.to (by omega) (fun S => ?_))
          show _ = F S + (su _ p + (su (fun m => kX h by' set (fun n => S (rho n)) m p) by' + kX h by' set (fun n => S (rho n)) by' p))
          rw [show kX h by' set (fun n => S (rho n)) by' p = 0 from by unfold kX; rw [if_neg (by omega)]]; omega
        · omega
      · refine x_iload d_Es_joinExits_30 rfl ?_
        refine x_iload_n d_Es_joinExits_32 rfl rfl ?_
        refine x_icmp_ge (60) d_Es_joinExits_33 (by decide) (fun g => ?_) (fun g => ?_)
        · omega
        · refine x_aload_n d_Es_joinExits_36 rfl rfl ?_
          refine x_getF (kf := 2) d_Es_joinExits_37 rfl rfl rfl in_Es f_Es_12 ?_
          refine x_iload_n d_Es_joinExits_40 rfl rfl ?_
          refine x_iload d_Es_joinExits_41 rfl ?_
          refine x_S1 d_Es_joinExits_43 e_Es_joinExits_Es_being ⟨rfl, rfl, Nat.zero_le _, Nat.zero_le _⟩ rfl rfl (Nat.le_of_ble_eq_true rfl) (c_ebeing _ p m (by omega) (by omega)) ?_
          refine x_sipush (337) d_Es_joinExits_46 rfl ⟨by decide, by decide⟩ ?_
          refine x_iload d_Es_joinExits_49 rfl ?_
          refine x_VQ d_Es_joinExits_51 e_Es_joinExits_Ne_join ⟨rfl, rfl, Nat.zero_le _, Nat.zero_le _⟩ rfl rfl rfl rfl (Nat.le_of_ble_eq_true rfl) (c_join hJ2 (by omega) (16 * m + 2 * p + 1) 337 (f_wide h p set (h.2 6)) (by omega) (by omega) (by omega) (by omega)) (fun v τ hv => ?_)
          obtain ⟨rfl, G4, rfl, hJ4⟩ := hv
          show x_A y_Es_joinExits 54 [some oEs, some (xI (by' : Int)), some (xI set), some (xI (p : Int)), some (xI (f_wide h p set (h.2 6))), some (xI (m : Int))] [] (S0, G4) 0 0 Q
          refine x_iincN d_Es_joinExits_54 rfl (by decide) (by omega) (by omega) ?_
          dsimp only [x_st1, x_st2, x_kill, List.set, List.getElem?_cons_zero, List.getElem?_cons_succ]
          refine x_goto (30) d_Es_joinExits_57 (by decide) ?_
          refine k2 G4 (hJ4.to (by omega) (fun S => ?_))
          show _ = _ + (su _ m + kX h by' set (fun n => S (rho n)) m p)
          rw [show kX h by' set (fun n => S (rho n)) m p = ind S (16 * m + 2 * p + 1) 337 (f_wide h p set (h.2 6)) from by unfold kX; rw [if_pos (by omega), ind_rho, rho_i (by omega) (by omega), rho_t]]; omega
theorem c_joinGroups (hh : Hwf h) (r : fRep h G0) {F : (Nat → Bool) → Int} (by' : Nat) (hb : by' ≤ 20) (hI : jInv G0 976 F G) :
    x_M y_Es_joinGroups [oEs, xI (by' : Int)] (S0, G) (fun r τ => ∃ v, r = .inl v ∧ mJoined G0 986 (fun S => F S + su (kG h by' (fun n => S (rho n))) (h.2 5)) v τ) := by
  have b := hh.1
  refine x_of 3 rfl (Nat.le_of_ble_eq_true rfl) ?_
  show x_A y_Es_joinGroups 0 [some oEs, some (xI (by' : Int)), none, none, none] [] (S0, G) 0 0 _
  generalize hQ : (fun (r : XRes) (τ : XM) => ∃ v, r = .inl v ∧ mJoined G0 986 (fun S => F S + su (kG h by' (fun n => S (rho n))) (h.2 5)) v τ) = Q
  refine x_iconst (0) d_Es_joinGroups_0 rfl ⟨by decide, by decide⟩ ?_
  refine x_istore_n d_Es_joinGroups_1 rfl (by decide) ?_
  dsimp only [x_st1, x_st2, x_kill, List.set, List.getElem?_cons_zero, List.getElem?_cons_succ]
  refine x_up_to (P := fun i => ∀ G1 z3 z4, jInv G0 (976 + i) (fun S => F S + su (kG h by' (fun n => S (rho n))) i) G1 → x_A y_Es_joinGroups 2 [some oEs, some (xI (by' : Int)), some (xI (i : Int)), z3, z4] [] (S0, G1) 0 0 Q) 0 (h.2 5) (Nat.zero_le _) (fun G1 z3 z4 hJ => ?_) (fun i _ hi k G1 z3 z4 hJ => ?_) G none none (hI.to (by omega) (fun S => by show _ = F S + 0; omega))
  · have r1 := hJ.rep r
    refine x_iload_n d_Es_joinGroups_2 rfl rfl ?_
    refine x_aload_n d_Es_joinGroups_3 rfl rfl ?_
    refine x_getF (kf := 0) d_Es_joinGroups_4 rfl rfl rfl in_Es f_Es_18 ?_
    refine x_getF (kf := 5) d_Es_joinGroups_7 rfl rfl rfl in_Ho f_Es_107 ?_
    refine x_V1 d_Es_joinGroups_10 e_Es_joinGroups_Ta_size ⟨rfl, rfl, Nat.zero_le _, Nat.zero_le _⟩ rfl rfl rfl rfl (Nat.le_of_ble_eq_true rfl) (k_size r1 5 (by decide)) ?_
    refine x_icmp_ge (82) d_Es_joinGroups_13 (by decide) (fun g => ?_) (fun g => ?_)
    · refine x_return d_Es_joinGroups_82 rfl ?_ (Nat.zero_le _) (Nat.zero_le _)
      rw [← hQ]
      exact ⟨none, rfl, rfl, G1, rfl, hJ.to (by omega) (fun S => rfl)⟩
    · omega
  · have r1 := hJ.rep r
    have bg := hh.2.2.2.2.2.2.1 i hi
    obtain ⟨P, eP⟩ : ∃ P : Nat, h.1 5 i 0 = (P : Int) := ⟨(h.1 5 i 0).toNat, by omega⟩
    obtain ⟨T, eT⟩ : ∃ T : Nat, h.1 5 i 2 = (T : Int) := ⟨(h.1 5 i 2).toNat, by omega⟩
    have eG : ∀ S : Nat → Bool, su (kG h by' (fun n => S (rho n))) (i + 1) = su (kG h by' (fun n => S (rho n))) i + (if T ≤ by' then ind S 336 (16 * T + 2 * P) (h.1 5 i 1) else 0) := fun S => by
      show su _ i + kG h by' (fun n => S (rho n)) i = _
      congr 1
      unfold kG
      rw [eT, eP, Int.toNat_natCast, Int.toNat_natCast]
      by_cases q : T ≤ by'
      · rw [if_pos (by omega), if_pos q, ind_rho, rho_b (by omega) (by omega), rho_s]
      · rw [if_neg (by omega), if_neg q]
    refine x_iload_n d_Es_joinGroups_2 rfl rfl ?_
    refine x_aload_n d_Es_joinGroups_3 rfl rfl ?_
    refine x_getF (kf := 0) d_Es_joinGroups_4 rfl rfl rfl in_Es f_Es_18 ?_
    refine x_getF (kf := 5) d_Es_joinGroups_7 rfl rfl rfl in_Ho f_Es_107 ?_
    refine x_V1 d_Es_joinGroups_10 e_Es_joinGroups_Ta_size ⟨rfl, rfl, Nat.zero_le _, Nat.zero_le _⟩ rfl rfl rfl rfl (Nat.le_of_ble_eq_true rfl) (k_size r1 5 (by decide)) ?_
    refine x_icmp_ge (82) d_Es_joinGroups_13 (by decide) (fun g => ?_) (fun g => ?_)
    · omega
    · refine x_aload_n d_Es_joinGroups_16 rfl rfl ?_
      refine x_getF (kf := 0) d_Es_joinGroups_17 rfl rfl rfl in_Es f_Es_18 ?_
      refine x_getF (kf := 5) d_Es_joinGroups_20 rfl rfl rfl in_Ho f_Es_107 ?_
      refine x_iload_n d_Es_joinGroups_23 rfl rfl ?_
      refine x_iconst (2) d_Es_joinGroups_24 rfl ⟨by decide, by decide⟩ ?_
      refine x_V1 d_Es_joinGroups_25 e_Es_joinGroups_Ta_at ⟨rfl, rfl, Nat.zero_le _, Nat.zero_le _⟩ rfl rfl rfl rfl (Nat.le_of_ble_eq_true rfl) (k_at hh r1 5 i 2 (by decide) hi (by decide) rfl rfl) ?_
      rw [eT]
      refine x_istore_n d_Es_joinGroups_28 rfl (by decide) ?_
      dsimp only [x_st1, x_st2, x_kill, List.set, List.getElem?_cons_zero, List.getElem?_cons_succ]
      refine x_iload_n d_Es_joinGroups_29 rfl rfl ?_
      refine x_iload_n d_Es_joinGroups_30 rfl rfl ?_
      refine x_icmp_gt (76) d_Es_joinGroups_31 (by decide) (fun g2 => ?_) (fun g2 => ?_)
      · refine x_iincN d_Es_joinGroups_76 rfl (by decide) (by omega) (by omega) ?_
        dsimp only [x_st1, x_st2, x_kill, List.set, List.getElem?_cons_zero, List.getElem?_cons_succ]
        refine x_goto (2) d_Es_joinGroups_79 (by decide) ?_
        refine k G1 _ _ (hJ.to (by omega) (fun S => ?_))
        rw [eG S, if_neg (by omega)]; omega
      · refine x_aload_n d_Es_joinGroups_34 rfl rfl ?_
        refine x_getF (kf := 0) d_Es_joinGroups_35 rfl rfl rfl in_Es f_Es_18 ?_
        refine x_getF (kf := 5) d_Es_joinGroups_38 rfl rfl rfl in_Ho f_Es_107 ?_
        refine x_iload_n d_Es_joinGroups_41 rfl rfl ?_
        refine x_iconst (0) d_Es_joinGroups_42 rfl ⟨by decide, by decide⟩ ?_
        refine x_V1 d_Es_joinGroups_43 e_Es_joinGroups_Ta_at ⟨rfl, rfl, Nat.zero_le _, Nat.zero_le _⟩ rfl rfl rfl rfl (Nat.le_of_ble_eq_true rfl) (k_at hh r1 5 i 0 (by decide) hi (by decide) rfl rfl) ?_
        rw [eP]
        refine x_istore d_Es_joinGroups_46 (by decide) ?_
        dsimp only [x_st1, x_st2, x_kill, List.set, List.getElem?_cons_zero, List.getElem?_cons_succ]
        refine x_aload_n d_Es_joinGroups_48 rfl rfl ?_
        refine x_getF (kf := 2) d_Es_joinGroups_49 rfl rfl rfl in_Es f_Es_12 ?_
        refine x_sipush (336) d_Es_joinGroups_52 rfl ⟨by decide, by decide⟩ ?_
        refine x_iload d_Es_joinGroups_55 rfl ?_
        refine x_iload_n d_Es_joinGroups_57 rfl rfl ?_
        refine x_S1 d_Es_joinGroups_58 e_Es_joinGroups_Es_begin ⟨rfl, rfl, Nat.zero_le _, Nat.zero_le _⟩ rfl rfl (Nat.le_of_ble_eq_true rfl) (c_ebegin _ P T (by omega) (by omega)) ?_
        refine x_aload_n d_Es_joinGroups_61 rfl rfl ?_
        refine x_getF (kf := 0) d_Es_joinGroups_62 rfl rfl rfl in_Es f_Es_18 ?_
        refine x_getF (kf := 5) d_Es_joinGroups_65 rfl rfl rfl in_Ho f_Es_107 ?_
        refine x_iload_n d_Es_joinGroups_68 rfl rfl ?_
        refine x_iconst (1) d_Es_joinGroups_69 rfl ⟨by decide, by decide⟩ ?_
        refine x_V1 d_Es_joinGroups_70 e_Es_joinGroups_Ta_at ⟨rfl, rfl, Nat.zero_le _, Nat.zero_le _⟩ rfl rfl rfl rfl (Nat.le_of_ble_eq_true rfl) (k_at hh r1 5 i 1 (by decide) hi (by decide) rfl rfl) ?_
        refine x_VQ d_Es_joinGroups_73 e_Es_joinGroups_Ne_join ⟨rfl, rfl, Nat.zero_le _, Nat.zero_le _⟩ rfl rfl rfl rfl (Nat.le_of_ble_eq_true rfl) (c_join hJ (by omega) 336 (16 * T + 2 * P) (h.1 5 i 1) (by omega) (by omega) (by omega) (by omega)) (fun v τ hv => ?_)
        obtain ⟨rfl, G4, rfl, hJ4⟩ := hv
        show x_A y_Es_joinGroups 76 [some oEs, some (xI (by' : Int)), some (xI (i : Int)), some (xI (T : Int)), some (xI (P : Int))] [] (S0, G4) 0 0 Q
        refine x_iincN d_Es_joinGroups_76 rfl (by decide) (by omega) (by omega) ?_
        dsimp only [x_st1, x_st2, x_kill, List.set, List.getElem?_cons_zero, List.getElem?_cons_succ]
        refine x_goto (2) d_Es_joinGroups_79 (by decide) ?_
        refine k G4 _ _ (hJ4.to (by omega) (fun S => ?_))
        rw [eG S, if_pos (by omega)]; omega
end CE
