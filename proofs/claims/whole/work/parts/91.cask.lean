/-! the class: the next question -/
theorem xb_nat (n : Nat) {b : Nat} (hb : b < 32) : xb (n : Int) b = n.testBit b := by
  unfold xb
  show (BitVec.ofInt 32 (n : Int)).getLsbD b = _
  rw [BitVec.ofInt_natCast]
  rw [BitVec.getLsbD_ofNat, decide_eq_true hb, Bool.true_and]
theorem xb_big {g : Int} {n b : Nat} (h1 : 0 ≤ g) (h2 : g < (2 : Int) ^ n) (hb : b < 32) (hn : n ≤ b) : xb g b = false := by
  obtain ⟨k, rfl⟩ : ∃ k : Nat, g = k := ⟨g.toNat, by omega⟩
  rw [xb_nat k hb]
  have e : ((2 : Int) ^ n) = ((2 ^ n : Nat) : Int) := by rw [Int.natCast_pow]; rfl
  rw [e] at h2
  have h3 : 2 ^ n ≤ 2 ^ b := Nat.pow_le_pow_right (by decide) hn
  exact Nat.testBit_lt_two_pow (by omega)
theorem f_nx_s (h : HH) (pl all : Int) {m p : Nat} (hp : p < 8) : f_nx h pl all (8 * m + p + 1) = if xb (h.1 9 0 2) p = true ∧ ((f_nx h pl all (8 * m + p)).1 = -1 ∨ max (f_cn h pl m p 5) (all - f_cn h pl m p 5) < (f_nx h pl all (8 * m + p)).2) then (((8 * m + p : Nat) : Int), max (f_cn h pl m p 5) (all - f_cn h pl m p 5)) else f_nx h pl all (8 * m + p) := by
  show (if _ then _ else _) = _
  rw [show (8 * m + p) / 8 = m by omega, show (8 * m + p) % 8 = p by omega]
theorem f_nx_e {h : HH} (hh : Hwf h) (pl all : Int) (m : Nat) : ∀ p, h.2 0 ≤ p → p ≤ 8 → f_nx h pl all (8 * m + p) = f_nx h pl all (8 * m + h.2 0)
  | 0, h1, _ => by rw [show h.2 0 = 0 by omega]
  | p + 1, h1, h2 => by
    by_cases e : h.2 0 = p + 1
    · rw [e]
    · have b9 := hh.2.2.2.2.2.2.2.2.2.2
      rw [← f_nx_e hh pl all m p (by omega) (by omega)]
      show f_nx h pl all (8 * m + p + 1) = _
      rw [f_nx_s h pl all (by omega), if_neg (fun z => by
        have := xb_big (g := h.1 9 0 2) (n := h.2 0) (b := p) (by omega) (by omega) (by omega) (by omega)
        rw [this] at z; cases z.1)]
def v_nxt (h : HH) (pl : Int) : Int := if cb (f_ft h pl 5).toNat < 2 then -1 else (f_nx h pl (cb (f_ft h pl 5).toNat : Int) 168).1
section CAs
variable {h : HH} {G : Nat → Nat → Int}
theorem c_asked (hh : Hwf h) (r : fRep h G) {pl : Int} (w : wM h pl G) : x_M y_Wa_asked [oWa] (S0, G) (x_is (.inl (some (xI (v_nxt h pl)))) (S0, G)) := by
  have b := hh.1
  have b9 := hh.2.2.2.2.2.2.2.2.2.2
  have h90 : 0 < h.2 9 := by rw [r.1]; decide
  refine x_of 8 rfl (Nat.le_of_ble_eq_true rfl) ?_
  show x_A y_Wa_asked 0 [some oWa, none, none, none, none, none, none, none, none] [] (S0, G) 0 0 _
  obtain ⟨s, hs1, hs2⟩ := f_ft_n h pl (f := 5) (by omega)
  have hs1' : s < 32 := hs1
  have ev : v_nxt h pl = if cb s < 2 then -1 else (f_nx h pl (cb s : Int) 168).1 := by unfold v_nxt; rw [hs2, Int.toNat_natCast]
  rw [ev]
  have bc : ∀ m p, f_cn h pl m p 5 ≤ cb s := fun m p => (cb_ft h pl m p (by omega) hs2).1
  have bs : cb s ≤ 5 := cb_le (by decide) hs1
  generalize hQ : x_is (.inl (some (xI (if cb s < 2 then -1 else (f_nx h pl (cb s : Int) 168).1)))) (S0, G) = Q
  refine x_aload_n d_Wa_asked_0 rfl rfl ?_
  refine x_V1 d_Wa_asked_1 e_Wa_asked_Wa_fitting ⟨rfl, rfl, Nat.zero_le _, Nat.zero_le _⟩ rfl rfl rfl rfl (Nat.le_of_ble_eq_true rfl) (c_fitting hh r w) ?_
  rw [hs2]
  refine x_istore_n d_Wa_asked_4 rfl (by decide) ?_
  dsimp only [x_st1, x_st2, x_kill, List.set, List.getElem?_cons_zero, List.getElem?_cons_succ]
  refine x_iload_n d_Wa_asked_5 rfl rfl ?_
  refine x_S1 d_Wa_asked_6 e_Wa_asked_JI_bitCount ⟨rfl, rfl, Nat.zero_le _, Nat.zero_le _⟩ rfl rfl (Nat.le_of_ble_eq_true rfl) (c_bitCount _ (by omega)) ?_
  refine x_istore_n d_Wa_asked_9 rfl (by decide) ?_
  dsimp only [x_st1, x_st2, x_kill, List.set, List.getElem?_cons_zero, List.getElem?_cons_succ]
  refine x_iload_n d_Wa_asked_10 rfl rfl ?_
  refine x_iconst (2) d_Wa_asked_11 rfl ⟨by decide, by decide⟩ ?_
  refine x_icmp_ge (17) d_Wa_asked_12 (by decide) (fun g => ?_) (fun g => ?_)
  · rw [if_neg (by omega)] at hQ
    generalize hall : (cb s : Int) = all at *
    refine x_iconst (-1) d_Wa_asked_17 rfl ⟨by decide, by decide⟩ ?_
    refine x_istore_n d_Wa_asked_18 rfl (by decide) ?_
    dsimp only [x_st1, x_st2, x_kill, List.set, List.getElem?_cons_zero, List.getElem?_cons_succ]
    refine x_iload_n d_Wa_asked_19 rfl rfl ?_
    refine x_iconst (1) d_Wa_asked_20 rfl ⟨by decide, by decide⟩ ?_
    refine x_iaddN d_Wa_asked_21 (by omega) (by omega) ?_
    refine x_istore d_Wa_asked_22 (by decide) ?_
    dsimp only [x_st1, x_st2, x_kill, List.set, List.getElem?_cons_zero, List.getElem?_cons_succ]
    refine x_iconst (0) d_Wa_asked_24 rfl ⟨by decide, by decide⟩ ?_
    refine x_istore d_Wa_asked_25 (by decide) ?_
    dsimp only [x_st1, x_st2, x_kill, List.set, List.getElem?_cons_zero, List.getElem?_cons_succ]
    have main : ∀ z6 z7 z8, x_A y_Wa_asked 27 [some oWa, some (xI (s : Int)), some (xI all), some (xI (f_nx h pl all 0).1), some (xI (if (f_nx h pl all 0).1 = -1 then all + 1 else (f_nx h pl all 0).2)), some (xI ((0 : Nat) : Int)), z6, z7, z8] [] (S0, G) 0 0 Q := by
      refine x_up_to (P := fun m => ∀ z6 z7 z8, x_A y_Wa_asked 27 [some oWa, some (xI (s : Int)), some (xI all), some (xI (f_nx h pl all (8 * m)).1), some (xI (if (f_nx h pl all (8 * m)).1 = -1 then all + 1 else (f_nx h pl all (8 * m)).2)), some (xI (m : Int)), z6, z7, z8] [] (S0, G) 0 0 Q) 0 21 (Nat.zero_le _) (fun z6 z7 z8 => ?_) (fun m _ hm k z6 z7 z8 => ?_)
      · refine x_iload d_Wa_asked_27 rfl ?_
        refine x_bipush (21) d_Wa_asked_29 rfl ⟨by decide, by decide⟩ ?_
        refine x_icmp_ge (127) d_Wa_asked_31 (by decide) (fun g2 => ?_) (fun g2 => ?_)
        · refine x_iload_n d_Wa_asked_127 rfl rfl ?_
          refine x_ireturn d_Wa_asked_128 rfl ?_ (Nat.zero_le _) (Nat.zero_le _)
          rw [← hQ]
          exact ⟨rfl, rfl⟩
        · omega
      · refine x_iload d_Wa_asked_27 rfl ?_
        refine x_bipush (21) d_Wa_asked_29 rfl ⟨by decide, by decide⟩ ?_
        refine x_icmp_ge (127) d_Wa_asked_31 (by decide) (fun g2 => ?_) (fun g2 => ?_)
        · omega
        · refine x_iconst (0) d_Wa_asked_34 rfl ⟨by decide, by decide⟩ ?_
          refine x_istore d_Wa_asked_35 (by decide) ?_
          dsimp only [x_st1, x_st2, x_kill, List.set, List.getElem?_cons_zero, List.getElem?_cons_succ]
          refine x_up_to (P := fun p => ∀ z7 z8, x_A y_Wa_asked 37 [some oWa, some (xI (s : Int)), some (xI all), some (xI (f_nx h pl all (8 * m + p)).1), some (xI (if (f_nx h pl all (8 * m + p)).1 = -1 then all + 1 else (f_nx h pl all (8 * m + p)).2)), some (xI (m : Int)), some (xI (p : Int)), z7, z8] [] (S0, G) 0 0 Q) 0 (h.2 0) (Nat.zero_le _) (fun z7 z8 => ?_) (fun p _ hp k2 z7 z8 => ?_) z7 z8
          · have e8 := f_nx_e hh pl all m 8 (by omega) (by omega)
            rw [show 8 * m + 8 = 8 * (m + 1) by omega] at e8
            rw [← e8]
            refine x_iload d_Wa_asked_37 rfl ?_
            refine x_aload_n d_Wa_asked_39 rfl rfl ?_
            refine x_getF (kf := 0) d_Wa_asked_40 rfl rfl rfl in_Wa f_Wa_15 ?_
            refine x_getF (kf := 0) d_Wa_asked_43 rfl rfl rfl in_Ho f_Wa_73 ?_
            refine x_V1 d_Wa_asked_46 e_Wa_asked_Ta_size ⟨rfl, rfl, Nat.zero_le _, Nat.zero_le _⟩ rfl rfl rfl rfl (Nat.le_of_ble_eq_true rfl) (k_size r 0 (by decide)) ?_
            refine x_icmp_ge (121) d_Wa_asked_49 (by decide) (fun g3 => ?_) (fun g3 => ?_)
            · refine x_iincN d_Wa_asked_121 rfl (by decide) (by omega) (by omega) ?_
              dsimp only [x_st1, x_st2, x_kill, List.set, List.getElem?_cons_zero, List.getElem?_cons_succ]
              refine x_goto (27) d_Wa_asked_124 (by decide) ?_
              exact k _ _ _
            · omega
          · have cc := c_countMarked hh r w p m hp (by omega)
            rw [hs2] at cc
            have bcn := f_cn_bd h pl m p 5
            have bcm := bc m p
            rw [show 8 * m + (p + 1) = 8 * m + p + 1 by omega, f_nx_s h pl all (by omega)] at k2
            generalize hcn : f_cn h pl m p 5 = n at *
            generalize hst : f_nx h pl all (8 * m + p) = st at *
            generalize hls : (if st.1 = -1 then all + 1 else st.2) = ls at *
            refine x_iload d_Wa_asked_37 rfl ?_
            refine x_aload_n d_Wa_asked_39 rfl rfl ?_
            refine x_getF (kf := 0) d_Wa_asked_40 rfl rfl rfl in_Wa f_Wa_15 ?_
            refine x_getF (kf := 0) d_Wa_asked_43 rfl rfl rfl in_Ho f_Wa_73 ?_
            refine x_V1 d_Wa_asked_46 e_Wa_asked_Ta_size ⟨rfl, rfl, Nat.zero_le _, Nat.zero_le _⟩ rfl rfl rfl rfl (Nat.le_of_ble_eq_true rfl) (k_size r 0 (by decide)) ?_
            refine x_icmp_ge (121) d_Wa_asked_49 (by decide) (fun g3 => ?_) (fun g3 => ?_)
            · omega
            · refine x_aload_n d_Wa_asked_52 rfl rfl ?_
              refine x_iload_n d_Wa_asked_53 rfl rfl ?_
              refine x_iload d_Wa_asked_54 rfl ?_
              refine x_iload d_Wa_asked_56 rfl ?_
              refine x_V1 d_Wa_asked_58 e_Wa_asked_Wa_countMarked ⟨rfl, rfl, Nat.zero_le _, Nat.zero_le _⟩ rfl rfl rfl rfl (Nat.le_of_ble_eq_true rfl) (cc) ?_
              refine x_istore d_Wa_asked_61 (by decide) ?_
              dsimp only [x_st1, x_st2, x_kill, List.set, List.getElem?_cons_zero, List.getElem?_cons_succ]
              refine x_iload d_Wa_asked_63 rfl ?_
              refine x_iload_n d_Wa_asked_65 rfl rfl ?_
              refine x_iload d_Wa_asked_66 rfl ?_
              refine x_isubN d_Wa_asked_68 (by omega) (by omega) ?_
              refine x_S1 d_Wa_asked_69 e_Wa_asked_JM_max ⟨rfl, rfl, Nat.zero_le _, Nat.zero_le _⟩ rfl rfl (Nat.le_of_ble_eq_true rfl) (s_max _ _ _) ?_
              refine x_istore d_Wa_asked_72 (by decide) ?_
              dsimp only [x_st1, x_st2, x_kill, List.set, List.getElem?_cons_zero, List.getElem?_cons_succ]
              refine x_aload_n d_Wa_asked_74 rfl rfl ?_
              refine x_getF (kf := 0) d_Wa_asked_75 rfl rfl rfl in_Wa f_Wa_15 ?_
              refine x_getF (kf := 9) d_Wa_asked_78 rfl rfl rfl in_Ho f_Wa_45 ?_
              refine x_iconst (0) d_Wa_asked_81 rfl ⟨by decide, by decide⟩ ?_
              refine x_iconst (2) d_Wa_asked_82 rfl ⟨by decide, by decide⟩ ?_
              refine x_V1 d_Wa_asked_83 e_Wa_asked_Ta_at ⟨rfl, rfl, Nat.zero_le _, Nat.zero_le _⟩ rfl rfl rfl rfl (Nat.le_of_ble_eq_true rfl) (k_at hh r 9 0 2 (by decide) h90 (by decide) rfl rfl) ?_
              refine x_iload d_Wa_asked_86 rfl ?_
              refine x_ishr d_Wa_asked_88 ?_
              refine x_iconst (1) d_Wa_asked_89 rfl ⟨by decide, by decide⟩ ?_
              refine x_iand d_Wa_asked_90 ?_
              refine x_iconst (1) d_Wa_asked_91 rfl ⟨by decide, by decide⟩ ?_
              rw [x_and1, xb_shr _ (by omega)]
              by_cases q : xb (h.1 9 0 2) p = true
              · rw [if_pos q]
                refine x_icmp_ne (115) d_Wa_asked_92 (by decide) (fun g4 => ?_) (fun g4 => ?_)
                · exact absurd rfl g4
                · refine x_iload d_Wa_asked_95 rfl ?_
                  refine x_iload d_Wa_asked_97 rfl ?_
                  refine x_icmp_ge (115) d_Wa_asked_99 (by decide) (fun g5 => ?_) (fun g5 => ?_)
                  · rw [if_neg (fun z => by
                      rcases z.2 with y | y
                      · rw [if_pos y] at hls; omega
                      · by_cases y2 : st.1 = -1
                        · rw [if_pos y2] at hls; omega
                        · rw [if_neg y2] at hls; omega)] at k2
                    rw [hls] at k2
                    refine x_iincN d_Wa_asked_115 rfl (by decide) (by omega) (by omega) ?_
                    dsimp only [x_st1, x_st2, x_kill, List.set, List.getElem?_cons_zero, List.getElem?_cons_succ]
                    refine x_goto (37) d_Wa_asked_118 (by decide) ?_
                    exact k2 _ _
                  · rw [if_pos ⟨q, by
                      by_cases y2 : st.1 = -1
                      · exact Or.inl y2
                      · rw [if_neg y2] at hls; right; omega⟩] at k2
                    rw [if_neg (show ¬ (((8 * m + p : Nat) : Int) = -1) by omega)] at k2
                    have k3 := k2
                    rw [show ((8 * m + p : Nat) : Int) = 8 * (m : Int) + (p : Int) by omega] at k3
                    refine x_iload d_Wa_asked_102 rfl ?_
                    refine x_istore d_Wa_asked_104 (by decide) ?_
                    dsimp only [x_st1, x_st2, x_kill, List.set, List.getElem?_cons_zero, List.getElem?_cons_succ]
                    refine x_bipush (8) d_Wa_asked_106 rfl ⟨by decide, by decide⟩ ?_
                    refine x_iload d_Wa_asked_108 rfl ?_
                    refine x_imulN d_Wa_asked_110 (by omega) (by omega) ?_
                    refine x_iload d_Wa_asked_111 rfl ?_
                    refine x_iaddN d_Wa_asked_113 (by omega) (by omega) ?_
                    refine x_istore_n d_Wa_asked_114 rfl (by decide) ?_
                    dsimp only [x_st1, x_st2, x_kill, List.set, List.getElem?_cons_zero, List.getElem?_cons_succ]
                    refine x_iincN d_Wa_asked_115 rfl (by decide) (by omega) (by omega) ?_
                    dsimp only [x_st1, x_st2, x_kill, List.set, List.getElem?_cons_zero, List.getElem?_cons_succ]
                    refine x_goto (37) d_Wa_asked_118 (by decide) ?_
                    exact k3 _ _
              · rw [if_neg q]
                rw [if_neg (fun z => q z.1)] at k2
                rw [hls] at k2
                refine x_icmp_ne (115) d_Wa_asked_92 (by decide) (fun g4 => ?_) (fun g4 => ?_)
                · refine x_iincN d_Wa_asked_115 rfl (by decide) (by omega) (by omega) ?_
                  dsimp only [x_st1, x_st2, x_kill, List.set, List.getElem?_cons_zero, List.getElem?_cons_succ]
                  refine x_goto (37) d_Wa_asked_118 (by decide) ?_
                  exact k2 _ _
                · exact absurd g4 (by decide)
    exact main none none none
  · rw [if_pos (by omega)] at hQ
    refine x_iconst (-1) d_Wa_asked_15 rfl ⟨by decide, by decide⟩ ?_
    refine x_ireturn d_Wa_asked_16 rfl ?_ (Nat.zero_le _) (Nat.zero_le _)
    rw [← hQ]
    exact ⟨rfl, rfl⟩
end CAs
