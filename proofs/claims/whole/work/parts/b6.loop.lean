/-! the law's loop -/
theorem x_and63 (s : Int) : 0 ≤ x_and s 63 ∧ x_and s 63 ≤ 63 := by
  unfold x_and
  generalize Int32.ofInt s = w
  have h1 : (w &&& Int32.ofInt 63).toBitVec.toNat ≤ 63 := by
    rw [Int32.toBitVec_and, BitVec.toNat_and]
    exact Nat.and_le_right
  have h2 : (w &&& Int32.ofInt 63).toInt = ((w &&& Int32.ofInt 63).toBitVec.toNat : Int) := by
    show BitVec.toInt _ = _
    rw [BitVec.toInt_eq_toNat_of_lt (by omega)]
  omega
def LH (sb sL : Nat) (sx : Nat → Int32) (n : Nat) : Prop := ∀ (a : AB) (G : Nat → Nat → Int) (kc ks : Nat), ZC a n G → ZM a n G → kc ≤ 300 + 16 * n → ks ≤ 40000 + 100 * n → x_J sb sL sx y_L_law 23 [none, some oFa, some oM, some oAn, some (xI ((8 * n : Nat) : Int)), none, none, none] [] (S0, G) kc ks LQ
theorem LH.next {sb sL : Nat} {sx : Nat → Int32} {n : Nat} (hn : 8 * n + 8 ≤ 4096) (h : LH sb sL sx (n + 1)) : LN sb sL sx n := by
  intro a G kc ks zc zm hc hs
  refine j_iincN (by decide) d_L_law_3869 rfl (by decide) (by omega) (by omega) ?_
  dsimp only [x_st1, x_st2, x_kill, List.set, List.getElem?_cons_zero, List.getElem?_cons_succ]
  refine j_goto (23) d_L_law_3872 (by decide) ?_
  have := h a G kc ks zc zm hc hs
  rw [show ((8 * (n + 1) : Nat) : Int) = ((8 * n : Nat) : Int) + 8 by omega] at this
  exact this
theorem law_step {sb sL : Nat} {sx : Nat → Int32} (hL : sL ≤ 4096) (n : Nat) (nb : n ≤ 600) (hnext : 8 * n + 8 ≤ sL → LN sb sL sx n) : LH sb sL sx n := by
  intro a G kc ks zc zm hc hs
  · refine j_iload d_L_law_23 rfl ?_
    refine j_slen (by omega) d_L_law_25 d_L_law_26 ?_
    refine j_bipush (8) d_L_law_27 rfl ⟨by decide, by decide⟩ ?_
    refine j_isubN d_L_law_29 (by omega) (by omega) ?_
    refine j_icmp_gt (3875) d_L_law_30 (by decide) (fun g => ?_) (fun g => ?_)
    · refine j_iconst (1) d_L_law_3875 rfl ⟨by decide, by decide⟩ ?_
      exact j_zreturn d_L_law_3876 rfl (Or.inr rfl) rfl (by show kc ≤ 601024; omega) (by show ks ≤ 7293034; omega)
    · have hn : 8 * n + 8 ≤ sL := by omega
      have next := hnext hn
      refine j_s0 (i := 8 * n) (by omega) (by omega) rfl d_L_law_33 d_L_law_34 d_L_law_36 ?_
      refine j_bipush (63) d_L_law_37 rfl ⟨by decide, by decide⟩ ?_
      refine j_iand d_L_law_39 ?_
      have hw := x_and63 (sV sx (8 * n))
      by_cases big : 41 < x_and (sV sx (8 * n)) 63
      · refine j_tabOut 3869 d_L_law_40 (Or.inr big) (by decide) ?_
        exact next a G kc ks zc.up ⟨zm.1, zm.2.1, by have := zm.2.2; omega⟩ (by omega) (by omega)
      · have cs : x_and (sV sx (8 * n)) 63 = 0 ∨ x_and (sV sx (8 * n)) 63 = 1 ∨ x_and (sV sx (8 * n)) 63 = 2 ∨ x_and (sV sx (8 * n)) 63 = 3 ∨ x_and (sV sx (8 * n)) 63 = 4 ∨ x_and (sV sx (8 * n)) 63 = 5 ∨ x_and (sV sx (8 * n)) 63 = 6 ∨ x_and (sV sx (8 * n)) 63 = 7 ∨ x_and (sV sx (8 * n)) 63 = 8 ∨ x_and (sV sx (8 * n)) 63 = 9 ∨ x_and (sV sx (8 * n)) 63 = 10 ∨ x_and (sV sx (8 * n)) 63 = 11 ∨ x_and (sV sx (8 * n)) 63 = 12 ∨ x_and (sV sx (8 * n)) 63 = 13 ∨ x_and (sV sx (8 * n)) 63 = 14 ∨ x_and (sV sx (8 * n)) 63 = 15 ∨ x_and (sV sx (8 * n)) 63 = 16 ∨ x_and (sV sx (8 * n)) 63 = 17 ∨ x_and (sV sx (8 * n)) 63 = 18 ∨ x_and (sV sx (8 * n)) 63 = 19 ∨ x_and (sV sx (8 * n)) 63 = 20 ∨ x_and (sV sx (8 * n)) 63 = 21 ∨ x_and (sV sx (8 * n)) 63 = 22 ∨ x_and (sV sx (8 * n)) 63 = 23 ∨ x_and (sV sx (8 * n)) 63 = 24 ∨ x_and (sV sx (8 * n)) 63 = 25 ∨ x_and (sV sx (8 * n)) 63 = 26 ∨ x_and (sV sx (8 * n)) 63 = 27 ∨ x_and (sV sx (8 * n)) 63 = 28 ∨ x_and (sV sx (8 * n)) 63 = 29 ∨ x_and (sV sx (8 * n)) 63 = 30 ∨ x_and (sV sx (8 * n)) 63 = 31 ∨ x_and (sV sx (8 * n)) 63 = 32 ∨ x_and (sV sx (8 * n)) 63 = 33 ∨ x_and (sV sx (8 * n)) 63 = 34 ∨ x_and (sV sx (8 * n)) 63 = 35 ∨ x_and (sV sx (8 * n)) 63 = 36 ∨ x_and (sV sx (8 * n)) 63 = 37 ∨ x_and (sV sx (8 * n)) 63 = 38 ∨ x_and (sV sx (8 * n)) 63 = 39 ∨ x_and (sV sx (8 * n)) 63 = 40 ∨ x_and (sV sx (8 * n)) 63 = 41 := by omega
        rcases cs with e | e | e | e | e | e | e | e | e | e | e | e | e | e | e | e | e | e | e | e | e | e | e | e | e | e | e | e | e | e | e | e | e | e | e | e | e | e | e | e | e | e
        · rw [e]; exact j_tabIn 224 d_L_law_40 (by decide) (by decide) rfl (by decide) (lc_piece hn hL zc zm hc hs next)
        · rw [e]; exact j_tabIn 292 d_L_law_40 (by decide) (by decide) rfl (by decide) (lc_way hn hL zc zm hc hs next)
        · rw [e]; exact j_tabIn 396 d_L_law_40 (by decide) (by decide) rfl (by decide) (lc_water hn hL zc zm hc hs next)
        · rw [e]; exact j_tabIn 464 d_L_law_40 (by decide) (by decide) rfl (by decide) (lc_fire hn hL zc zm hc hs next)
        · rw [e]; exact j_tabIn 582 d_L_law_40 (by decide) (by decide) rfl (by decide) (lc_fan hn hL zc zm hc hs next)
        · rw [e]; exact j_tabIn 674 d_L_law_40 (by decide) (by decide) rfl (by decide) (lc_set hn hL zc zm hc hs next)
        · rw [e]; exact j_tabIn 766 d_L_law_40 (by decide) (by decide) rfl (by decide) (lc_eyes hn hL zc zm hc hs next)
        · rw [e]; exact j_tabIn 822 d_L_law_40 (by decide) (by decide) rfl (by decide) (lc_group hn hL zc zm hc hs next)
        · rw [e]; exact j_tabIn 902 d_L_law_40 (by decide) (by decide) rfl (by decide) (lc_walk hn hL zc zm hc hs next)
        · rw [e]; exact j_tabIn 958 d_L_law_40 (by decide) (by decide) rfl (by decide) (lc_door hn hL zc zm hc hs next)
        · rw [e]; exact j_tabIn 1038 d_L_law_40 (by decide) (by decide) rfl (by decide) (lc_make hn hL zc zm hc hs next)
        · rw [e]; exact j_tabIn 1129 d_L_law_40 (by decide) (by decide) rfl (by decide) (lc_gauges hn hL zc zm hc hs next)
        · rw [e]; exact j_tabIn 1189 d_L_law_40 (by decide) (by decide) rfl (by decide) (lc_air hn hL zc zm hc hs next)
        · rw [e]; exact j_tabIn 1307 d_L_law_40 (by decide) (by decide) rfl (by decide) (lc_smoke hn hL zc zm hc hs next)
        · rw [e]; exact j_tabIn 1454 d_L_law_40 (by decide) (by decide) rfl (by decide) (lc_given hn hL zc zm hc hs next)
        · rw [e]; exact j_tabIn 1571 d_L_law_40 (by decide) (by decide) rfl (by decide) (lc_lost hn hL zc zm hc hs next)
        · rw [e]; exact j_tabIn 1675 d_L_law_40 (by decide) (by decide) rfl (by decide) (lc_shut hn hL zc zm hc hs next)
        · rw [e]; exact j_tabIn 1800 d_L_law_40 (by decide) (by decide) rfl (by decide) (lc_out hn hL zc zm hc hs next)
        · rw [e]; exact j_tabIn 1904 d_L_law_40 (by decide) (by decide) rfl (by decide) (lc_all hn hL zc zm hc hs next)
        · rw [e]; exact j_tabIn 1996 d_L_law_40 (by decide) (by decide) rfl (by decide) (lc_side hn hL zc zm hc hs next)
        · rw [e]; exact j_tabIn 2114 d_L_law_40 (by decide) (by decide) rfl (by decide) (lc_worth hn hL zc zm hc hs next)
        · rw [e]; exact j_tabIn 2232 d_L_law_40 (by decide) (by decide) rfl (by decide) (lc_fewest hn hL zc zm hc hs next)
        · rw [e]; exact j_tabIn 2312 d_L_law_40 (by decide) (by decide) rfl (by decide) (lc_alike hn hL zc zm hc hs next)
        · rw [e]; exact j_tabIn 2411 d_L_law_40 (by decide) (by decide) rfl (by decide) (lc_regret hn hL zc zm hc hs next)
        · rw [e]; exact j_tabIn 2515 d_L_law_40 (by decide) (by decide) rfl (by decide) (lc_turn hn hL zc zm hc hs next)
        · rw [e]; exact j_tabIn 2595 d_L_law_40 (by decide) (by decide) rfl (by decide) (lc_turnTo hn hL zc zm hc hs next)
        · rw [e]; exact j_tabIn 2687 d_L_law_40 (by decide) (by decide) rfl (by decide) (lc_best hn hL zc zm hc hs next)
        · rw [e]; exact j_tabIn 2755 d_L_law_40 (by decide) (by decide) rfl (by decide) (lc_reach hn hL zc zm hc hs next)
        · rw [e]; exact j_tabIn 2873 d_L_law_40 (by decide) (by decide) rfl (by decide) (lc_drill hn hL zc zm hc hs next)
        · rw [e]; exact j_tabIn 2941 d_L_law_40 (by decide) (by decide) rfl (by decide) (lc_fit hn hL zc zm hc hs next)
        · rw [e]; exact j_tabIn 2954 d_L_law_40 (by decide) (by decide) rfl (by decide) (lc_dose hn hL zc zm hc hs next)
        · rw [e]; exact j_tabIn 3071 d_L_law_40 (by decide) (by decide) rfl (by decide) (lc_outAt hn hL zc zm hc hs next)
        · rw [e]; exact j_tabIn 3189 d_L_law_40 (by decide) (by decide) rfl (by decide) (lc_whereAt hn hL zc zm hc hs next)
        · rw [e]; exact j_tabIn 3321 d_L_law_40 (by decide) (by decide) rfl (by decide) (lc_reading hn hL zc zm hc hs next)
        · rw [e]; exact j_tabIn 3417 d_L_law_40 (by decide) (by decide) rfl (by decide) (lc_fits hn hL zc zm hc hs next)
        · rw [e]; exact j_tabIn 3473 d_L_law_40 (by decide) (by decide) rfl (by decide) (lc_next hn hL zc zm hc hs next)
        · rw [e]; exact j_tabIn 3529 d_L_law_40 (by decide) (by decide) rfl (by decide) (lc_undo hn hL zc zm hc hs next)
        · rw [e]; exact j_tabIn 3542 d_L_law_40 (by decide) (by decide) rfl (by decide) (lc_redo hn hL zc zm hc hs next)
        · rw [e]; exact j_tabIn 3555 d_L_law_40 (by decide) (by decide) rfl (by decide) (lc_row hn hL zc zm hc hs next)
        · rw [e]; exact j_tabIn 3615 d_L_law_40 (by decide) (by decide) rfl (by decide) (lc_write hn hL zc zm hc hs next)
        · rw [e]; exact j_tabIn 3726 d_L_law_40 (by decide) (by decide) rfl (by decide) (lc_lay hn hL zc zm hc hs next)
        · rw [e]; exact j_tabIn 3844 d_L_law_40 (by decide) (by decide) rfl (by decide) (lc_count hn hL zc zm hc hs next)
theorem law_loop {sb sL : Nat} {sx : Nat → Int32} (hL : sL ≤ 4096) : ∀ d n : Nat, n + d = 520 → LH sb sL sx n := by
  intro d
  induction d with
  | zero => exact fun n hd => law_step hL n (by omega) (fun h => by omega)
  | succ d ih => exact fun n hd => law_step hL n (by omega) (fun h => LH.next (by omega) (ih (n + 1) (by omega)))
