/-! the reference: count -/
theorem f_made_n (h : HH) {d : Nat} (hd : d ≤ 6) : ∃ n : Nat, n < 2 ^ d ∧ f_made h d = n := by
  have key : ∀ f : Fin 6, ∀ n : Fin 64, (n : Nat) < 2 ^ (f : Nat) → x_or ((n : Nat) : Int) (x_shl 1 (f : Nat)) = (((n : Nat) ||| 2 ^ (f : Nat) : Nat) : Int) ∧ ((n : Nat) ||| 2 ^ (f : Nat)) < 2 ^ ((f : Nat) + 1) := by decide +kernel
  have key0 : ∀ n : Fin 64, x_or ((n : Nat) : Int) 0 = ((n : Nat) : Int) := by decide +kernel
  induction d with
  | zero => exact ⟨0, by decide, rfl⟩
  | succ d ih =>
    obtain ⟨n, h1, h2⟩ := ih (by omega)
    have h3 : 2 ^ d ≤ 2 ^ 5 := Nat.pow_le_pow_right (by decide) (by omega)
    have h4 : n < 64 := by omega
    rw [f_made_s, h2]
    split
    · exact ⟨n, by rw [Nat.pow_succ]; omega, key0 ⟨n, h4⟩⟩
    · have k := key ⟨d, by omega⟩ ⟨n, h4⟩ h1
      exact ⟨_, k.2, k.1⟩
section MCt
variable {R : Nat → Nat → Int} {hs : Nat → HH} {base k logged : Nat} {G : Nat → Nat → Int}
def v_cnt (h : HH) (base done logged : Nat) (w : Int) : Int := if w = 0 then h.2 0 else if w = 1 then h.2 1 else if w = 2 then h.2 2 else if w = 3 then h.2 3 else if w = 4 then h.2 4 else if w = 5 then h.2 5 else if w = 6 then f_people h else if w = 7 then h.2 6 else if w = 8 then (cb (f_made h (h.2 6)).toNat : Int) else if w = 9 then h.2 7 else if w = 10 then h.2 8 else if w = 11 then (done : Int) - base else if w = 12 then (logged : Int) - done else -1
theorem s_count (x : mLog R hs base k logged G) (w : Int) : x_M y_M_count [oM, xI w] (S0, G) (x_is (.inl (some (xI (v_cnt (hs k) base k logged w)))) (S0, up G o_M 0 0)) := by
  have hh := x.1.2.2.1 k x.1.1.2.1
  have hb := x.1.1
  have bb := hh.1
  have y := x.thrown 0
  have r := y.2.2.1
  have e0 := r.to
  refine x_of 0 rfl (Nat.le_of_ble_eq_true rfl) ?_
  show x_A y_M_count 0 [some oM, some (xI w)] [] (S0, G) 0 0 _
  generalize hV : v_cnt (hs k) base k logged w = V
  unfold v_cnt at hV
  generalize hQ : x_is (.inl (some (xI V))) (S0, up G o_M 0 0) = Q
  refine x_aload_n d_M_count_0 rfl rfl ?_
  refine x_iconst (0) d_M_count_1 rfl ⟨by decide, by decide⟩ ?_
  refine x_putIG (kf := 0) tyX12 d_M_count_2 rfl rfl rfl in_M f_M_217 tyX12_ok nmX12 (by decide +kernel) rfl ?_
  refine x_iload_n d_M_count_5 rfl rfl ?_
  by_cases hr : w < 0 ∨ 12 < w
  · rw [if_neg (by omega : ¬ w = 0), if_neg (by omega : ¬ w = 1), if_neg (by omega : ¬ w = 2), if_neg (by omega : ¬ w = 3), if_neg (by omega : ¬ w = 4), if_neg (by omega : ¬ w = 5), if_neg (by omega : ¬ w = 6), if_neg (by omega : ¬ w = 7), if_neg (by omega : ¬ w = 8), if_neg (by omega : ¬ w = 9), if_neg (by omega : ¬ w = 10), if_neg (by omega : ¬ w = 11), if_neg (by omega : ¬ w = 12)] at hV
    refine x_tabOut (150) d_M_count_6 hr (by decide) ?_
    refine x_iconst (-1) d_M_count_150 rfl ⟨by decide, by decide⟩ ?_
    refine x_ireturn d_M_count_151 rfl ?_ (Nat.zero_le _) (Nat.zero_le _)
    rw [← hQ, ← hV]
    exact ⟨rfl, rfl⟩
  · by_cases q0 : w = 0
    · rw [if_pos q0] at hV
      refine x_tabIn (72) d_M_count_6 (by omega) (by omega) (off := 66) (by rw [q0]; rfl) (by decide) ?_
      refine x_aload_n d_M_count_72 rfl rfl ?_
      refine x_getIG (kf := 1) d_M_count_73 rfl rfl rfl in_M f_M_228 ?_
      rw [show up G o_M 0 0 o_M 1 = ((hs k).2 0 : Int) from (e0.1 0 (by decide)).1]
      refine x_ireturn d_M_count_76 rfl ?_ (Nat.zero_le _) (Nat.zero_le _)
      rw [← hQ, ← hV]
      exact ⟨rfl, rfl⟩
    by_cases q1 : w = 1
    · rw [if_neg q0, if_pos q1] at hV
      refine x_tabIn (77) d_M_count_6 (by omega) (by omega) (off := 71) (by rw [q1]; rfl) (by decide) ?_
      refine x_aload_n d_M_count_77 rfl rfl ?_
      refine x_getIG (kf := 2) d_M_count_78 rfl rfl rfl in_M f_M_250 ?_
      rw [show up G o_M 0 0 o_M 2 = ((hs k).2 1 : Int) from (e0.1 1 (by decide)).1]
      refine x_ireturn d_M_count_81 rfl ?_ (Nat.zero_le _) (Nat.zero_le _)
      rw [← hQ, ← hV]
      exact ⟨rfl, rfl⟩
    by_cases q2 : w = 2
    · rw [if_neg q0, if_neg q1, if_pos q2] at hV
      refine x_tabIn (82) d_M_count_6 (by omega) (by omega) (off := 76) (by rw [q2]; rfl) (by decide) ?_
      refine x_aload_n d_M_count_82 rfl rfl ?_
      refine x_getIG (kf := 3) d_M_count_83 rfl rfl rfl in_M f_M_253 ?_
      rw [show up G o_M 0 0 o_M 3 = ((hs k).2 2 : Int) from (e0.1 2 (by decide)).1]
      refine x_ireturn d_M_count_86 rfl ?_ (Nat.zero_le _) (Nat.zero_le _)
      rw [← hQ, ← hV]
      exact ⟨rfl, rfl⟩
    by_cases q3 : w = 3
    · rw [if_neg q0, if_neg q1, if_neg q2, if_pos q3] at hV
      refine x_tabIn (87) d_M_count_6 (by omega) (by omega) (off := 81) (by rw [q3]; rfl) (by decide) ?_
      refine x_aload_n d_M_count_87 rfl rfl ?_
      refine x_getIG (kf := 4) d_M_count_88 rfl rfl rfl in_M f_M_256 ?_
      rw [show up G o_M 0 0 o_M 4 = ((hs k).2 3 : Int) from (e0.1 3 (by decide)).1]
      refine x_ireturn d_M_count_91 rfl ?_ (Nat.zero_le _) (Nat.zero_le _)
      rw [← hQ, ← hV]
      exact ⟨rfl, rfl⟩
    by_cases q4 : w = 4
    · rw [if_neg q0, if_neg q1, if_neg q2, if_neg q3, if_pos q4] at hV
      refine x_tabIn (92) d_M_count_6 (by omega) (by omega) (off := 86) (by rw [q4]; rfl) (by decide) ?_
      refine x_aload_n d_M_count_92 rfl rfl ?_
      refine x_getIG (kf := 5) d_M_count_93 rfl rfl rfl in_M f_M_259 ?_
      rw [show up G o_M 0 0 o_M 5 = ((hs k).2 4 : Int) from (e0.1 4 (by decide)).1]
      refine x_ireturn d_M_count_96 rfl ?_ (Nat.zero_le _) (Nat.zero_le _)
      rw [← hQ, ← hV]
      exact ⟨rfl, rfl⟩
    by_cases q5 : w = 5
    · rw [if_neg q0, if_neg q1, if_neg q2, if_neg q3, if_neg q4, if_pos q5] at hV
      refine x_tabIn (97) d_M_count_6 (by omega) (by omega) (off := 91) (by rw [q5]; rfl) (by decide) ?_
      refine x_aload_n d_M_count_97 rfl rfl ?_
      refine x_getIG (kf := 6) d_M_count_98 rfl rfl rfl in_M f_M_262 ?_
      rw [show up G o_M 0 0 o_M 6 = ((hs k).2 5 : Int) from (e0.1 5 (by decide)).1]
      refine x_ireturn d_M_count_101 rfl ?_ (Nat.zero_le _) (Nat.zero_le _)
      rw [← hQ, ← hV]
      exact ⟨rfl, rfl⟩
    by_cases q6 : w = 6
    · rw [if_neg q0, if_neg q1, if_neg q2, if_neg q3, if_neg q4, if_neg q5, if_pos q6] at hV
      refine x_tabIn (102) d_M_count_6 (by omega) (by omega) (off := 96) (by rw [q6]; rfl) (by decide) ?_
      refine x_aload_n d_M_count_102 rfl rfl ?_
      refine x_V1 d_M_count_103 e_M_count_M_people ⟨rfl, rfl, Nat.zero_le _, Nat.zero_le _⟩ rfl rfl rfl rfl (Nat.le_of_ble_eq_true rfl) (s_people hh r) ?_
      refine x_ireturn d_M_count_106 rfl ?_ (Nat.zero_le _) (Nat.zero_le _)
      rw [← hQ, ← hV]
      exact ⟨rfl, rfl⟩
    by_cases q7 : w = 7
    · rw [if_neg q0, if_neg q1, if_neg q2, if_neg q3, if_neg q4, if_neg q5, if_neg q6, if_pos q7] at hV
      refine x_tabIn (107) d_M_count_6 (by omega) (by omega) (off := 101) (by rw [q7]; rfl) (by decide) ?_
      refine x_aload_n d_M_count_107 rfl rfl ?_
      refine x_getIG (kf := 7) d_M_count_108 rfl rfl rfl in_M f_M_269 ?_
      rw [show up G o_M 0 0 o_M 7 = ((hs k).2 6 : Int) from (e0.1 6 (by decide)).1]
      refine x_ireturn d_M_count_111 rfl ?_ (Nat.zero_le _) (Nat.zero_le _)
      rw [← hQ, ← hV]
      exact ⟨rfl, rfl⟩
    by_cases q8 : w = 8
    · rw [if_neg q0, if_neg q1, if_neg q2, if_neg q3, if_neg q4, if_neg q5, if_neg q6, if_neg q7, if_pos q8] at hV
      refine x_tabIn (112) d_M_count_6 (by omega) (by omega) (off := 106) (by rw [q8]; rfl) (by decide) ?_
      obtain ⟨n, n1, n2⟩ := f_made_n (hs k) (d := (hs k).2 6) (by omega)
      have n64 : n < 64 := Nat.lt_of_lt_of_le n1 (Nat.pow_le_pow_right (by decide) (by omega : (hs k).2 6 ≤ 6))
      rw [n2, Int.toNat_natCast] at hV
      refine x_aload_n d_M_count_112 rfl rfl ?_
      refine x_V1 d_M_count_113 e_M_count_M_made ⟨rfl, rfl, Nat.zero_le _, Nat.zero_le _⟩ rfl rfl rfl rfl (Nat.le_of_ble_eq_true rfl) (s_made hh r) ?_
      rw [n2]
      refine x_S1 d_M_count_116 e_M_count_M_ones ⟨rfl, rfl, Nat.zero_le _, Nat.zero_le _⟩ rfl rfl (Nat.le_of_ble_eq_true rfl) (s_ones _ n64) ?_
      refine x_ireturn d_M_count_119 rfl ?_ (Nat.zero_le _) (Nat.zero_le _)
      rw [← hQ, ← hV]
      exact ⟨rfl, rfl⟩
    by_cases q9 : w = 9
    · rw [if_neg q0, if_neg q1, if_neg q2, if_neg q3, if_neg q4, if_neg q5, if_neg q6, if_neg q7, if_neg q8, if_pos q9] at hV
      refine x_tabIn (120) d_M_count_6 (by omega) (by omega) (off := 114) (by rw [q9]; rfl) (by decide) ?_
      refine x_aload_n d_M_count_120 rfl rfl ?_
      refine x_getIG (kf := 8) d_M_count_121 rfl rfl rfl in_M f_M_275 ?_
      rw [show up G o_M 0 0 o_M 8 = ((hs k).2 7 : Int) from (e0.1 7 (by decide)).1]
      refine x_ireturn d_M_count_124 rfl ?_ (Nat.zero_le _) (Nat.zero_le _)
      rw [← hQ, ← hV]
      exact ⟨rfl, rfl⟩
    by_cases q10 : w = 10
    · rw [if_neg q0, if_neg q1, if_neg q2, if_neg q3, if_neg q4, if_neg q5, if_neg q6, if_neg q7, if_neg q8, if_neg q9, if_pos q10] at hV
      refine x_tabIn (125) d_M_count_6 (by omega) (by omega) (off := 119) (by rw [q10]; rfl) (by decide) ?_
      refine x_aload_n d_M_count_125 rfl rfl ?_
      refine x_getIG (kf := 9) d_M_count_126 rfl rfl rfl in_M f_M_278 ?_
      rw [show up G o_M 0 0 o_M 9 = ((hs k).2 8 : Int) from (e0.1 8 (by decide)).1]
      refine x_ireturn d_M_count_129 rfl ?_ (Nat.zero_le _) (Nat.zero_le _)
      rw [← hQ, ← hV]
      exact ⟨rfl, rfl⟩
    by_cases q11 : w = 11
    · rw [if_neg q0, if_neg q1, if_neg q2, if_neg q3, if_neg q4, if_neg q5, if_neg q6, if_neg q7, if_neg q8, if_neg q9, if_neg q10, if_pos q11] at hV
      refine x_tabIn (130) d_M_count_6 (by omega) (by omega) (off := 124) (by rw [q11]; rfl) (by decide) ?_
      refine x_aload_n d_M_count_130 rfl rfl ?_
      refine x_getIG (kf := 50) d_M_count_131 rfl rfl rfl in_M f_M_231 ?_
      rw [show up G o_M 0 0 o_M 50 = (k : Int) from y.2.2.2.1]
      refine x_aload_n d_M_count_134 rfl rfl ?_
      refine x_getIG (kf := 52) d_M_count_135 rfl rfl rfl in_M f_M_241 ?_
      rw [show up G o_M 0 0 o_M 52 = (base : Int) from y.2.2.2.2.2]
      refine x_isubN d_M_count_138 (by omega) (by omega) ?_
      refine x_ireturn d_M_count_139 rfl ?_ (Nat.zero_le _) (Nat.zero_le _)
      rw [← hQ, ← hV]
      exact ⟨rfl, rfl⟩
    have q12 : w = 12 := by omega
    rw [if_neg q0, if_neg q1, if_neg q2, if_neg q3, if_neg q4, if_neg q5, if_neg q6, if_neg q7, if_neg q8, if_neg q9, if_neg q10, if_neg q11, if_pos q12] at hV
    refine x_tabIn (140) d_M_count_6 (by omega) (by omega) (off := 134) (by rw [q12]; rfl) (by decide) ?_
    refine x_aload_n d_M_count_140 rfl rfl ?_
    refine x_getIG (kf := 51) d_M_count_141 rfl rfl rfl in_M f_M_238 ?_
    rw [show up G o_M 0 0 o_M 51 = (logged : Int) from y.2.2.2.2.1]
    refine x_aload_n d_M_count_144 rfl rfl ?_
    refine x_getIG (kf := 50) d_M_count_145 rfl rfl rfl in_M f_M_231 ?_
    rw [show up G o_M 0 0 o_M 50 = (k : Int) from y.2.2.2.1]
    refine x_isubN d_M_count_148 (by omega) (by omega) ?_
    refine x_ireturn d_M_count_149 rfl ?_ (Nat.zero_le _) (Nat.zero_le _)
    rw [← hQ, ← hV]
    exact ⟨rfl, rfl⟩
end MCt
