/-! the reference: worthOf -/
def f_wg (h : HH) (S : Nat → Bool) (by' : Nat) (g : Nat) : Int := if h.1 5 g 2 ≤ by' ∧ S (16 * (h.1 5 g 2).toNat + (h.1 5 g 0).toNat) = false then h.1 5 g 1 else 0
def f_wp (h : HH) (S : Nat → Bool) (sh : Nat → Nat → Bool) (by' m p : Nat) : Int := if S (16 * m + 8 + p) = true then f_lv h S by' p m else if S (16 * m + p) = true ∧ sh m p = false then h.1 0 p 0 else 0
def f_wv (h : HH) (S : Nat → Bool) (sh : Nat → Nat → Bool) (by' : Nat) : Int := su (f_wg h S by') (h.2 5) + su (fun m => su (f_wp h S sh by' m) (h.2 0)) (by' + 1)
/-- a side that lets go of what may not be let go -/
def f_bad (h : HH) (S : Nat → Bool) (by' m p : Nat) : Prop := m < by' ∧ S (16 * m + 8 + p) = true ∧ S (16 * (m + 1) + p) = false
def mWorth (h : HH) (S : Nat → Bool) (sh : Nat → Nat → Bool) (by' : Nat) (G : Nat → Nat → Int) : Option XV → XM → Prop := fun v τ => τ = (S0, G) ∧ ∃ V, v = some (xI V) ∧ (((∃ m p, p < h.2 0 ∧ f_bad h S by' m p) ∧ V = -1) ∨ ((∀ m p, p < h.2 0 → ¬ f_bad h S by' m p) ∧ V = f_wv h S sh by'))
theorem f_wp_bd {h : HH} (hh : Hwf h) {S : Nat → Bool} {sh : Nat → Nat → Bool} {by' m p : Nat} (hp : p < h.2 0) : 0 ≤ f_wp h S sh by' m p ∧ f_wp h S sh by' m p ≤ 1000 := by
  have := hh.2.1 p hp
  have := f_lv_bd hh (S := S) (by' := by') (m := m) hp
  unfold f_wp
  split
  · omega
  · split <;> omega
theorem f_wg_bd {h : HH} (hh : Hwf h) {S : Nat → Bool} {by' g : Nat} (hg : g < h.2 5) : 0 ≤ f_wg h S by' g ∧ f_wg h S by' g ≤ 60 := by
  have := hh.2.2.2.2.2.2.1 g hg
  unfold f_wg
  split <;> omega
theorem b2i_1 {b : Bool} (h : b2i b ≠ 0) : b = true := by
  cases b with
  | true => rfl
  | false => exact absurd rfl h
theorem b2i_0 {b : Bool} (h : b2i b = 0) : b = false := by
  cases b with
  | false => rfl
  | true => exact absurd h (by decide)
theorem s_worthOf {h : HH} {G : Nat → Nat → Int} (hh : Hwf h) (r : mRep h G) (by' : Nat) (hb : by' ≤ 20) : x_M y_M_worthOf [oM, xI (by' : Int)] (S0, G) (fun r τ => ∃ v, r = .inl v ∧ mWorth h (f_in G) (fun m p => decide (h.1 9 0 0 < G m_mixed (8 * m + p))) by' G v τ) := by
  have b := hh.1
  have e0 := r.1
  refine x_of 4 rfl (Nat.le_of_ble_eq_true rfl) ?_
  show x_A y_M_worthOf 0 [some oM, some (xI (by' : Int)), none, none, none, none] [] (S0, G) 0 0 _
  generalize hsh : (fun m p => decide (h.1 9 0 0 < G m_mixed (8 * m + p))) = sh
  generalize hQ : (fun (r : XRes) (τ : XM) => ∃ v, r = .inl v ∧ mWorth h (f_in G) sh by' G v τ) = Q
  have gb := su_bd (f := f_wg h (f_in G) by') (c := 0) (d := 60) (n := h.2 5) (fun g hg => f_wg_bd hh hg)
  have pb : ∀ m n, n ≤ h.2 0 → 0 ≤ su (f_wp h (f_in G) sh by' m) n ∧ su (f_wp h (f_in G) sh by' m) n ≤ 8000 := fun m n hn => by
    have := su_bd (f := f_wp h (f_in G) sh by' m) (c := 0) (d := 1000) (n := n) (fun p hp => f_wp_bd hh (by omega))
    omega
  have mb : ∀ n, n ≤ 21 → 0 ≤ su (fun m => su (f_wp h (f_in G) sh by' m) (h.2 0)) n ∧ su (fun m => su (f_wp h (f_in G) sh by' m) (h.2 0)) n ≤ 168000 := fun n hn => by
    have := su_bd (f := fun m => su (f_wp h (f_in G) sh by' m) (h.2 0)) (c := 0) (d := 8000) (n := n) (fun m _ => pb m _ (Nat.le_refl _))
    omega
  -- the minutes
  have minutes : x_A y_M_worthOf 59 [some oM, some (xI (by' : Int)), some (xI (su (f_wg h (f_in G) by') (h.2 5))), none, none, none] [] (S0, G) 0 0 Q := by
    refine x_iconst (0) d_M_worthOf_59 rfl ⟨by decide, by decide⟩ ?_
    refine x_istore_n d_M_worthOf_60 rfl (by decide) ?_
    dsimp only [x_st1, x_st2, x_kill, List.set, List.getElem?_cons_zero, List.getElem?_cons_succ]
    have all : (∀ m p, m < 0 → p < h.2 0 → ¬ f_bad h (f_in G) by' m p) → x_A y_M_worthOf 61 [some oM, some (xI (by' : Int)), some (xI (su (f_wg h (f_in G) by') (h.2 5) + su (fun m => su (f_wp h (f_in G) sh by' m) (h.2 0)) 0)), some (xI ((0 : Nat) : Int)), none, none] [] (S0, G) 0 0 Q := by
      refine x_up_to (P := fun n => (∀ m p, m < n → p < h.2 0 → ¬ f_bad h (f_in G) by' m p) → x_A y_M_worthOf 61 [some oM, some (xI (by' : Int)), some (xI (su (f_wg h (f_in G) by') (h.2 5) + su (fun m => su (f_wp h (f_in G) sh by' m) (h.2 0)) n)), some (xI (n : Int)), none, none] [] (S0, G) 0 0 Q) 0 (by' + 1) (Nat.zero_le _) ?_ (fun m _ hm k => ?_)
      · intro hg
        refine x_iload_n d_M_worthOf_61 rfl rfl ?_
        refine x_iload_n d_M_worthOf_62 rfl rfl ?_
        refine x_icmp_gt (162) d_M_worthOf_63 (by decide) (fun c => ?_) (fun c => ?_)
        · refine x_iload_n d_M_worthOf_162 rfl rfl ?_
          refine x_ireturn d_M_worthOf_163 rfl ?_ (Nat.zero_le _) (Nat.zero_le _)
          rw [← hQ]
          exact ⟨_, rfl, rfl, _, rfl, Or.inr ⟨fun m p hp z => hg m p (by have := z.1; omega) hp z, rfl⟩⟩
        · omega
      · intro hg
        have m1 := mb m (by omega)
        refine x_iload_n d_M_worthOf_61 rfl rfl ?_
        refine x_iload_n d_M_worthOf_62 rfl rfl ?_
        refine x_icmp_gt (162) d_M_worthOf_63 (by decide) (fun c => ?_) (fun c => ?_)
        · omega
        · refine x_iconst (0) d_M_worthOf_66 rfl ⟨by decide, by decide⟩ ?_
          refine x_istore d_M_worthOf_67 (by decide) ?_
          dsimp only [x_st1, x_st2, x_kill, List.set, List.getElem?_cons_zero, List.getElem?_cons_succ]
          have e6 : su (fun m => su (f_wp h (f_in G) sh by' m) (h.2 0)) (m + 1) = su (fun m => su (f_wp h (f_in G) sh by' m) (h.2 0)) m + su (f_wp h (f_in G) sh by' m) (h.2 0) := rfl
          generalize hA : su (f_wg h (f_in G) by') (h.2 5) + su (fun m => su (f_wp h (f_in G) sh by' m) (h.2 0)) m = A at *
          have inner : (∀ p, p < 0 → ¬ f_bad h (f_in G) by' m p) → x_A y_M_worthOf 69 [some oM, some (xI (by' : Int)), some (xI (A + su (f_wp h (f_in G) sh by' m) 0)), some (xI (m : Int)), some (xI ((0 : Nat) : Int)), none] [] (S0, G) 0 0 Q := by
            refine x_up_to (P := fun p => (∀ z, z < p → ¬ f_bad h (f_in G) by' m z) → x_A y_M_worthOf 69 [some oM, some (xI (by' : Int)), some (xI (A + su (f_wp h (f_in G) sh by' m) p)), some (xI (m : Int)), some (xI (p : Int)), none] [] (S0, G) 0 0 Q) 0 (h.2 0) (Nat.zero_le _) ?_ (fun p _ hp k2 => ?_)
            · intro hz
              refine x_iload d_M_worthOf_69 rfl ?_
              refine x_aload_n d_M_worthOf_71 rfl rfl ?_
              refine x_getIG (kf := 1) d_M_worthOf_72 rfl rfl rfl in_M f_M_228 ?_
              refine x_icmp_ge (156) d_M_worthOf_75 (by decide) (fun c2 => ?_) (fun c2 => ?_)
              · refine x_iincN d_M_worthOf_156 rfl (by decide) (by omega) (by omega) ?_
                dsimp only [x_st1, x_st2, x_kill, List.set, List.getElem?_cons_zero, List.getElem?_cons_succ]
                refine x_goto (61) d_M_worthOf_159 (by decide) ?_
                have k := k (fun m' p' q1 q2 => by
                  rcases Nat.lt_succ_iff_lt_or_eq.1 q1 with z | z
                  · exact hg m' p' z q2
                  · subst z; exact hz p' q2)
                rw [e6, ← Int.add_assoc, hA] at k
                exact x_sub (fun j v hj => by
                  match j, hj with
                  | 0, hj => exact hj
                  | 1, hj => exact hj
                  | 2, hj => exact hj
                  | 3, hj => exact hj
                  | 4, hj => cases hj
                  | 5, hj => exact hj
                  | j + 6, hj => cases hj) k
              · omega
            · intro hz
              have p1 := pb m p (by omega)
              have e7 : su (f_wp h (f_in G) sh by' m) (p + 1) = su (f_wp h (f_in G) sh by' m) p + f_wp h (f_in G) sh by' m p := rfl
              have lb := f_lv_bd hh (S := f_in G) (by' := by') (m := m) hp
              have rb := hh.2.1 p hp
              have er := (r.2.1 p hp).1
              have next : ∀ t : Int, f_wp h (f_in G) sh by' m p = t → ¬ f_bad h (f_in G) by' m p → x_A y_M_worthOf 150 [some oM, some (xI (by' : Int)), some (xI (A + su (f_wp h (f_in G) sh by' m) p + t)), some (xI (m : Int)), some (xI (p : Int)), none] [] (S0, G) 0 0 Q := by
                intro t t1 t2
                have k2 := k2 (fun z q => by
                  rcases Nat.lt_succ_iff_lt_or_eq.1 q with w | w
                  · exact hz z w
                  · subst w; exact t2)
                rw [e7, t1, ← Int.add_assoc] at k2
                refine x_iincN d_M_worthOf_150 rfl (by decide) (by omega) (by omega) ?_
                dsimp only [x_st1, x_st2, x_kill, List.set, List.getElem?_cons_zero, List.getElem?_cons_succ]
                refine x_goto (69) d_M_worthOf_153 (by decide) ?_
                exact k2
              refine x_iload d_M_worthOf_69 rfl ?_
              refine x_aload_n d_M_worthOf_71 rfl rfl ?_
              refine x_getIG (kf := 1) d_M_worthOf_72 rfl rfl rfl in_M f_M_228 ?_
              refine x_icmp_ge (156) d_M_worthOf_75 (by decide) (fun c2 => ?_) (fun c2 => ?_)
              · omega
              · refine x_aload_n d_M_worthOf_78 rfl rfl ?_
                refine x_iload d_M_worthOf_79 rfl ?_
                refine x_iload_n d_M_worthOf_81 rfl rfl ?_
                refine x_S1 d_M_worthOf_82 e_M_worthOf_M_being ⟨rfl, rfl, Nat.zero_le _, Nat.zero_le _⟩ rfl rfl (Nat.le_of_ble_eq_true rfl) (s_being _ p m (by omega) (by omega)) ?_
                refine x_V1 d_M_worthOf_85 e_M_worthOf_M_isIn ⟨rfl, rfl, Nat.zero_le _, Nat.zero_le _⟩ rfl rfl rfl rfl (Nat.le_of_ble_eq_true rfl) (s_isIn G (n := 16 * m + 8 + p) (by omega)) ?_
                refine x_if_eq (117) d_M_worthOf_88 (by decide) (fun c3 => ?_) (fun c3 => ?_)
                · have c3 := b2i_0 c3
                  have nb : ¬ f_bad h (f_in G) by' m p := fun z => by have z := z.2.1; rw [c3] at z; exact absurd z (by decide)
                  have ew : f_wp h (f_in G) sh by' m p = if f_in G (16 * m + p) = true ∧ sh m p = false then h.1 0 p 0 else 0 := by
                    unfold f_wp
                    rw [if_neg (by rw [c3]; decide)]
                  refine x_aload_n d_M_worthOf_117 rfl rfl ?_
                  refine x_iload d_M_worthOf_118 rfl ?_
                  refine x_iload_n d_M_worthOf_120 rfl rfl ?_
                  refine x_S1 d_M_worthOf_121 e_M_worthOf_M_begin ⟨rfl, rfl, Nat.zero_le _, Nat.zero_le _⟩ rfl rfl (Nat.le_of_ble_eq_true rfl) (s_begin _ p m (by omega) (by omega)) ?_
                  refine x_V1 d_M_worthOf_124 e_M_worthOf_M_isIn ⟨rfl, rfl, Nat.zero_le _, Nat.zero_le _⟩ rfl rfl rfl rfl (Nat.le_of_ble_eq_true rfl) (s_isIn G (n := 16 * m + p) (by omega)) ?_
                  refine x_if_eq (150) d_M_worthOf_127 (by decide) (fun c4 => ?_) (fun c4 => ?_)
                  · have c4 := b2i_0 c4
                    have n0 := next 0 (by rw [ew, if_neg (fun z => by rw [c4] at z; exact absurd z.1 (by decide))]) nb
                    rw [Int.add_zero] at n0
                    exact n0
                  · have c4 := b2i_1 c4
                    refine x_aload_n d_M_worthOf_130 rfl rfl ?_
                    refine x_iload d_M_worthOf_131 rfl ?_
                    refine x_iload_n d_M_worthOf_133 rfl rfl ?_
                    refine x_V1 d_M_worthOf_134 e_M_worthOf_M_isShut ⟨rfl, rfl, Nat.zero_le _, Nat.zero_le _⟩ rfl rfl rfl rfl (Nat.le_of_ble_eq_true rfl) (s_isShut r p m (by omega) (by omega)) ?_
                    have esh : sh m p = decide (h.1 9 0 0 < G m_mixed (8 * m + p)) := by rw [← hsh]
                    rw [← esh]
                    refine x_if_ne (150) d_M_worthOf_137 (by decide) (fun c5 => ?_) (fun c5 => ?_)
                    · have c5 := b2i_1 c5
                      have n0 := next 0 (by rw [ew, if_neg (fun z => by rw [c5] at z; exact absurd z.2 (by decide))]) nb
                      rw [Int.add_zero] at n0
                      exact n0
                    · have c5 := b2i_0 c5
                      refine x_iload_n d_M_worthOf_140 rfl rfl ?_
                      refine x_aload_n d_M_worthOf_141 rfl rfl ?_
                      refine x_getF (kf := 15) d_M_worthOf_142 rfl rfl rfl in_M f_M_22 ?_
                      refine x_iload d_M_worthOf_145 rfl ?_
                      refine x_ialdN (p) d_M_worthOf_147 rfl (by omega) (by omega) ?_
                      rw [er]
                      refine x_iaddN d_M_worthOf_148 (by omega) (by omega) ?_
                      refine x_istore_n d_M_worthOf_149 rfl (by decide) ?_
                      dsimp only [x_st1, x_st2, x_kill, List.set, List.getElem?_cons_zero, List.getElem?_cons_succ]
                      exact next _ (by rw [ew, if_pos ⟨c4, c5⟩]) nb
                · have c3 := b2i_1 c3
                  have ew : f_wp h (f_in G) sh by' m p = f_lv h (f_in G) by' p m := by
                    unfold f_wp
                    rw [if_pos c3]
                  refine x_aload_n d_M_worthOf_91 rfl rfl ?_
                  refine x_iload d_M_worthOf_92 rfl ?_
                  refine x_iload_n d_M_worthOf_94 rfl rfl ?_
                  refine x_iload_n d_M_worthOf_95 rfl rfl ?_
                  refine x_V1 d_M_worthOf_96 e_M_worthOf_M_leaves ⟨rfl, rfl, Nat.zero_le _, Nat.zero_le _⟩ rfl rfl rfl rfl (Nat.le_of_ble_eq_true rfl) (s_leaves hh r p m by' hp hb (by omega)) ?_
                  by_cases q : m < by' ∧ f_in G (16 * (m + 1) + p) = false
                  · rw [if_pos q]
                    refine x_istore d_M_worthOf_99 (by decide) ?_
                    dsimp only [x_st1, x_st2, x_kill, List.set, List.getElem?_cons_zero, List.getElem?_cons_succ]
                    refine x_iload d_M_worthOf_101 rfl ?_
                    refine x_iconst (-1) d_M_worthOf_103 rfl ⟨by decide, by decide⟩ ?_
                    refine x_icmp_ne (109) d_M_worthOf_104 (by decide) (fun c4 => ?_) (fun c4 => ?_)
                    · exact absurd rfl c4
                    · refine x_iconst (-1) d_M_worthOf_107 rfl ⟨by decide, by decide⟩ ?_
                      refine x_ireturn d_M_worthOf_108 rfl ?_ (Nat.zero_le _) (Nat.zero_le _)
                      rw [← hQ]
                      exact ⟨_, rfl, rfl, _, rfl, Or.inl ⟨⟨m, p, hp, q.1, c3, q.2⟩, rfl⟩⟩
                  · rw [if_neg q]
                    refine x_istore d_M_worthOf_99 (by decide) ?_
                    dsimp only [x_st1, x_st2, x_kill, List.set, List.getElem?_cons_zero, List.getElem?_cons_succ]
                    refine x_iload d_M_worthOf_101 rfl ?_
                    refine x_iconst (-1) d_M_worthOf_103 rfl ⟨by decide, by decide⟩ ?_
                    refine x_icmp_ne (109) d_M_worthOf_104 (by decide) (fun c4 => ?_) (fun c4 => ?_)
                    · refine x_iload_n d_M_worthOf_109 rfl rfl ?_
                      refine x_iload d_M_worthOf_110 rfl ?_
                      refine x_iaddN d_M_worthOf_112 (by omega) (by omega) ?_
                      refine x_istore_n d_M_worthOf_113 rfl (by decide) ?_
                      dsimp only [x_st1, x_st2, x_kill, List.set, List.getElem?_cons_zero, List.getElem?_cons_succ]
                      refine x_goto (150) d_M_worthOf_114 (by decide) ?_
                      exact x_sub (fun j v hj => by
                        match j, hj with
                        | 0, hj => exact hj
                        | 1, hj => exact hj
                        | 2, hj => exact hj
                        | 3, hj => exact hj
                        | 4, hj => exact hj
                        | 5, hj => cases hj
                        | j + 6, hj => cases hj) (next _ ew (fun z => q ⟨z.1, z.2.2⟩))
                    · omega
          have i0 := inner (fun p hp => absurd hp (Nat.not_lt_zero p))
          rw [show su (f_wp h (f_in G) sh by' m) 0 = 0 from rfl, Int.add_zero] at i0
          exact i0
    have a0 := all (fun m p hm => absurd hm (Nat.not_lt_zero m))
    rw [show su (fun m => su (f_wp h (f_in G) sh by' m) (h.2 0)) 0 = 0 from rfl, Int.add_zero] at a0
    exact a0
  refine x_iconst (0) d_M_worthOf_0 rfl ⟨by decide, by decide⟩ ?_
  refine x_istore_n d_M_worthOf_1 rfl (by decide) ?_
  dsimp only [x_st1, x_st2, x_kill, List.set, List.getElem?_cons_zero, List.getElem?_cons_succ]
  refine x_iconst (0) d_M_worthOf_2 rfl ⟨by decide, by decide⟩ ?_
  refine x_istore_n d_M_worthOf_3 rfl (by decide) ?_
  dsimp only [x_st1, x_st2, x_kill, List.set, List.getElem?_cons_zero, List.getElem?_cons_succ]
  refine x_up_to (P := fun i => x_A y_M_worthOf 4 [some oM, some (xI (by' : Int)), some (xI (su (f_wg h (f_in G) by') i)), some (xI (i : Int)), none, none] [] (S0, G) 0 0 Q) 0 (h.2 5) (Nat.zero_le _) ?_ (fun i _ hi k => ?_)
  · refine x_iload_n d_M_worthOf_4 rfl rfl ?_
    refine x_aload_n d_M_worthOf_5 rfl rfl ?_
    refine x_getIG (kf := 6) d_M_worthOf_6 rfl rfl rfl in_M f_M_262 ?_
    refine x_icmp_ge (59) d_M_worthOf_9 (by decide) (fun c => ?_) (fun c => ?_)
    · exact x_sub (fun j v hj => by
        match j, hj with
        | 0, hj => exact hj
        | 1, hj => exact hj
        | 2, hj => exact hj
        | 3, hj => cases hj
        | 4, hj => exact hj
        | 5, hj => exact hj
        | j + 6, hj => cases hj) minutes
    · omega
  · obtain ⟨e1, e2, e3⟩ := r.2.2.2.2.2.2.1 i hi
    have g := hh.2.2.2.2.2.2.1 i hi
    have g1 := su_bd (f := f_wg h (f_in G) by') (c := 0) (d := 60) (n := i) (fun g hg => f_wg_bd hh (by omega))
    have e7 : su (f_wg h (f_in G) by') (i + 1) = su (f_wg h (f_in G) by') i + f_wg h (f_in G) by' i := rfl
    have skip : f_wg h (f_in G) by' i = 0 → x_A y_M_worthOf 53 [some oM, some (xI (by' : Int)), some (xI (su (f_wg h (f_in G) by') i)), some (xI (i : Int)), none, none] [] (S0, G) 0 0 Q := by
      intro z
      rw [e7, z, Int.add_zero] at k
      refine x_iincN d_M_worthOf_53 rfl (by decide) (by omega) (by omega) ?_
      dsimp only [x_st1, x_st2, x_kill, List.set, List.getElem?_cons_zero, List.getElem?_cons_succ]
      refine x_goto (4) d_M_worthOf_56 (by decide) ?_
      exact k
    refine x_iload_n d_M_worthOf_4 rfl rfl ?_
    refine x_aload_n d_M_worthOf_5 rfl rfl ?_
    refine x_getIG (kf := 6) d_M_worthOf_6 rfl rfl rfl in_M f_M_262 ?_
    refine x_icmp_ge (59) d_M_worthOf_9 (by decide) (fun c => ?_) (fun c => ?_)
    · omega
    · refine x_aload_n d_M_worthOf_12 rfl rfl ?_
      refine x_getF (kf := 39) d_M_worthOf_13 rfl rfl rfl in_M f_M_95 ?_
      refine x_iload_n d_M_worthOf_16 rfl rfl ?_
      refine x_ialdN (i) d_M_worthOf_17 rfl (by omega) (by omega) ?_
      rw [e3]
      refine x_iload_n d_M_worthOf_18 rfl rfl ?_
      refine x_icmp_gt (53) d_M_worthOf_19 (by decide) (fun c1 => ?_) (fun c1 => ?_)
      · refine skip ?_
        unfold f_wg
        rw [if_neg (fun q => by omega)]
      · obtain ⟨x, hx⟩ : ∃ x : Nat, h.1 5 i 2 = x := ⟨(h.1 5 i 2).toNat, by omega⟩
        obtain ⟨o, ho⟩ : ∃ o : Nat, h.1 5 i 0 = o := ⟨(h.1 5 i 0).toNat, by omega⟩
        have hl : f_wg h (f_in G) by' i = if f_in G (16 * x + o) = false then h.1 5 i 1 else 0 := by
          unfold f_wg
          rw [hx, ho, Int.toNat_natCast, Int.toNat_natCast]
          simp only [show (x : Int) ≤ by' by omega, true_and]
        refine x_aload_n d_M_worthOf_22 rfl rfl ?_
        refine x_aload_n d_M_worthOf_23 rfl rfl ?_
        refine x_getF (kf := 37) d_M_worthOf_24 rfl rfl rfl in_M f_M_89 ?_
        refine x_iload_n d_M_worthOf_27 rfl rfl ?_
        refine x_ialdN (i) d_M_worthOf_28 rfl (by omega) (by omega) ?_
        rw [e1]
        refine x_aload_n d_M_worthOf_29 rfl rfl ?_
        refine x_getF (kf := 39) d_M_worthOf_30 rfl rfl rfl in_M f_M_95 ?_
        refine x_iload_n d_M_worthOf_33 rfl rfl ?_
        refine x_ialdN (i) d_M_worthOf_34 rfl (by omega) (by omega) ?_
        rw [e3, hx, ho]
        refine x_S1 d_M_worthOf_35 e_M_worthOf_M_begin ⟨rfl, rfl, Nat.zero_le _, Nat.zero_le _⟩ rfl rfl (Nat.le_of_ble_eq_true rfl) (s_begin _ o x (by omega) (by omega)) ?_
        refine x_V1 d_M_worthOf_38 e_M_worthOf_M_isIn ⟨rfl, rfl, Nat.zero_le _, Nat.zero_le _⟩ rfl rfl rfl rfl (Nat.le_of_ble_eq_true rfl) (s_isIn G (n := 16 * x + o) (by omega)) ?_
        refine x_if_ne (53) d_M_worthOf_41 (by decide) (fun c3 => ?_) (fun c3 => ?_)
        · have c3 := b2i_1 c3
          exact skip (by rw [hl, if_neg (fun q => by rw [c3] at q; exact absurd q (by decide))])
        · have c3 := b2i_0 c3
          refine x_iload_n d_M_worthOf_44 rfl rfl ?_
          refine x_aload_n d_M_worthOf_45 rfl rfl ?_
          refine x_getF (kf := 38) d_M_worthOf_46 rfl rfl rfl in_M f_M_92 ?_
          refine x_iload_n d_M_worthOf_49 rfl rfl ?_
          refine x_ialdN (i) d_M_worthOf_50 rfl (by omega) (by omega) ?_
          rw [e2]
          rw [e7, hl, if_pos c3] at k
          refine x_iaddN d_M_worthOf_51 (by omega) (by omega) ?_
          refine x_istore_n d_M_worthOf_52 rfl (by decide) ?_
          dsimp only [x_st1, x_st2, x_kill, List.set, List.getElem?_cons_zero, List.getElem?_cons_succ]
          refine x_iincN d_M_worthOf_53 rfl (by decide) (by omega) (by omega) ?_
          dsimp only [x_st1, x_st2, x_kill, List.set, List.getElem?_cons_zero, List.getElem?_cons_succ]
          refine x_goto (4) d_M_worthOf_56 (by decide) ?_
          exact k
