/-! the class: what a side is worth -/
def vP (h : HH) (S : Nat → Bool) (sh : Nat → Nat → Bool) (y m p : Nat) : Int := (if S (16 * m + p) = true ∧ S (16 * m + 8 + p) = false ∧ sh m p = false then h.1 0 p 0 else 0) + (if S (16 * m + 8 + p) = true ∧ m < y then f_wide h p (f_made h (h.2 6)) (h.2 6) else 0)
def vW (h : HH) (S : Nat → Bool) (y m w : Nat) : Int := if (m : Int) + h.1 1 w 2 * h.1 9 0 1 ≤ y then (if S (16 * m + 8 + (h.1 1 w 0).toNat) = true ∧ S (16 * ((m : Int) + h.1 1 w 2 * h.1 9 0 1).toNat + (h.1 1 w 1).toNat) = false then h.1 1 w 3 else 0) + (if S (16 * m + 8 + (h.1 1 w 1).toNat) = true ∧ S (16 * ((m : Int) + h.1 1 w 2 * h.1 9 0 1).toNat + (h.1 1 w 0).toNat) = false then h.1 1 w 3 else 0) else 0
theorem f_wp_v {h : HH} (S : Nat → Bool) (sh : Nat → Nat → Bool) (y m p : Nat) : f_wp h S sh y m p = vP h S sh y m p + (if S (16 * m + 8 + p) = true then su (f_lw h S y p m) (h.2 1) else 0) := by
  unfold f_wp vP f_lv
  by_cases c : S (16 * m + 8 + p) = true
  · rw [if_pos c, if_pos c, if_neg (show ¬ (S (16 * m + p) = true ∧ S (16 * m + 8 + p) = false ∧ sh m p = false) from fun z => by rw [c] at z; cases z.2.1)]
    by_cases q : m < y
    · rw [if_pos q, if_pos ⟨c, q⟩]; omega
    · rw [if_neg q, if_neg (fun z => q z.2)]; omega
  · have c' : S (16 * m + 8 + p) = false := by simpa using c
    rw [if_neg c, if_neg c, if_neg (show ¬ (S (16 * m + 8 + p) = true ∧ m < y) from fun z => c z.1)]
    by_cases q : S (16 * m + p) = true ∧ sh m p = false
    · rw [if_pos q, if_pos ⟨q.1, c', q.2⟩]; omega
    · rw [if_neg q, if_neg (fun z => q ⟨z.1, z.2.2⟩)]; omega
theorem f_lw_v {h : HH} (hh : Hwf h) (S : Nat → Bool) (y m : Nat) {w : Nat} (hw : w < h.2 1) : su (fun p => if S (16 * m + 8 + p) = true then f_lw h S y p m w else 0) (h.2 0) = vW h S y m w := by
  have b := hh.2.2.1 w hw
  obtain ⟨A, eA⟩ : ∃ A : Nat, h.1 1 w 0 = (A : Int) := ⟨(h.1 1 w 0).toNat, by omega⟩
  obtain ⟨B, eB⟩ : ∃ B : Nat, h.1 1 w 1 = (B : Int) := ⟨(h.1 1 w 1).toNat, by omega⟩
  have at1 : f_at h A w = true := by unfold f_at; rw [decide_eq_true eA]; rfl
  have at2 : f_at h B w = true := by unfold f_at; rw [decide_eq_true eB]; simp
  have o1 : f_oth h A w = B := by unfold f_oth; rw [if_pos eA, eB]
  have o2 : f_oth h B w = A := by unfold f_oth; rw [if_neg (by omega), eA]
  rw [su_two (A := A) (B := B) (by omega) (by omega) (by omega) (fun p hp h1 h2 => by
    have : f_at h p w = false := by unfold f_at; rw [decide_eq_false (by omega), decide_eq_false (by omega)]; rfl
    unfold f_lw
    rw [if_neg (show ¬ (f_at h p w = true ∧ _) from fun z => by rw [this] at z; cases z.1)]
    split <;> rfl)]
  unfold vW f_lw
  rw [at1, at2, o1, o2, eA, eB, Int.toNat_natCast, Int.toNat_natCast]
  by_cases c : (m : Int) + h.1 1 w 2 * h.1 9 0 1 ≤ y
  · rw [if_pos c]
    congr 1
    · by_cases q1 : S (16 * m + 8 + A) = true
      · by_cases q2 : S (16 * ((m : Int) + h.1 1 w 2 * h.1 9 0 1).toNat + B) = false
        · rw [if_pos q1, if_pos ⟨rfl, c, q2⟩, if_pos ⟨q1, q2⟩]
        · rw [if_pos q1, if_neg (fun z => q2 z.2.2), if_neg (fun z => q2 z.2)]
      · rw [if_neg q1, if_neg (fun z => q1 z.1)]
    · by_cases q1 : S (16 * m + 8 + B) = true
      · by_cases q2 : S (16 * ((m : Int) + h.1 1 w 2 * h.1 9 0 1).toNat + A) = false
        · rw [if_pos q1, if_pos ⟨rfl, c, q2⟩, if_pos ⟨q1, q2⟩]
        · rw [if_pos q1, if_neg (fun z => q2 z.2.2), if_neg (fun z => q2 z.2)]
      · rw [if_neg q1, if_neg (fun z => q1 z.1)]
  · simp [c]
theorem f_wv_v {h : HH} (hh : Hwf h) (S : Nat → Bool) (sh : Nat → Nat → Bool) (y : Nat) : su (fun m => su (vP h S sh y m) (h.2 0)) (y + 1) + su (f_wg h S y) (h.2 5) + su (fun w => su (fun m => vW h S y m w) (y + 1)) (h.2 1) = f_wv h S sh y := by
  unfold f_wv
  rw [su_swap (fun w m => vW h S y m w)]
  have e : ∀ m, m < y + 1 → su (f_wp h S sh y m) (h.2 0) = su (vP h S sh y m) (h.2 0) + su (fun w => vW h S y m w) (h.2 1) := by
    intro m hm
    rw [su_congr (fun p _ => f_wp_v S sh y m p), su_add]
    congr 1
    have e1 : (fun p => if S (16 * m + 8 + p) = true then su (f_lw h S y p m) (h.2 1) else 0) = fun p => su (fun w => if S (16 * m + 8 + p) = true then f_lw h S y p m w else 0) (h.2 1) := by
      funext p
      by_cases c : S (16 * m + 8 + p) = true
      · rw [if_pos c]; exact su_congr (fun w _ => (if_pos c).symm)
      · rw [if_neg c, su_congr (g := fun _ => 0) (fun w _ => if_neg c), su_zero]
    rw [e1, su_swap (fun p w => if S (16 * m + 8 + p) = true then f_lw h S y p m w else 0)]
    exact su_congr (fun w hw => f_lw_v hh S y m hw)
  rw [su_congr e, su_add]
  omega
section CWo
variable {h : HH} {G : Nat → Nat → Int}
/-- the side in a row of the class -/
def cS (G : Nat → Nat → Int) (x n : Nat) : Bool := xl (G ro_cells (30 * x + n / 16)) (n % 16)
theorem c_in {x m b y : Nat} (hx : x < 4) (hl : G ro_lengths x ≤ 30) (hy : (y : Int) < G ro_lengths x) (hm : m ≤ y) (hb : b < 16) : x_M y_Es_isIn [oRo, xI (x : Int), xI (m : Int), xI (b : Int)] (S0, G) (x_is (.inl (some (xI (b2i (cS G x (16 * m + b)))))) (S0, G)) := by
  unfold cS
  rw [show (16 * m + b) / 16 = m by omega, show (16 * m + b) % 16 = b by omega]
  exact c_isIn x m b hx (by omega) hl hb
theorem b2i_c {P : Bool → Prop} (b : Bool) (h1 : b = true → P true) (h0 : b = false → P false) : P b := by
  cases b
  · exact h0 rfl
  · exact h1 rfl
theorem c_worthOfGroups (hh : Hwf h) (r : fRep h G) (x y : Nat) (hx : x < 4) (hl : G ro_lengths x ≤ 30) (hy : (y : Int) < G ro_lengths x) : x_M y_Es_worthOfGroups [oEs, oRo, xI (x : Int), xI (y : Int)] (S0, G) (x_is (.inl (some (xI (su (f_wg h (cS G x) y) (h.2 5))))) (S0, G)) := by
  have b := hh.1
  refine x_of 3 rfl (Nat.le_of_ble_eq_true rfl) ?_
  show x_A y_Es_worthOfGroups 0 [some oEs, some oRo, some (xI (x : Int)), some (xI (y : Int)), none, none, none] [] (S0, G) 0 0 _
  generalize hQ : x_is (.inl (some (xI (su (f_wg h (cS G x) y) (h.2 5))))) (S0, G) = Q
  refine x_iconst (0) d_Es_worthOfGroups_0 rfl ⟨by decide, by decide⟩ ?_
  refine x_istore d_Es_worthOfGroups_1 (by decide) ?_
  dsimp only [x_st1, x_st2, x_kill, List.set, List.getElem?_cons_zero, List.getElem?_cons_succ]
  refine x_iconst (0) d_Es_worthOfGroups_3 rfl ⟨by decide, by decide⟩ ?_
  refine x_istore d_Es_worthOfGroups_4 (by decide) ?_
  dsimp only [x_st1, x_st2, x_kill, List.set, List.getElem?_cons_zero, List.getElem?_cons_succ]
  refine x_up_to (P := fun i => ∀ z, x_A y_Es_worthOfGroups 6 [some oEs, some oRo, some (xI (x : Int)), some (xI (y : Int)), some (xI (su (f_wg h (cS G x) y) i)), some (xI (i : Int)), z] [] (S0, G) 0 0 Q) 0 (h.2 5) (Nat.zero_le _) (fun z => ?_) (fun i _ hi k z => ?_) none
  · refine x_iload d_Es_worthOfGroups_6 rfl ?_
    refine x_aload_n d_Es_worthOfGroups_8 rfl rfl ?_
    refine x_getF (kf := 0) d_Es_worthOfGroups_9 rfl rfl rfl in_Es f_Es_18 ?_
    refine x_getF (kf := 5) d_Es_worthOfGroups_12 rfl rfl rfl in_Ho f_Es_107 ?_
    refine x_V1 d_Es_worthOfGroups_15 e_Es_worthOfGroups_Ta_size ⟨rfl, rfl, Nat.zero_le _, Nat.zero_le _⟩ rfl rfl rfl rfl (Nat.le_of_ble_eq_true rfl) (k_size r 5 (by decide)) ?_
    refine x_icmp_ge (89) d_Es_worthOfGroups_18 (by decide) (fun g => ?_) (fun g => ?_)
    · refine x_iload d_Es_worthOfGroups_89 rfl ?_
      refine x_ireturn d_Es_worthOfGroups_91 rfl ?_ (Nat.zero_le _) (Nat.zero_le _)
      rw [← hQ]
      exact ⟨rfl, rfl⟩
    · omega
  · have bg := hh.2.2.2.2.2.2.1 i hi
    obtain ⟨P, eP⟩ : ∃ P : Nat, h.1 5 i 0 = (P : Int) := ⟨(h.1 5 i 0).toNat, by omega⟩
    obtain ⟨T, eT⟩ : ∃ T : Nat, h.1 5 i 2 = (T : Int) := ⟨(h.1 5 i 2).toNat, by omega⟩
    have b1 := su_bd (f := f_wg h (cS G x) y) (c := 0) (d := 60) (n := i) (fun j hj => f_wg_bd hh (by omega))
    have e5 : su (f_wg h (cS G x) y) (i + 1) = su (f_wg h (cS G x) y) i + (if T ≤ y ∧ cS G x (16 * T + P) = false then h.1 5 i 1 else 0) := by
      show su _ i + f_wg h (cS G x) y i = _
      congr 1
      unfold f_wg
      rw [eT, eP, Int.toNat_natCast, Int.toNat_natCast]
      by_cases c : T ≤ y ∧ cS G x (16 * T + P) = false
      · rw [if_pos ⟨by omega, c.2⟩, if_pos c]
      · rw [if_neg (fun q => c ⟨by omega, q.2⟩), if_neg c]
    refine x_iload d_Es_worthOfGroups_6 rfl ?_
    refine x_aload_n d_Es_worthOfGroups_8 rfl rfl ?_
    refine x_getF (kf := 0) d_Es_worthOfGroups_9 rfl rfl rfl in_Es f_Es_18 ?_
    refine x_getF (kf := 5) d_Es_worthOfGroups_12 rfl rfl rfl in_Ho f_Es_107 ?_
    refine x_V1 d_Es_worthOfGroups_15 e_Es_worthOfGroups_Ta_size ⟨rfl, rfl, Nat.zero_le _, Nat.zero_le _⟩ rfl rfl rfl rfl (Nat.le_of_ble_eq_true rfl) (k_size r 5 (by decide)) ?_
    refine x_icmp_ge (89) d_Es_worthOfGroups_18 (by decide) (fun g => ?_) (fun g => ?_)
    · omega
    · refine x_aload_n d_Es_worthOfGroups_21 rfl rfl ?_
      refine x_getF (kf := 0) d_Es_worthOfGroups_22 rfl rfl rfl in_Es f_Es_18 ?_
      refine x_getF (kf := 5) d_Es_worthOfGroups_25 rfl rfl rfl in_Ho f_Es_107 ?_
      refine x_iload d_Es_worthOfGroups_28 rfl ?_
      refine x_iconst (2) d_Es_worthOfGroups_30 rfl ⟨by decide, by decide⟩ ?_
      refine x_V1 d_Es_worthOfGroups_31 e_Es_worthOfGroups_Ta_at ⟨rfl, rfl, Nat.zero_le _, Nat.zero_le _⟩ rfl rfl rfl rfl (Nat.le_of_ble_eq_true rfl) (k_at hh r 5 i 2 (by decide) hi (by decide) rfl rfl) ?_
      rw [eT]
      refine x_istore d_Es_worthOfGroups_34 (by decide) ?_
      dsimp only [x_st1, x_st2, x_kill, List.set, List.getElem?_cons_zero, List.getElem?_cons_succ]
      refine x_iload d_Es_worthOfGroups_36 rfl ?_
      refine x_iload_n d_Es_worthOfGroups_38 rfl rfl ?_
      refine x_icmp_gt (83) d_Es_worthOfGroups_39 (by decide) (fun g2 => ?_) (fun g2 => ?_)
      · rw [if_neg (by omega), Int.add_zero] at e5
        rw [e5] at k
        refine x_iincN d_Es_worthOfGroups_83 rfl (by decide) (by omega) (by omega) ?_
        dsimp only [x_st1, x_st2, x_kill, List.set, List.getElem?_cons_zero, List.getElem?_cons_succ]
        refine x_goto (6) d_Es_worthOfGroups_86 (by decide) ?_
        exact k _
      · refine x_aload_n d_Es_worthOfGroups_42 rfl rfl ?_
        refine x_iload_n d_Es_worthOfGroups_43 rfl rfl ?_
        refine x_iload d_Es_worthOfGroups_44 rfl ?_
        refine x_aload_n d_Es_worthOfGroups_46 rfl rfl ?_
        refine x_getF (kf := 0) d_Es_worthOfGroups_47 rfl rfl rfl in_Es f_Es_18 ?_
        refine x_getF (kf := 5) d_Es_worthOfGroups_50 rfl rfl rfl in_Ho f_Es_107 ?_
        refine x_iload d_Es_worthOfGroups_53 rfl ?_
        refine x_iconst (0) d_Es_worthOfGroups_55 rfl ⟨by decide, by decide⟩ ?_
        refine x_V1 d_Es_worthOfGroups_56 e_Es_worthOfGroups_Ta_at ⟨rfl, rfl, Nat.zero_le _, Nat.zero_le _⟩ rfl rfl rfl rfl (Nat.le_of_ble_eq_true rfl) (k_at hh r 5 i 0 (by decide) hi (by decide) rfl rfl) ?_
        rw [eP]
        refine x_S1 d_Es_worthOfGroups_59 e_Es_worthOfGroups_Es_isIn ⟨rfl, rfl, Nat.zero_le _, Nat.zero_le _⟩ rfl rfl (Nat.le_of_ble_eq_true rfl) (c_in (y := y) hx hl hy (by omega) (by omega)) ?_
        refine b2i_c (P := fun b => x_A y_Es_worthOfGroups _ _ [xI (b2i b)] (S0, G) 0 0 Q) _ (fun c => ?_) (fun c => ?_)
        · rw [if_neg (fun q => by rw [c] at q; cases q.2), Int.add_zero] at e5
          rw [e5] at k
          refine x_if_ne (83) d_Es_worthOfGroups_62 (by decide) (fun g3 => ?_) (fun g3 => ?_)
          · refine x_iincN d_Es_worthOfGroups_83 rfl (by decide) (by omega) (by omega) ?_
            dsimp only [x_st1, x_st2, x_kill, List.set, List.getElem?_cons_zero, List.getElem?_cons_succ]
            refine x_goto (6) d_Es_worthOfGroups_86 (by decide) ?_
            exact k _
          · cases g3
        · rw [if_pos ⟨by omega, c⟩] at e5
          refine x_if_ne (83) d_Es_worthOfGroups_62 (by decide) (fun g3 => ?_) (fun g3 => ?_)
          · exact absurd rfl g3
          · refine x_iload d_Es_worthOfGroups_65 rfl ?_
            refine x_aload_n d_Es_worthOfGroups_67 rfl rfl ?_
            refine x_getF (kf := 0) d_Es_worthOfGroups_68 rfl rfl rfl in_Es f_Es_18 ?_
            refine x_getF (kf := 5) d_Es_worthOfGroups_71 rfl rfl rfl in_Ho f_Es_107 ?_
            refine x_iload d_Es_worthOfGroups_74 rfl ?_
            refine x_iconst (1) d_Es_worthOfGroups_76 rfl ⟨by decide, by decide⟩ ?_
            refine x_V1 d_Es_worthOfGroups_77 e_Es_worthOfGroups_Ta_at ⟨rfl, rfl, Nat.zero_le _, Nat.zero_le _⟩ rfl rfl rfl rfl (Nat.le_of_ble_eq_true rfl) (k_at hh r 5 i 1 (by decide) hi (by decide) rfl rfl) ?_
            refine x_iaddN d_Es_worthOfGroups_80 (by omega) (by omega) ?_
            refine x_istore d_Es_worthOfGroups_81 (by decide) ?_
            dsimp only [x_st1, x_st2, x_kill, List.set, List.getElem?_cons_zero, List.getElem?_cons_succ]
            refine x_iincN d_Es_worthOfGroups_83 rfl (by decide) (by omega) (by omega) ?_
            dsimp only [x_st1, x_st2, x_kill, List.set, List.getElem?_cons_zero, List.getElem?_cons_succ]
            refine x_goto (6) d_Es_worthOfGroups_86 (by decide) ?_
            rw [e5] at k
            exact k _
theorem vW_bd (hh : Hwf h) (S : Nat → Bool) (y m : Nat) {w : Nat} (hw : w < h.2 1) : 0 ≤ vW h S y m w ∧ vW h S y m w ≤ 80 := by
  have b := hh.2.2.1 w hw
  unfold vW
  split
  · split <;> split <;> omega
  · omega
theorem c_worthOfWays (hh : Hwf h) (r : fRep h G) (x y : Nat) (hx : x < 4) (hl : G ro_lengths x ≤ 30) (hy : (y : Int) < G ro_lengths x) (hy2 : y ≤ 20) : x_M y_Es_worthOfWays [oEs, oRo, xI (x : Int), xI (y : Int)] (S0, G) (x_is (.inl (some (xI (su (fun w => su (fun m => vW h (cS G x) y m w) (y + 1)) (h.2 1))))) (S0, G)) := by
  have b := hh.1
  obtain ⟨wt, ew, hw1, hw2⟩ := f_wt hh
  refine x_of 7 rfl (Nat.le_of_ble_eq_true rfl) ?_
  show x_A y_Es_worthOfWays 0 [some oEs, some oRo, some (xI (x : Int)), some (xI (y : Int)), none, none, none, none, none, none, none] [] (S0, G) 0 0 _
  generalize hQ : x_is (.inl (some (xI (su (fun w => su (fun m => vW h (cS G x) y m w) (y + 1)) (h.2 1))))) (S0, G) = Q
  refine x_iconst (0) d_Es_worthOfWays_0 rfl ⟨by decide, by decide⟩ ?_
  refine x_istore d_Es_worthOfWays_1 (by decide) ?_
  dsimp only [x_st1, x_st2, x_kill, List.set, List.getElem?_cons_zero, List.getElem?_cons_succ]
  refine x_iconst (0) d_Es_worthOfWays_3 rfl ⟨by decide, by decide⟩ ?_
  refine x_istore d_Es_worthOfWays_4 (by decide) ?_
  dsimp only [x_st1, x_st2, x_kill, List.set, List.getElem?_cons_zero, List.getElem?_cons_succ]
  refine x_up_to (P := fun w => ∀ z6 z7 z8 z9 z10, x_A y_Es_worthOfWays 6 [some oEs, some oRo, some (xI (x : Int)), some (xI (y : Int)), some (xI (su (fun w => su (fun m => vW h (cS G x) y m w) (y + 1)) w)), some (xI (w : Int)), z6, z7, z8, z9, z10] [] (S0, G) 0 0 Q) 0 (h.2 1) (Nat.zero_le _) (fun z6 z7 z8 z9 z10 => ?_) (fun w _ hw k z6 z7 z8 z9 z10 => ?_) none none none none none
  · refine x_iload d_Es_worthOfWays_6 rfl ?_
    refine x_aload_n d_Es_worthOfWays_8 rfl rfl ?_
    refine x_getF (kf := 0) d_Es_worthOfWays_9 rfl rfl rfl in_Es f_Es_18 ?_
    refine x_getF (kf := 1) d_Es_worthOfWays_12 rfl rfl rfl in_Ho f_Es_110 ?_
    refine x_V1 d_Es_worthOfWays_15 e_Es_worthOfWays_Ta_size ⟨rfl, rfl, Nat.zero_le _, Nat.zero_le _⟩ rfl rfl rfl rfl (Nat.le_of_ble_eq_true rfl) (k_size r 1 (by decide)) ?_
    refine x_icmp_ge (187) d_Es_worthOfWays_18 (by decide) (fun g => ?_) (fun g => ?_)
    · refine x_iload d_Es_worthOfWays_187 rfl ?_
      refine x_ireturn d_Es_worthOfWays_189 rfl ?_ (Nat.zero_le _) (Nat.zero_le _)
      rw [← hQ]
      exact ⟨rfl, rfl⟩
    · omega
  · have bw := hh.2.2.1 w hw
    obtain ⟨A, eA⟩ : ∃ A : Nat, h.1 1 w 0 = (A : Int) := ⟨(h.1 1 w 0).toNat, by omega⟩
    obtain ⟨B, eB⟩ : ∃ B : Nat, h.1 1 w 1 = (B : Int) := ⟨(h.1 1 w 1).toNat, by omega⟩
    obtain ⟨T, eT⟩ : ∃ T : Nat, h.1 1 w 2 * (wt : Int) = (T : Int) := ⟨(h.1 1 w 2 * wt).toNat, by have : 0 ≤ h.1 1 w 2 * (wt : Int) := Int.mul_nonneg (by omega) (by omega); omega⟩
    have bT : 1 ≤ T ∧ T ≤ 12 := by
      have h1 : h.1 1 w 2 * (wt : Int) ≤ 4 * 3 := Int.mul_le_mul (by omega) (by omega) (by omega) (by omega)
      have h2 : 1 * 1 ≤ h.1 1 w 2 * (wt : Int) := Int.mul_le_mul (by omega) (by omega) (by omega) (by omega)
      omega
    have eW : ∀ m : Nat, vW h (cS G x) y m w = if m + T ≤ y then (if cS G x (16 * m + 8 + A) = true ∧ cS G x (16 * (m + T) + B) = false then h.1 1 w 3 else 0) + (if cS G x (16 * m + 8 + B) = true ∧ cS G x (16 * (m + T) + A) = false then h.1 1 w 3 else 0) else 0 := fun m => by
      unfold vW
      rw [ew, eT, eA, eB, Int.toNat_natCast, Int.toNat_natCast, show ((m : Int) + T).toNat = m + T by omega]
      by_cases c : m + T ≤ y
      · rw [if_pos (by omega), if_pos c]
      · rw [if_neg (by omega), if_neg c]
    have b1 := su_bd (f := fun w => su (fun m => vW h (cS G x) y m w) (y + 1)) (c := 0) (d := 1680) (n := w) (fun j hj => by
      have := su_bd (f := fun m => vW h (cS G x) y m j) (c := 0) (d := 80) (n := y + 1) (fun m _ => vW_bd hh (cS G x) y m (by omega))
      omega)
    have sfin : ∀ m, m ≤ y + 1 → ¬ m + T ≤ y → su (fun m => vW h (cS G x) y m w) (y + 1) = su (fun m => vW h (cS G x) y m w) m := fun m hm hn => su_ext hm (fun i h1 h2 => by rw [eW, if_neg (by omega)])
    refine x_iload d_Es_worthOfWays_6 rfl ?_
    refine x_aload_n d_Es_worthOfWays_8 rfl rfl ?_
    refine x_getF (kf := 0) d_Es_worthOfWays_9 rfl rfl rfl in_Es f_Es_18 ?_
    refine x_getF (kf := 1) d_Es_worthOfWays_12 rfl rfl rfl in_Ho f_Es_110 ?_
    refine x_V1 d_Es_worthOfWays_15 e_Es_worthOfWays_Ta_size ⟨rfl, rfl, Nat.zero_le _, Nat.zero_le _⟩ rfl rfl rfl rfl (Nat.le_of_ble_eq_true rfl) (k_size r 1 (by decide)) ?_
    refine x_icmp_ge (187) d_Es_worthOfWays_18 (by decide) (fun g => ?_) (fun g => ?_)
    · omega
    · refine x_aload_n d_Es_worthOfWays_21 rfl rfl ?_
      refine x_getF (kf := 0) d_Es_worthOfWays_22 rfl rfl rfl in_Es f_Es_18 ?_
      refine x_getF (kf := 1) d_Es_worthOfWays_25 rfl rfl rfl in_Ho f_Es_110 ?_
      refine x_iload d_Es_worthOfWays_28 rfl ?_
      refine x_iconst (0) d_Es_worthOfWays_30 rfl ⟨by decide, by decide⟩ ?_
      refine x_V1 d_Es_worthOfWays_31 e_Es_worthOfWays_Ta_at ⟨rfl, rfl, Nat.zero_le _, Nat.zero_le _⟩ rfl rfl rfl rfl (Nat.le_of_ble_eq_true rfl) (k_at hh r 1 w 0 (by decide) hw (by decide) rfl rfl) ?_
      rw [eA]
      refine x_istore d_Es_worthOfWays_34 (by decide) ?_
      dsimp only [x_st1, x_st2, x_kill, List.set, List.getElem?_cons_zero, List.getElem?_cons_succ]
      refine x_aload_n d_Es_worthOfWays_36 rfl rfl ?_
      refine x_getF (kf := 0) d_Es_worthOfWays_37 rfl rfl rfl in_Es f_Es_18 ?_
      refine x_getF (kf := 1) d_Es_worthOfWays_40 rfl rfl rfl in_Ho f_Es_110 ?_
      refine x_iload d_Es_worthOfWays_43 rfl ?_
      refine x_iconst (1) d_Es_worthOfWays_45 rfl ⟨by decide, by decide⟩ ?_
      refine x_V1 d_Es_worthOfWays_46 e_Es_worthOfWays_Ta_at ⟨rfl, rfl, Nat.zero_le _, Nat.zero_le _⟩ rfl rfl rfl rfl (Nat.le_of_ble_eq_true rfl) (k_at hh r 1 w 1 (by decide) hw (by decide) rfl rfl) ?_
      rw [eB]
      refine x_istore d_Es_worthOfWays_49 (by decide) ?_
      dsimp only [x_st1, x_st2, x_kill, List.set, List.getElem?_cons_zero, List.getElem?_cons_succ]
      refine x_aload_n d_Es_worthOfWays_51 rfl rfl ?_
      refine x_getF (kf := 0) d_Es_worthOfWays_52 rfl rfl rfl in_Es f_Es_18 ?_
      refine x_getF (kf := 1) d_Es_worthOfWays_55 rfl rfl rfl in_Ho f_Es_110 ?_
      refine x_iload d_Es_worthOfWays_58 rfl ?_
      refine x_iconst (2) d_Es_worthOfWays_60 rfl ⟨by decide, by decide⟩ ?_
      refine x_V1 d_Es_worthOfWays_61 e_Es_worthOfWays_Ta_at ⟨rfl, rfl, Nat.zero_le _, Nat.zero_le _⟩ rfl rfl rfl rfl (Nat.le_of_ble_eq_true rfl) (k_at hh r 1 w 2 (by decide) hw (by decide) rfl rfl) ?_
      refine x_aload_n d_Es_worthOfWays_64 rfl rfl ?_
      refine x_getF (kf := 0) d_Es_worthOfWays_65 rfl rfl rfl in_Es f_Es_18 ?_
      refine x_V1 d_Es_worthOfWays_68 e_Es_worthOfWays_Ho_walkTimes ⟨rfl, rfl, Nat.zero_le _, Nat.zero_le _⟩ rfl rfl rfl rfl (Nat.le_of_ble_eq_true rfl) (c_walkTimes hh r) ?_
      rw [ew]
      refine x_imulN d_Es_worthOfWays_71 (by omega) (by omega) ?_
      rw [eT]
      refine x_istore d_Es_worthOfWays_72 (by decide) ?_
      dsimp only [x_st1, x_st2, x_kill, List.set, List.getElem?_cons_zero, List.getElem?_cons_succ]
      refine x_aload_n d_Es_worthOfWays_74 rfl rfl ?_
      refine x_getF (kf := 0) d_Es_worthOfWays_75 rfl rfl rfl in_Es f_Es_18 ?_
      refine x_getF (kf := 1) d_Es_worthOfWays_78 rfl rfl rfl in_Ho f_Es_110 ?_
      refine x_iload d_Es_worthOfWays_81 rfl ?_
      refine x_iconst (3) d_Es_worthOfWays_83 rfl ⟨by decide, by decide⟩ ?_
      refine x_V1 d_Es_worthOfWays_84 e_Es_worthOfWays_Ta_at ⟨rfl, rfl, Nat.zero_le _, Nat.zero_le _⟩ rfl rfl rfl rfl (Nat.le_of_ble_eq_true rfl) (k_at hh r 1 w 3 (by decide) hw (by decide) rfl rfl) ?_
      refine x_istore d_Es_worthOfWays_87 (by decide) ?_
      dsimp only [x_st1, x_st2, x_kill, List.set, List.getElem?_cons_zero, List.getElem?_cons_succ]
      refine x_iconst (0) d_Es_worthOfWays_89 rfl ⟨by decide, by decide⟩ ?_
      refine x_istore d_Es_worthOfWays_90 (by decide) ?_
      dsimp only [x_st1, x_st2, x_kill, List.set, List.getElem?_cons_zero, List.getElem?_cons_succ]
      have inner : ∀ f m, m + f = 22 → m ≤ y + 1 → x_A y_Es_worthOfWays 92 [some oEs, some oRo, some (xI (x : Int)), some (xI (y : Int)), some (xI (su (fun w => su (fun m => vW h (cS G x) y m w) (y + 1)) w + su (fun m => vW h (cS G x) y m w) m)), some (xI (w : Int)), some (xI (A : Int)), some (xI (B : Int)), some (xI (T : Int)), some (xI (h.1 1 w 3)), some (xI (m : Int))] [] (S0, G) 0 0 Q := by
        intro f
        induction f with
        | zero => intro m hm hmT; omega
        | succ f ih =>
          intro m hm hmT
          have b2 := su_bd (f := fun m => vW h (cS G x) y m w) (c := 0) (d := 80) (n := m) (fun j _ => vW_bd hh (cS G x) y j hw)
          generalize hs0 : su (fun w => su (fun m => vW h (cS G x) y m w) (y + 1)) w = s0 at *
          generalize hs1 : su (fun m => vW h (cS G x) y m w) m = s1 at *
          refine x_iload d_Es_worthOfWays_92 rfl ?_
          refine x_iload d_Es_worthOfWays_94 rfl ?_
          refine x_iaddN d_Es_worthOfWays_96 (by omega) (by omega) ?_
          refine x_iload_n d_Es_worthOfWays_97 rfl rfl ?_
          refine x_icmp_gt (181) d_Es_worthOfWays_98 (by decide) (fun g2 => ?_) (fun g2 => ?_)
          · refine x_iincN d_Es_worthOfWays_181 rfl (by decide) (by omega) (by omega) ?_
            dsimp only [x_st1, x_st2, x_kill, List.set, List.getElem?_cons_zero, List.getElem?_cons_succ]
            refine x_goto (6) d_Es_worthOfWays_184 (by decide) ?_
            have := k (some (xI (A : Int))) (some (xI (B : Int))) (some (xI (T : Int))) (some (xI (h.1 1 w 3))) (some (xI (m : Int)))
            have e6 : su (fun w => su (fun m => vW h (cS G x) y m w) (y + 1)) (w + 1) = s0 + s1 := by
              show su _ w + su (fun m => vW h (cS G x) y m w) (y + 1) = _
              rw [hs0, sfin m hmT (by omega), hs1]
            rw [e6] at this
            exact this
          · have e7 : su (fun m => vW h (cS G x) y m w) (m + 1) = s1 + ((if cS G x (16 * m + 8 + A) = true ∧ cS G x (16 * (m + T) + B) = false then h.1 1 w 3 else 0) + (if cS G x (16 * m + 8 + B) = true ∧ cS G x (16 * (m + T) + A) = false then h.1 1 w 3 else 0)) := by
              show su _ m + vW h (cS G x) y m w = _
              rw [hs1, eW, if_pos (by omega)]
            have ih' := ih (m + 1) (by omega) (by omega)
            rw [e7] at ih'
            have second : ∀ s2 : Int, (if cS G x (16 * m + 8 + A) = true ∧ cS G x (16 * (m + T) + B) = false then h.1 1 w 3 else 0) = s2 → x_A y_Es_worthOfWays 138 [some oEs, some oRo, some (xI (x : Int)), some (xI (y : Int)), some (xI (s0 + s1 + s2)), some (xI (w : Int)), some (xI (A : Int)), some (xI (B : Int)), some (xI (T : Int)), some (xI (h.1 1 w 3)), some (xI (m : Int))] [] (S0, G) 0 0 Q := by
              intro s2 hs2
              have bs2 : 0 ≤ s2 ∧ s2 ≤ 40 := by rw [← hs2]; split <;> omega
              rw [hs2] at ih'
              refine x_aload_n d_Es_worthOfWays_138 rfl rfl ?_
              refine x_iload_n d_Es_worthOfWays_139 rfl rfl ?_
              refine x_iload d_Es_worthOfWays_140 rfl ?_
              refine x_bipush (8) d_Es_worthOfWays_142 rfl ⟨by decide, by decide⟩ ?_
              refine x_iload d_Es_worthOfWays_144 rfl ?_
              refine x_iaddN d_Es_worthOfWays_146 (by omega) (by omega) ?_
              rw [show (8 : Int) + B = ((8 + B : Nat) : Int) by omega]
              refine x_S1 d_Es_worthOfWays_147 e_Es_worthOfWays_Es_isIn ⟨rfl, rfl, Nat.zero_le _, Nat.zero_le _⟩ rfl rfl (Nat.le_of_ble_eq_true rfl) (c_in (y := y) hx hl hy (show m ≤ y by omega) (show 8 + B < 16 by omega)) ?_
              rw [show 16 * m + (8 + B) = 16 * m + 8 + B by omega]
              refine b2i_c (P := fun b => x_A y_Es_worthOfWays _ _ [xI (b2i b)] (S0, G) 0 0 Q) _ (fun c => ?_) (fun c => ?_)
              · refine x_if_eq (175) d_Es_worthOfWays_150 (by decide) (fun g3 => ?_) (fun g3 => ?_)
                · cases g3
                · refine x_aload_n d_Es_worthOfWays_153 rfl rfl ?_
                  refine x_iload_n d_Es_worthOfWays_154 rfl rfl ?_
                  refine x_iload d_Es_worthOfWays_155 rfl ?_
                  refine x_iload d_Es_worthOfWays_157 rfl ?_
                  refine x_iaddN d_Es_worthOfWays_159 (by omega) (by omega) ?_
                  rw [show (m : Int) + T = ((m + T : Nat) : Int) by omega]
                  refine x_iload d_Es_worthOfWays_160 rfl ?_
                  refine x_S1 d_Es_worthOfWays_162 e_Es_worthOfWays_Es_isIn ⟨rfl, rfl, Nat.zero_le _, Nat.zero_le _⟩ rfl rfl (Nat.le_of_ble_eq_true rfl) (c_in (y := y) hx hl hy (show m + T ≤ y by omega) (show A < 16 by omega)) ?_
                  refine b2i_c (P := fun b => x_A y_Es_worthOfWays _ _ [xI (b2i b)] (S0, G) 0 0 Q) _ (fun c2 => ?_) (fun c2 => ?_)
                  · refine x_if_ne (175) d_Es_worthOfWays_165 (by decide) (fun g4 => ?_) (fun g4 => ?_)
                    · refine x_iincN d_Es_worthOfWays_175 rfl (by decide) (by omega) (by omega) ?_
                      dsimp only [x_st1, x_st2, x_kill, List.set, List.getElem?_cons_zero, List.getElem?_cons_succ]
                      refine x_goto (92) d_Es_worthOfWays_178 (by decide) ?_
                      rw [if_neg (fun q => by rw [c2] at q; cases q.2)] at ih'
                      rw [show s0 + (s1 + (s2 + 0)) = s0 + s1 + s2 by omega] at ih'
                      exact ih'
                    · cases g4
                  · refine x_if_ne (175) d_Es_worthOfWays_165 (by decide) (fun g4 => ?_) (fun g4 => ?_)
                    · exact absurd rfl g4
                    · refine x_iload d_Es_worthOfWays_168 rfl ?_
                      refine x_iload d_Es_worthOfWays_170 rfl ?_
                      refine x_iaddN d_Es_worthOfWays_172 (by omega) (by omega) ?_
                      refine x_istore d_Es_worthOfWays_173 (by decide) ?_
                      dsimp only [x_st1, x_st2, x_kill, List.set, List.getElem?_cons_zero, List.getElem?_cons_succ]
                      refine x_iincN d_Es_worthOfWays_175 rfl (by decide) (by omega) (by omega) ?_
                      dsimp only [x_st1, x_st2, x_kill, List.set, List.getElem?_cons_zero, List.getElem?_cons_succ]
                      refine x_goto (92) d_Es_worthOfWays_178 (by decide) ?_
                      rw [if_pos ⟨c, c2⟩] at ih'
                      rw [show s0 + (s1 + (s2 + h.1 1 w 3)) = s0 + s1 + s2 + h.1 1 w 3 by omega] at ih'
                      exact ih'
              · refine x_if_eq (175) d_Es_worthOfWays_150 (by decide) (fun g3 => ?_) (fun g3 => ?_)
                · refine x_iincN d_Es_worthOfWays_175 rfl (by decide) (by omega) (by omega) ?_
                  dsimp only [x_st1, x_st2, x_kill, List.set, List.getElem?_cons_zero, List.getElem?_cons_succ]
                  refine x_goto (92) d_Es_worthOfWays_178 (by decide) ?_
                  rw [if_neg (fun q => by rw [c] at q; cases q.1)] at ih'
                  rw [show s0 + (s1 + (s2 + 0)) = s0 + s1 + s2 by omega] at ih'
                  exact ih'
                · exact absurd rfl g3
            refine x_aload_n d_Es_worthOfWays_101 rfl rfl ?_
            refine x_iload_n d_Es_worthOfWays_102 rfl rfl ?_
            refine x_iload d_Es_worthOfWays_103 rfl ?_
            refine x_bipush (8) d_Es_worthOfWays_105 rfl ⟨by decide, by decide⟩ ?_
            refine x_iload d_Es_worthOfWays_107 rfl ?_
            refine x_iaddN d_Es_worthOfWays_109 (by omega) (by omega) ?_
            rw [show (8 : Int) + A = ((8 + A : Nat) : Int) by omega]
            refine x_S1 d_Es_worthOfWays_110 e_Es_worthOfWays_Es_isIn ⟨rfl, rfl, Nat.zero_le _, Nat.zero_le _⟩ rfl rfl (Nat.le_of_ble_eq_true rfl) (c_in (y := y) hx hl hy (show m ≤ y by omega) (show 8 + A < 16 by omega)) ?_
            rw [show 16 * m + (8 + A) = 16 * m + 8 + A by omega]
            refine b2i_c (P := fun b => x_A y_Es_worthOfWays _ _ [xI (b2i b)] (S0, G) 0 0 Q) _ (fun c => ?_) (fun c => ?_)
            · refine x_if_eq (138) d_Es_worthOfWays_113 (by decide) (fun g3 => ?_) (fun g3 => ?_)
              · cases g3
              · refine x_aload_n d_Es_worthOfWays_116 rfl rfl ?_
                refine x_iload_n d_Es_worthOfWays_117 rfl rfl ?_
                refine x_iload d_Es_worthOfWays_118 rfl ?_
                refine x_iload d_Es_worthOfWays_120 rfl ?_
                refine x_iaddN d_Es_worthOfWays_122 (by omega) (by omega) ?_
                rw [show (m : Int) + T = ((m + T : Nat) : Int) by omega]
                refine x_iload d_Es_worthOfWays_123 rfl ?_
                refine x_S1 d_Es_worthOfWays_125 e_Es_worthOfWays_Es_isIn ⟨rfl, rfl, Nat.zero_le _, Nat.zero_le _⟩ rfl rfl (Nat.le_of_ble_eq_true rfl) (c_in (y := y) hx hl hy (show m + T ≤ y by omega) (show B < 16 by omega)) ?_
                refine b2i_c (P := fun b => x_A y_Es_worthOfWays _ _ [xI (b2i b)] (S0, G) 0 0 Q) _ (fun c2 => ?_) (fun c2 => ?_)
                · refine x_if_ne (138) d_Es_worthOfWays_128 (by decide) (fun g4 => ?_) (fun g4 => ?_)
                  · have := second 0 (if_neg (fun q => by rw [c2] at q; cases q.2))
                    rw [Int.add_zero] at this
                    exact this
                  · cases g4
                · refine x_if_ne (138) d_Es_worthOfWays_128 (by decide) (fun g4 => ?_) (fun g4 => ?_)
                  · exact absurd rfl g4
                  · refine x_iload d_Es_worthOfWays_131 rfl ?_
                    refine x_iload d_Es_worthOfWays_133 rfl ?_
                    refine x_iaddN d_Es_worthOfWays_135 (by omega) (by omega) ?_
                    refine x_istore d_Es_worthOfWays_136 (by decide) ?_
                    dsimp only [x_st1, x_st2, x_kill, List.set, List.getElem?_cons_zero, List.getElem?_cons_succ]
                    exact second _ (if_pos ⟨c, c2⟩)
            · refine x_if_eq (138) d_Es_worthOfWays_113 (by decide) (fun g3 => ?_) (fun g3 => ?_)
              · have := second 0 (if_neg (fun q => by rw [c] at q; cases q.1))
                rw [Int.add_zero] at this
                exact this
              · exact absurd rfl g3
      have i0 := inner 22 0 rfl (by omega)
      rw [show su (fun m => vW h (cS G x) y m w) 0 = 0 from rfl, Int.add_zero] at i0
      exact i0
end CWo
