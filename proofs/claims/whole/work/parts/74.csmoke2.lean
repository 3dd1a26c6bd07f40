/-! the class: fans and air -/
section CA
variable {h : HH} {G : Nat → Nat → Int}
def clG (G : Nat → Nat → Int) : Nat → Nat → Int := fillG (fillG (fillG (fillG G sm_above 168 0) sm_mixed 168 0) sm_totals 63 0) sm_lost 8 (-1)
theorem c_clear : x_M y_Sm_clear [oSm] (S0, G) (x_is (.inl none) (S0, clG G)) := by
  refine x_of 0 rfl (Nat.le_of_ble_eq_true rfl) ?_
  show x_A y_Sm_clear 0 [some oSm] [] (S0, G) 0 0 _
  refine x_aload_n d_Sm_clear_0 rfl rfl ?_
  refine x_getF (kf := 2) d_Sm_clear_1 rfl rfl rfl in_Sm f_Sm_9 ?_
  refine x_iconst (0) d_Sm_clear_4 rfl ⟨by decide, by decide⟩ ?_
  refine x_S0 d_Sm_clear_5 e_Sm_clear_JA_fill ⟨rfl, rfl, Nat.zero_le _, Nat.zero_le _⟩ rfl rfl (Nat.le_of_ble_eq_true rfl) (c_fill (i := sm_above) (n := 168) rfl (by decide) 0) ?_
  refine x_aload_n d_Sm_clear_8 rfl rfl ?_
  refine x_getF (kf := 3) d_Sm_clear_9 rfl rfl rfl in_Sm f_Sm_15 ?_
  refine x_iconst (0) d_Sm_clear_12 rfl ⟨by decide, by decide⟩ ?_
  refine x_S0 d_Sm_clear_13 e_Sm_clear_JA_fill ⟨rfl, rfl, Nat.zero_le _, Nat.zero_le _⟩ rfl rfl (Nat.le_of_ble_eq_true rfl) (c_fill (i := sm_mixed) (n := 168) rfl (by decide) 0) ?_
  refine x_aload_n d_Sm_clear_16 rfl rfl ?_
  refine x_getF (kf := 5) d_Sm_clear_17 rfl rfl rfl in_Sm f_Sm_21 ?_
  refine x_iconst (0) d_Sm_clear_20 rfl ⟨by decide, by decide⟩ ?_
  refine x_S0 d_Sm_clear_21 e_Sm_clear_JA_fill ⟨rfl, rfl, Nat.zero_le _, Nat.zero_le _⟩ rfl rfl (Nat.le_of_ble_eq_true rfl) (c_fill (i := sm_totals) (n := 63) rfl (by decide) 0) ?_
  refine x_aload_n d_Sm_clear_24 rfl rfl ?_
  refine x_getF (kf := 6) d_Sm_clear_25 rfl rfl rfl in_Sm f_Sm_24 ?_
  refine x_iconst (-1) d_Sm_clear_28 rfl ⟨by decide, by decide⟩ ?_
  refine x_S0 d_Sm_clear_29 e_Sm_clear_JA_fill ⟨rfl, rfl, Nat.zero_le _, Nat.zero_le _⟩ rfl rfl (Nat.le_of_ble_eq_true rfl) (c_fill (i := sm_lost) (n := 8) rfl (by decide) (-1)) ?_
  refine x_return d_Sm_clear_32 rfl ?_ (Nat.zero_le _) (Nat.zero_le _)
  exact ⟨rfl, rfl⟩
/-- what counts for a fan in a minute, and since when, by the first k sets -/
def tv (h : HH) (c : CC) (k m f : Nat) : Int := if f_byIx h (f_plan c m) f m k = -1 then 0 else h.1 4 (f_byIx h (f_plan c m) f m k).toNat 3
def tf (h : HH) (c : CC) (k m f : Nat) : Int := if f_byIx h (f_plan c m) f m k = -1 then -1 else h.1 4 (f_byIx h (f_plan c m) f m k).toNat 2
theorem tv_s (hh : Hwf h) (c : CC) {k m f : Nat} (hk : k < h.2 4) :
    (tv h c (k + 1) m f = if h.1 4 k 0 = f_plan c m ∧ h.1 4 k 1 = f ∧ h.1 4 k 2 ≤ m ∧ tf h c k m f ≤ h.1 4 k 2 then h.1 4 k 3 else tv h c k m f) ∧
    (tf h c (k + 1) m f = if h.1 4 k 0 = f_plan c m ∧ h.1 4 k 1 = f ∧ h.1 4 k 2 ≤ m ∧ tf h c k m f ≤ h.1 4 k 2 then h.1 4 k 2 else tf h c k m f) := by
  have b := hh.2.2.2.2.2.1 k hk
  have e : f_byIx h (f_plan c m) f m (k + 1) = if h.1 4 k 0 = f_plan c m ∧ h.1 4 k 1 = f ∧ h.1 4 k 2 ≤ m ∧ (f_byIx h (f_plan c m) f m k = -1 ∨ h.1 4 (f_byIx h (f_plan c m) f m k).toNat 2 ≤ h.1 4 k 2) then (k : Int) else f_byIx h (f_plan c m) f m k := rfl
  have e2 : (f_byIx h (f_plan c m) f m k = -1 ∨ h.1 4 (f_byIx h (f_plan c m) f m k).toNat 2 ≤ h.1 4 k 2) ↔ tf h c k m f ≤ h.1 4 k 2 := by
    unfold tf
    split
    · next z => constructor
                · intro _; omega
                · intro _; exact Or.inl z
    · next z => constructor
                · rintro (z' | z')
                  · exact absurd z' z
                  · exact z'
                · intro z'; exact Or.inr z'
  by_cases hc : h.1 4 k 0 = f_plan c m ∧ h.1 4 k 1 = f ∧ h.1 4 k 2 ≤ m ∧ tf h c k m f ≤ h.1 4 k 2
  · rw [if_pos hc, if_pos hc]
    rw [if_pos ⟨hc.1, hc.2.1, hc.2.2.1, e2.mpr hc.2.2.2⟩] at e
    unfold tv tf
    rw [e, if_neg (by omega), if_neg (by omega), Int.toNat_natCast]
    exact ⟨rfl, rfl⟩
  · rw [if_neg hc, if_neg hc]
    rw [if_neg (fun z => hc ⟨z.1, z.2.1, z.2.2.1, e2.mp z.2.2.2⟩)] at e
    unfold tv tf
    rw [e]
    exact ⟨rfl, rfl⟩
def tI (h : HH) (c : CC) (G : Nat → Nat → Int) (k j : Nat) (G' : Nat → Nat → Int) : Prop :=
  (∀ i, i ≠ sm_turned → i ≠ sm_turnedFrom → G' i = G i) ∧ ∀ m, m ≤ 20 → ∀ f, f < 8 → G' sm_turned (8 * m + f) = tv h c (if m < j then k + 1 else k) m f ∧ G' sm_turnedFrom (8 * m + f) = tf h c (if m < j then k + 1 else k) m f
def mTurned (h : HH) (c : CC) (G : Nat → Nat → Int) : Option XV → XM → Prop := fun v τ => v = none ∧ ∃ G', τ = (S0, G') ∧ (∀ i, i ≠ sm_turned → i ≠ sm_turnedFrom → G' i = G i) ∧ ∀ m, m ≤ 20 → ∀ f, f < 8 → G' sm_turned (8 * m + f) = f_isBy h (f_plan c m) f m
theorem c_turnFans (hh : Hwf h) (r : fRep h G) (c : CC) : x_M y_Sm_turnFans [oSm, xI c.1, xI c.2.1, xI c.2.2.1] (S0, G) (fun r τ => ∃ v, r = .inl v ∧ mTurned h c G v τ) := by
  have b := hh.1
  refine x_of 6 rfl (Nat.le_of_ble_eq_true rfl) ?_
  show x_A y_Sm_turnFans 0 [some oSm, some (xI c.1), some (xI c.2.1), some (xI c.2.2.1), none, none, none, none, none, none] [] (S0, G) 0 0 _
  generalize hQ : (fun (r : XRes) (τ : XM) => ∃ v, r = .inl v ∧ mTurned h c G v τ) = Q
  refine x_aload_n d_Sm_turnFans_0 rfl rfl ?_
  refine x_getF (kf := 7) d_Sm_turnFans_1 rfl rfl rfl in_Sm f_Sm_27 ?_
  refine x_iconst (0) d_Sm_turnFans_4 rfl ⟨by decide, by decide⟩ ?_
  refine x_S0 d_Sm_turnFans_5 e_Sm_turnFans_JA_fill ⟨rfl, rfl, Nat.zero_le _, Nat.zero_le _⟩ rfl rfl (Nat.le_of_ble_eq_true rfl) (c_fill (i := sm_turned) (n := 168) rfl (by decide) 0) ?_
  refine x_aload_n d_Sm_turnFans_8 rfl rfl ?_
  refine x_getF (kf := 8) d_Sm_turnFans_9 rfl rfl rfl in_Sm f_Sm_30 ?_
  refine x_iconst (-1) d_Sm_turnFans_12 rfl ⟨by decide, by decide⟩ ?_
  refine x_S0 d_Sm_turnFans_13 e_Sm_turnFans_JA_fill ⟨rfl, rfl, Nat.zero_le _, Nat.zero_le _⟩ rfl rfl (Nat.le_of_ble_eq_true rfl) (c_fill (i := sm_turnedFrom) (n := 168) rfl (by decide) (-1)) ?_
  refine x_iconst (0) d_Sm_turnFans_16 rfl ⟨by decide, by decide⟩ ?_
  refine x_istore d_Sm_turnFans_17 (by decide) ?_
  dsimp only [x_st1, x_st2, x_kill, List.set, List.getElem?_cons_zero, List.getElem?_cons_succ]
  have rep : ∀ k j G', tI h c G k j G' → fRep h G' := fun k j G' hI => r.same (fun i h1 h2 => hI.1 i (by simp only [sm_turned]; omega) (by simp only [sm_turnedFrom]; omega))
  have key : ∀ G', tI h c G 0 0 G' → x_A y_Sm_turnFans 19 [some oSm, some (xI c.1), some (xI c.2.1), some (xI c.2.2.1), some (xI ((0 : Nat) : Int)), none, none, none, none, none] [] (S0, G') 0 0 Q := by
    refine x_up_to (P := fun k => ∀ G', tI h c G k 0 G' → x_A y_Sm_turnFans 19 [some oSm, some (xI c.1), some (xI c.2.1), some (xI c.2.2.1), some (xI (k : Int)), none, none, none, none, none] [] (S0, G') 0 0 Q) 0 (h.2 4) (Nat.zero_le _) (fun G' hI => ?_) (fun k _ hk ih G' hI => ?_)
    · have r2 := rep _ _ _ hI
      refine x_iload d_Sm_turnFans_19 rfl ?_
      refine x_aload_n d_Sm_turnFans_21 rfl rfl ?_
      refine x_getF (kf := 0) d_Sm_turnFans_22 rfl rfl rfl in_Sm f_Sm_46 ?_
      refine x_getF (kf := 4) d_Sm_turnFans_25 rfl rfl rfl in_Ho f_Sm_125 ?_
      refine x_V1 d_Sm_turnFans_28 e_Sm_turnFans_Ta_size ⟨rfl, rfl, Nat.zero_le _, Nat.zero_le _⟩ rfl rfl rfl rfl (Nat.le_of_ble_eq_true rfl) (k_size r2 4 (by decide)) ?_
      refine x_icmp_ge (192) d_Sm_turnFans_31 (by decide) (fun g => ?_) (fun g => ?_)
      · refine x_return d_Sm_turnFans_192 rfl ?_ (Nat.zero_le _) (Nat.zero_le _)
        rw [← hQ]
        refine ⟨none, rfl, rfl, G', rfl, hI.1, fun m hm f hf => ?_⟩
        have := (hI.2 m hm f hf).1
        rw [if_neg (by omega)] at this
        exact this
      · omega
    · have r2 := rep _ _ _ hI
      have bk := hh.2.2.2.2.2.1 k hk
      obtain ⟨fa, ef⟩ : ∃ fa : Nat, h.1 4 k 1 = (fa : Int) := ⟨(h.1 4 k 1).toNat, by omega⟩
      obtain ⟨fr, er⟩ : ∃ fr : Nat, h.1 4 k 2 = (fr : Int) := ⟨(h.1 4 k 2).toNat, by omega⟩
      have nx : ∀ G2, tI h c G (k + 1) 0 G2 → x_A y_Sm_turnFans 186 [some oSm, some (xI c.1), some (xI c.2.1), some (xI c.2.2.1), some (xI (k : Int)), some (xI (h.1 4 k 0)), some (xI (fa : Int)), some (xI (fr : Int)), some (xI ((21 : Nat) : Int)), none] [] (S0, G2) 0 0 Q := by
        intro G2 hI2
        refine x_iincN d_Sm_turnFans_186 rfl (by decide) (by omega) (by omega) ?_
        dsimp only [x_st1, x_st2, x_kill, List.set, List.getElem?_cons_zero, List.getElem?_cons_succ]
        refine x_goto (19) d_Sm_turnFans_189 (by decide) ?_
        have := ih G2 hI2
        exact x_sub (fun j v hj => by
          match j, hj with
          | 0, hj => exact hj
          | 1, hj => exact hj
          | 2, hj => exact hj
          | 3, hj => exact hj
          | 4, hj => exact hj
          | 5, hj => cases hj
          | 6, hj => cases hj
          | 7, hj => cases hj
          | 8, hj => cases hj
          | 9, hj => cases hj
          | j + 10, hj => cases hj) this
      refine x_iload d_Sm_turnFans_19 rfl ?_
      refine x_aload_n d_Sm_turnFans_21 rfl rfl ?_
      refine x_getF (kf := 0) d_Sm_turnFans_22 rfl rfl rfl in_Sm f_Sm_46 ?_
      refine x_getF (kf := 4) d_Sm_turnFans_25 rfl rfl rfl in_Ho f_Sm_125 ?_
      refine x_V1 d_Sm_turnFans_28 e_Sm_turnFans_Ta_size ⟨rfl, rfl, Nat.zero_le _, Nat.zero_le _⟩ rfl rfl rfl rfl (Nat.le_of_ble_eq_true rfl) (k_size r2 4 (by decide)) ?_
      refine x_icmp_ge (192) d_Sm_turnFans_31 (by decide) (fun g => ?_) (fun g => ?_)
      · omega
      · refine x_aload_n d_Sm_turnFans_34 rfl rfl ?_
        refine x_getF (kf := 0) d_Sm_turnFans_35 rfl rfl rfl in_Sm f_Sm_46 ?_
        refine x_getF (kf := 4) d_Sm_turnFans_38 rfl rfl rfl in_Ho f_Sm_125 ?_
        refine x_iload d_Sm_turnFans_41 rfl ?_
        refine x_iconst (0) d_Sm_turnFans_43 rfl ⟨by decide, by decide⟩ ?_
        refine x_V1 d_Sm_turnFans_44 e_Sm_turnFans_Ta_at ⟨rfl, rfl, Nat.zero_le _, Nat.zero_le _⟩ rfl rfl rfl rfl (Nat.le_of_ble_eq_true rfl) (k_at hh r2 4 k 0 (by decide) hk (by decide) rfl rfl) ?_
        refine x_istore d_Sm_turnFans_47 (by decide) ?_
        dsimp only [x_st1, x_st2, x_kill, List.set, List.getElem?_cons_zero, List.getElem?_cons_succ]
        refine x_aload_n d_Sm_turnFans_49 rfl rfl ?_
        refine x_getF (kf := 0) d_Sm_turnFans_50 rfl rfl rfl in_Sm f_Sm_46 ?_
        refine x_getF (kf := 4) d_Sm_turnFans_53 rfl rfl rfl in_Ho f_Sm_125 ?_
        refine x_iload d_Sm_turnFans_56 rfl ?_
        refine x_iconst (1) d_Sm_turnFans_58 rfl ⟨by decide, by decide⟩ ?_
        refine x_V1 d_Sm_turnFans_59 e_Sm_turnFans_Ta_at ⟨rfl, rfl, Nat.zero_le _, Nat.zero_le _⟩ rfl rfl rfl rfl (Nat.le_of_ble_eq_true rfl) (k_at hh r2 4 k 1 (by decide) hk (by decide) rfl rfl) ?_
        rw [ef]
        refine x_istore d_Sm_turnFans_62 (by decide) ?_
        dsimp only [x_st1, x_st2, x_kill, List.set, List.getElem?_cons_zero, List.getElem?_cons_succ]
        refine x_aload_n d_Sm_turnFans_64 rfl rfl ?_
        refine x_getF (kf := 0) d_Sm_turnFans_65 rfl rfl rfl in_Sm f_Sm_46 ?_
        refine x_getF (kf := 4) d_Sm_turnFans_68 rfl rfl rfl in_Ho f_Sm_125 ?_
        refine x_iload d_Sm_turnFans_71 rfl ?_
        refine x_iconst (2) d_Sm_turnFans_73 rfl ⟨by decide, by decide⟩ ?_
        refine x_V1 d_Sm_turnFans_74 e_Sm_turnFans_Ta_at ⟨rfl, rfl, Nat.zero_le _, Nat.zero_le _⟩ rfl rfl rfl rfl (Nat.le_of_ble_eq_true rfl) (k_at hh r2 4 k 2 (by decide) hk (by decide) rfl rfl) ?_
        rw [er]
        refine x_istore d_Sm_turnFans_77 (by decide) ?_
        dsimp only [x_st1, x_st2, x_kill, List.set, List.getElem?_cons_zero, List.getElem?_cons_succ]
        refine x_iload d_Sm_turnFans_79 rfl ?_
        refine x_if_lt (186) d_Sm_turnFans_81 (by decide) (fun g => ?_) (fun g => ?_)
        · omega
        · refine x_aload_n d_Sm_turnFans_84 rfl rfl ?_
          refine x_getF (kf := 0) d_Sm_turnFans_85 rfl rfl rfl in_Sm f_Sm_46 ?_
          refine x_getF (kf := 3) d_Sm_turnFans_88 rfl rfl rfl in_Ho f_Sm_128 ?_
          refine x_iload d_Sm_turnFans_91 rfl ?_
          refine x_V1 d_Sm_turnFans_93 e_Sm_turnFans_Ta_has ⟨rfl, rfl, Nat.zero_le _, Nat.zero_le _⟩ rfl rfl rfl rfl (Nat.le_of_ble_eq_true rfl) (k_has r2 3 (by decide) (fa)) ?_
          rw [decide_eq_true (by omega)]
          refine x_if_ne (102) d_Sm_turnFans_96 (by decide) (fun g => ?_) (fun g => ?_)
          · refine x_iload d_Sm_turnFans_102 rfl ?_
            refine x_istore d_Sm_turnFans_104 (by decide) ?_
            dsimp only [x_st1, x_st2, x_kill, List.set, List.getElem?_cons_zero, List.getElem?_cons_succ]
            have inner : ∀ G2, tI h c G k fr G2 → x_A y_Sm_turnFans 106 [some oSm, some (xI c.1), some (xI c.2.1), some (xI c.2.2.1), some (xI (k : Int)), some (xI (h.1 4 k 0)), some (xI (fa : Int)), some (xI (fr : Int)), some (xI (fr : Int)), none] [] (S0, G2) 0 0 Q := by
              refine x_up_to (P := fun j => ∀ G2, tI h c G k j G2 → x_A y_Sm_turnFans 106 [some oSm, some (xI c.1), some (xI c.2.1), some (xI c.2.2.1), some (xI (k : Int)), some (xI (h.1 4 k 0)), some (xI (fa : Int)), some (xI (fr : Int)), some (xI (j : Int)), none] [] (S0, G2) 0 0 Q) fr 21 (by omega) (fun G2 hI2 => ?_) (fun j hj1 hj ih2 G2 hI2 => ?_)
              · refine x_iload d_Sm_turnFans_106 rfl ?_
                refine x_bipush (21) d_Sm_turnFans_108 rfl ⟨by decide, by decide⟩ ?_
                refine x_icmp_ge (186) d_Sm_turnFans_110 (by decide) (fun g => ?_) (fun g => ?_)
                · refine nx G2 ⟨hI2.1, fun m hm f hf => ?_⟩
                  have := hI2.2 m hm f hf
                  rw [if_pos (by omega)] at this
                  rw [if_neg (by omega)]
                  exact this
                · omega
              · have r3 := rep _ _ _ hI2
                obtain ⟨v1, v2⟩ := hI2.2 j (by omega) fa (by omega)
                rw [if_neg (by omega)] at v1 v2
                obtain ⟨s1, s2⟩ := tv_s hh c (k := k) (m := j) (f := fa) hk
                refine x_iload d_Sm_turnFans_106 rfl ?_
                refine x_bipush (21) d_Sm_turnFans_108 rfl ⟨by decide, by decide⟩ ?_
                refine x_icmp_ge (186) d_Sm_turnFans_110 (by decide) (fun g => ?_) (fun g => ?_)
                · omega
                · refine x_iload d_Sm_turnFans_113 rfl ?_
                  refine x_bipush (8) d_Sm_turnFans_115 rfl ⟨by decide, by decide⟩ ?_
                  refine x_imulN d_Sm_turnFans_117 (by omega) (by omega) ?_
                  refine x_iload d_Sm_turnFans_118 rfl ?_
                  refine x_iaddN d_Sm_turnFans_120 (by omega) (by omega) ?_
                  refine x_istore d_Sm_turnFans_121 (by decide) ?_
                  dsimp only [x_st1, x_st2, x_kill, List.set, List.getElem?_cons_zero, List.getElem?_cons_succ]
                  refine x_iload d_Sm_turnFans_123 rfl ?_
                  refine x_iload_n d_Sm_turnFans_125 rfl rfl ?_
                  have done : ∀ G3, tI h c G k (j + 1) G3 → x_A y_Sm_turnFans 180 [some oSm, some (xI c.1), some (xI c.2.1), some (xI c.2.2.1), some (xI (k : Int)), some (xI (h.1 4 k 0)), some (xI (fa : Int)), some (xI (fr : Int)), some (xI (j : Int)), some (xI ((j : Int) * 8 + fa))] [] (S0, G3) 0 0 Q := by
                    intro G3 hI3
                    refine x_iincN d_Sm_turnFans_180 rfl (by decide) (by omega) (by omega) ?_
                    dsimp only [x_st1, x_st2, x_kill, List.set, List.getElem?_cons_zero, List.getElem?_cons_succ]
                    refine x_goto (106) d_Sm_turnFans_183 (by decide) ?_
                    have := ih2 G3 hI3
                    exact x_sub (fun j v hj => by
                      match j, hj with
                      | 0, hj => exact hj
                      | 1, hj => exact hj
                      | 2, hj => exact hj
                      | 3, hj => exact hj
                      | 4, hj => exact hj
                      | 5, hj => exact hj
                      | 6, hj => exact hj
                      | 7, hj => exact hj
                      | 8, hj => exact hj
                      | 9, hj => cases hj
                      | j + 10, hj => cases hj) this
                  -- all others are as they were
                  have oth : ∀ m f, m ≤ 20 → f < 8 → ¬ (m = j ∧ f = fa) → tv h c (if m < j + 1 then k + 1 else k) m f = tv h c (if m < j then k + 1 else k) m f ∧ tf h c (if m < j + 1 then k + 1 else k) m f = tf h c (if m < j then k + 1 else k) m f := by
                    intro m f hm hf hne
                    by_cases e : m = j
                    · subst e
                      obtain ⟨t1, t2⟩ := tv_s hh c (k := k) (m := m) (f := f) hk
                      have hf2 : ¬ (h.1 4 k 1 = (f : Int)) := fun z => hne ⟨rfl, by omega⟩
                      rw [if_neg (fun z => hf2 z.2.1)] at t1 t2
                      rw [if_pos (by omega), if_neg (by omega)]
                      exact ⟨t1, t2⟩
                    · by_cases e2 : m < j
                      · rw [if_pos (by omega), if_pos e2]; exact ⟨rfl, rfl⟩
                      · rw [if_neg (by omega), if_neg e2]; exact ⟨rfl, rfl⟩
                  have same : ¬ (h.1 4 k 0 = f_plan c j ∧ tf h c k j fa ≤ h.1 4 k 2) → tI h c G k (j + 1) G2 := by
                    intro hn
                    refine ⟨hI2.1, fun m hm f hf => ?_⟩
                    obtain ⟨z1, z2⟩ := hI2.2 m hm f hf
                    by_cases e : m = j ∧ f = fa
                    · obtain ⟨rfl, rfl⟩ := e
                      rw [if_pos (by omega)]
                      rw [if_neg (fun z => hn ⟨z.1, z.2.2.2⟩)] at s1 s2
                      exact ⟨v1.trans s1.symm, v2.trans s2.symm⟩
                    · obtain ⟨o1, o2⟩ := oth m f hm hf e
                      exact ⟨z1.trans o1.symm, z2.trans o2.symm⟩
                  have body : x_A y_Sm_turnFans 134 [some oSm, some (xI c.1), some (xI c.2.1), some (xI c.2.2.1), some (xI (k : Int)), some (xI (h.1 4 k 0)), some (xI (fa : Int)), some (xI (fr : Int)), some (xI (j : Int)), some (xI ((j : Int) * 8 + fa))] [xI (f_plan c j)] (S0, G2) 0 0 Q := by
                    refine x_iload d_Sm_turnFans_134 rfl ?_
                    refine x_icmp_ne (180) d_Sm_turnFans_136 (by decide) (fun g1 => ?_) (fun g1 => ?_)
                    · exact done G2 (same (fun z => g1 z.1.symm))
                    · refine x_iload d_Sm_turnFans_139 rfl ?_
                      refine x_aload_n d_Sm_turnFans_141 rfl rfl ?_
                      refine x_getF (kf := 8) d_Sm_turnFans_142 rfl rfl rfl in_Sm f_Sm_30 ?_
                      refine x_iload d_Sm_turnFans_145 rfl ?_
                      refine x_ialdN (8 * j + fa) d_Sm_turnFans_147 rfl (by omega) (by omega) ?_
                      rw [v2]
                      refine x_icmp_lt (180) d_Sm_turnFans_148 (by decide) (fun g2 => ?_) (fun g2 => ?_)
                      · exact done G2 (same (fun z => by omega))
                      · have hc : h.1 4 k 0 = f_plan c j ∧ h.1 4 k 1 = (fa : Int) ∧ h.1 4 k 2 ≤ (j : Int) ∧ tf h c k j fa ≤ h.1 4 k 2 := ⟨by omega, ef, by omega, by omega⟩
                        rw [if_pos hc] at s1 s2
                        refine x_aload_n d_Sm_turnFans_151 rfl rfl ?_
                        refine x_getF (kf := 8) d_Sm_turnFans_152 rfl rfl rfl in_Sm f_Sm_30 ?_
                        refine x_iload d_Sm_turnFans_155 rfl ?_
                        refine x_iload d_Sm_turnFans_157 rfl ?_
                        refine x_iastN (8 * j + fa) d_Sm_turnFans_159 rfl (by omega) (by omega) ?_
                        refine x_aload_n d_Sm_turnFans_160 rfl rfl ?_
                        refine x_getF (kf := 7) d_Sm_turnFans_161 rfl rfl rfl in_Sm f_Sm_27 ?_
                        refine x_iload d_Sm_turnFans_164 rfl ?_
                        refine x_aload_n d_Sm_turnFans_166 rfl rfl ?_
                        refine x_getF (kf := 0) d_Sm_turnFans_167 rfl rfl rfl in_Sm f_Sm_46 ?_
                        refine x_getF (kf := 4) d_Sm_turnFans_170 rfl rfl rfl in_Ho f_Sm_125 ?_
                        refine x_iload d_Sm_turnFans_173 rfl ?_
                        refine x_iconst (3) d_Sm_turnFans_175 rfl ⟨by decide, by decide⟩ ?_
                        have r4 : fRep h (up G2 sm_turnedFrom (8 * j + fa) fr) := r3.same (fun i h1 h2 => up_cell (by simp only [sm_turnedFrom]; omega))
                        refine x_V1 d_Sm_turnFans_176 e_Sm_turnFans_Ta_at ⟨rfl, rfl, Nat.zero_le _, Nat.zero_le _⟩ rfl rfl rfl rfl (Nat.le_of_ble_eq_true rfl) (k_at hh r4 4 k 3 (by decide) hk (by decide) rfl rfl) ?_
                        refine x_iastN (8 * j + fa) d_Sm_turnFans_179 rfl (by omega) (by omega) ?_
                        refine done _ ⟨fun i h1 h2 => by rw [up_cell h1, up_cell h2]; exact hI2.1 i h1 h2, fun m hm f hf => ?_⟩
                        by_cases e : m = j ∧ f = fa
                        · obtain ⟨rfl, rfl⟩ := e
                          rw [if_pos (by omega), up_same, up_cell (by decide), up_same, s1, s2, er]
                          exact ⟨rfl, rfl⟩
                        · obtain ⟨o1, o2⟩ := oth m f hm hf e
                          rw [up_ne (by omega), up_cell (by decide), up_cell (by decide), up_ne (by omega), o1, o2]
                          exact hI2.2 m hm f hf
                  refine x_icmp_ge (133) d_Sm_turnFans_126 (by decide) (fun g3 => ?_) (fun g3 => ?_)
                  · refine x_iload_n d_Sm_turnFans_133 rfl rfl ?_
                    rw [show f_plan c j = c.2.1 from by unfold f_plan; rw [if_neg (by omega)]] at body
                    exact body
                  · refine x_iload_n d_Sm_turnFans_129 rfl rfl ?_
                    refine x_goto (134) d_Sm_turnFans_130 (by decide) ?_
                    rw [show f_plan c j = c.1 from by unfold f_plan; rw [if_pos (by omega)]] at body
                    exact body
            refine inner G' ⟨hI.1, fun m hm f hf => ?_⟩
            obtain ⟨z1, z2⟩ := hI.2 m hm f hf
            rw [if_neg (by omega)] at z1 z2
            by_cases e : m < fr
            · rw [if_pos e]
              obtain ⟨t1, t2⟩ := tv_s hh c (k := k) (m := m) (f := f) hk
              rw [if_neg (fun z => by have := z.2.2.1; omega)] at t1 t2
              exact ⟨z1.trans t1.symm, z2.trans t2.symm⟩
            · rw [if_neg e]
              exact ⟨z1, z2⟩
          · cases g
  refine key _ ⟨fun i h1 h2 => by rw [fillG_o h2, fillG_o h1], fun m hm f hf => ?_⟩
  rw [fillG_o (by decide), fillG_i (by omega), fillG_i (by omega), if_neg (by omega)]
  exact ⟨rfl, rfl⟩
/-- the airs of minute m: the first n are val -/
def aG (G : Nat → Nat → Int) (m n : Nat) (val : Nat → Int) : Nat → Nat → Int := fun a b => if a = sm_airs ∧ 12 * m ≤ b ∧ b < 12 * m + n then val (b - 12 * m) else G a b
theorem aG_o {m n a : Nat} {val : Nat → Int} (ha : a ≠ sm_airs) : aG G m n val a = G a := by
  funext b
  unfold aG
  rw [if_neg (fun z => ha z.1)]
theorem aG_at {m n w : Nat} {val : Nat → Int} (hw : w < n) : aG G m n val sm_airs (12 * m + w) = val w := by
  unfold aG
  rw [if_pos ⟨rfl, by omega, by omega⟩, Nat.add_sub_cancel_left]
theorem aG_cg {m n : Nat} {val val' : Nat → Int} (e : ∀ w, w < n → val w = val' w) : aG G m n val = aG G m n val' := by
  funext a b
  unfold aG
  by_cases z : a = sm_airs ∧ 12 * m ≤ b ∧ b < 12 * m + n
  · rw [if_pos z, if_pos z, e _ (by omega)]
  · rw [if_neg z, if_neg z]
theorem aG_up {m n w : Nat} {val : Nat → Int} {z : Int} (hw : w ≤ n) : up (aG G m n val) sm_airs (12 * m + w) z = aG G m (if w = n then n + 1 else n) (fun x => if x = w then z else val x) := by
  funext a b
  unfold up aG
  by_cases h1 : a = sm_airs
  · subst h1
    by_cases h2 : b = 12 * m + w
    · subst h2
      rw [if_pos ⟨rfl, rfl⟩, if_pos ⟨rfl, by omega, by split <;> omega⟩]
      dsimp only
      rw [if_pos (by omega)]
    · rw [if_neg (fun q => h2 q.2)]
      by_cases h3 : 12 * m ≤ b ∧ b < 12 * m + n
      · rw [if_pos ⟨rfl, h3⟩, if_pos ⟨rfl, h3.1, by split <;> omega⟩]
        dsimp only
        rw [if_neg (by omega)]
      · rw [if_neg (fun q => h3 q.2), if_neg (fun q => h3 ⟨q.2.1, by have := q.2.2; split at this <;> omega⟩)]
  · rw [if_neg (fun q => h1 q.1), if_neg (fun q => h1 q.1), if_neg (fun q => h1 q.1)]
theorem aG_rep (r : fRep h G) (m n : Nat) (val : Nat → Int) : fRep h (aG G m n val) := r.same (fun i h1 h2 => aG_o (by simp only [sm_airs]; omega))
theorem c_driveAir (hh : Hwf h) (r : fRep h G) (pl : Int) (m : Nat) (hm : m ≤ 20) (ht : ∀ f, f < h.2 3 → G sm_turned (8 * m + f) = f_isBy h pl f m) : x_M y_Sm_driveAir [oSm, xI (m : Int)] (S0, G) (x_is (.inl none) (S0, aG G m (h.2 1) (f_air h (G sm_lost) pl m))) := by
  have b := hh.1
  refine x_of 3 rfl (Nat.le_of_ble_eq_true rfl) ?_
  show x_A y_Sm_driveAir 0 [some oSm, some (xI (m : Int)), none, none, none] [] (S0, G) 0 0 _
  generalize hQ : x_is (.inl none) (S0, aG G m (h.2 1) (f_air h (G sm_lost) pl m)) = Q
  refine x_iload_n d_Sm_driveAir_0 rfl rfl ?_
  refine x_bipush (12) d_Sm_driveAir_1 rfl ⟨by decide, by decide⟩ ?_
  refine x_imulN d_Sm_driveAir_3 (by omega) (by omega) ?_
  refine x_istore_n d_Sm_driveAir_4 rfl (by decide) ?_
  dsimp only [x_st1, x_st2, x_kill, List.set, List.getElem?_cons_zero, List.getElem?_cons_succ]
  refine x_iconst (0) d_Sm_driveAir_5 rfl ⟨by decide, by decide⟩ ?_
  refine x_istore_n d_Sm_driveAir_6 rfl (by decide) ?_
  dsimp only [x_st1, x_st2, x_kill, List.set, List.getElem?_cons_zero, List.getElem?_cons_succ]
  have third : ∀ i, i ≤ h.2 1 → ∀ z, x_A y_Sm_driveAir 146 [some oSm, some (xI (m : Int)), some (xI ((m : Int) * 12)), some (xI (i : Int)), z] [] (S0, aG G m (h.2 1) (fun w => if w < i then f_air h (G sm_lost) pl m w else f_airS h (G sm_lost) pl m w (h.2 3))) 0 0 Q := by
    intro i hi z
    refine x_up_to (P := fun i => x_A y_Sm_driveAir 146 [some oSm, some (xI (m : Int)), some (xI ((m : Int) * 12)), some (xI (i : Int)), z] [] (S0, aG G m (h.2 1) (fun w => if w < i then f_air h (G sm_lost) pl m w else f_airS h (G sm_lost) pl m w (h.2 3))) 0 0 Q) i (h.2 1) hi ?_ (fun i _ hi k => ?_)
    · have r2 := aG_rep r m (h.2 1) (fun w => if w < h.2 1 then f_air h (G sm_lost) pl m w else f_airS h (G sm_lost) pl m w (h.2 3))
      refine x_iload_n d_Sm_driveAir_146 rfl rfl ?_
      refine x_aload_n d_Sm_driveAir_147 rfl rfl ?_
      refine x_getF (kf := 0) d_Sm_driveAir_148 rfl rfl rfl in_Sm f_Sm_46 ?_
      refine x_getF (kf := 1) d_Sm_driveAir_151 rfl rfl rfl in_Ho f_Sm_139 ?_
      refine x_V1 d_Sm_driveAir_154 e_Sm_driveAir_Ta_size ⟨rfl, rfl, Nat.zero_le _, Nat.zero_le _⟩ rfl rfl rfl rfl (Nat.le_of_ble_eq_true rfl) (k_size r2 1 (by decide)) ?_
      refine x_icmp_ge (192) d_Sm_driveAir_157 (by decide) (fun g => ?_) (fun g => ?_)
      · refine x_return d_Sm_driveAir_192 rfl ?_ (Nat.zero_le _) (Nat.zero_le _)
        rw [← hQ]
        refine ⟨rfl, ?_⟩
        rw [aG_cg (fun w hw => if_pos hw)]
      · omega
    · have r2 := aG_rep r m (h.2 1) (fun w => if w < i then f_air h (G sm_lost) pl m w else f_airS h (G sm_lost) pl m w (h.2 3))
      have e1 : aG G m (h.2 1) (fun w => if w < i then f_air h (G sm_lost) pl m w else f_airS h (G sm_lost) pl m w (h.2 3)) sm_airs (12 * m + i) = f_airS h (G sm_lost) pl m i (h.2 3) := by rw [aG_at hi, if_neg (by omega)]
      have e2 : up (aG G m (h.2 1) (fun w => if w < i then f_air h (G sm_lost) pl m w else f_airS h (G sm_lost) pl m w (h.2 3))) sm_airs (12 * m + i) (f_air h (G sm_lost) pl m i) = aG G m (h.2 1) (fun w => if w < i + 1 then f_air h (G sm_lost) pl m w else f_airS h (G sm_lost) pl m w (h.2 3)) := by
        rw [aG_up (by omega), if_neg (by omega)]
        refine aG_cg (fun w hw => ?_)
        by_cases q : w = i
        · subst q; rw [if_pos rfl, if_pos (by omega)]
        · rw [if_neg q]
          by_cases q2 : w < i
          · rw [if_pos q2, if_pos (by omega)]
          · rw [if_neg q2, if_neg (by omega)]
      rw [← e2] at k
      generalize aG G m (h.2 1) (fun w => if w < i then f_air h (G sm_lost) pl m w else f_airS h (G sm_lost) pl m w (h.2 3)) = G1 at k r2 e1 ⊢
      have bs := f_airS_bd hh (G sm_lost) pl m (w := i) (f := h.2 3) hi (Nat.le_refl _)
      refine x_iload_n d_Sm_driveAir_146 rfl rfl ?_
      refine x_aload_n d_Sm_driveAir_147 rfl rfl ?_
      refine x_getF (kf := 0) d_Sm_driveAir_148 rfl rfl rfl in_Sm f_Sm_46 ?_
      refine x_getF (kf := 1) d_Sm_driveAir_151 rfl rfl rfl in_Ho f_Sm_139 ?_
      refine x_V1 d_Sm_driveAir_154 e_Sm_driveAir_Ta_size ⟨rfl, rfl, Nat.zero_le _, Nat.zero_le _⟩ rfl rfl rfl rfl (Nat.le_of_ble_eq_true rfl) (k_size r2 1 (by decide)) ?_
      refine x_icmp_ge (192) d_Sm_driveAir_157 (by decide) (fun g => ?_) (fun g => ?_)
      · omega
      · refine x_aload_n d_Sm_driveAir_160 rfl rfl ?_
        refine x_getF (kf := 4) d_Sm_driveAir_161 rfl rfl rfl in_Sm f_Sm_18 ?_
        refine x_iload_n d_Sm_driveAir_164 rfl rfl ?_
        refine x_iload_n d_Sm_driveAir_165 rfl rfl ?_
        refine x_iaddN d_Sm_driveAir_166 (by omega) (by omega) ?_
        refine x_bipush (-12) d_Sm_driveAir_167 rfl ⟨by decide, by decide⟩ ?_
        refine x_bipush (12) d_Sm_driveAir_169 rfl ⟨by decide, by decide⟩ ?_
        refine x_aload_n d_Sm_driveAir_171 rfl rfl ?_
        refine x_getF (kf := 4) d_Sm_driveAir_172 rfl rfl rfl in_Sm f_Sm_18 ?_
        refine x_iload_n d_Sm_driveAir_175 rfl rfl ?_
        refine x_iload_n d_Sm_driveAir_176 rfl rfl ?_
        refine x_iaddN d_Sm_driveAir_177 (by omega) (by omega) ?_
        refine x_ialdN (12 * m + i) d_Sm_driveAir_178 rfl (by omega) (by omega) ?_
        rw [e1]
        refine x_S1 d_Sm_driveAir_179 e_Sm_driveAir_JM_min ⟨rfl, rfl, Nat.zero_le _, Nat.zero_le _⟩ rfl rfl (Nat.le_of_ble_eq_true rfl) (s_min _ _ _) ?_
        refine x_S1 d_Sm_driveAir_182 e_Sm_driveAir_JM_max ⟨rfl, rfl, Nat.zero_le _, Nat.zero_le _⟩ rfl rfl (Nat.le_of_ble_eq_true rfl) (s_max _ _ _) ?_
        refine x_iastN (12 * m + i) d_Sm_driveAir_185 rfl (by omega) (by omega) ?_
        refine x_iincN d_Sm_driveAir_186 rfl (by decide) (by omega) (by omega) ?_
        dsimp only [x_st1, x_st2, x_kill, List.set, List.getElem?_cons_zero, List.getElem?_cons_succ]
        refine x_goto (146) d_Sm_driveAir_189 (by decide) ?_
        exact k
  have second : ∀ f, f ≤ h.2 3 → ∀ z, x_A y_Sm_driveAir 49 [some oSm, some (xI (m : Int)), some (xI ((m : Int) * 12)), some (xI (f : Int)), z] [] (S0, aG G m (h.2 1) (fun w => f_airS h (G sm_lost) pl m w f)) 0 0 Q := by
    intro f hf
    refine x_up_to (P := fun f => ∀ z, x_A y_Sm_driveAir 49 [some oSm, some (xI (m : Int)), some (xI ((m : Int) * 12)), some (xI (f : Int)), z] [] (S0, aG G m (h.2 1) (fun w => f_airS h (G sm_lost) pl m w f)) 0 0 Q) f (h.2 3) hf (fun z => ?_) (fun f _ hf k z => ?_)
    · have r2 := aG_rep r m (h.2 1) (fun w => f_airS h (G sm_lost) pl m w (h.2 3))
      refine x_iload_n d_Sm_driveAir_49 rfl rfl ?_
      refine x_aload_n d_Sm_driveAir_50 rfl rfl ?_
      refine x_getF (kf := 0) d_Sm_driveAir_51 rfl rfl rfl in_Sm f_Sm_46 ?_
      refine x_getF (kf := 3) d_Sm_driveAir_54 rfl rfl rfl in_Ho f_Sm_128 ?_
      refine x_V1 d_Sm_driveAir_57 e_Sm_driveAir_Ta_size ⟨rfl, rfl, Nat.zero_le _, Nat.zero_le _⟩ rfl rfl rfl rfl (Nat.le_of_ble_eq_true rfl) (k_size r2 3 (by decide)) ?_
      refine x_icmp_ge (144) d_Sm_driveAir_60 (by decide) (fun g => ?_) (fun g => ?_)
      · refine x_iconst (0) d_Sm_driveAir_144 rfl ⟨by decide, by decide⟩ ?_
        refine x_istore_n d_Sm_driveAir_145 rfl (by decide) ?_
        dsimp only [x_st1, x_st2, x_kill, List.set, List.getElem?_cons_zero, List.getElem?_cons_succ]
        have := third 0 (Nat.zero_le _) z
        rw [aG_cg (fun w hw => if_neg (by omega))] at this
        exact this
      · omega
    · have r2 := aG_rep r m (h.2 1) (fun w => f_airS h (G sm_lost) pl m w f)
      have bf := hh.2.2.2.2.1 f hf
      obtain ⟨w, ew⟩ : ∃ w : Nat, h.1 3 f 0 = (w : Int) := ⟨(h.1 3 f 0).toNat, by omega⟩
      have hw : w < h.2 1 := by omega
      have e1 : aG G m (h.2 1) (fun w => f_airS h (G sm_lost) pl m w f) sm_airs (12 * m + w) = f_airS h (G sm_lost) pl m w f := aG_at hw
      have el : aG G m (h.2 1) (fun w => f_airS h (G sm_lost) pl m w f) sm_lost = G sm_lost := aG_o (by decide)
      have et : aG G m (h.2 1) (fun w => f_airS h (G sm_lost) pl m w f) sm_turned = G sm_turned := aG_o (by decide)
      have e2 : (if G sm_lost f = -1 then up (aG G m (h.2 1) (fun w => f_airS h (G sm_lost) pl m w f)) sm_airs (12 * m + w) (f_airS h (G sm_lost) pl m w f + h.1 3 f 1 * f_isBy h pl f m) else aG G m (h.2 1) (fun w => f_airS h (G sm_lost) pl m w f)) = aG G m (h.2 1) (fun w => f_airS h (G sm_lost) pl m w (f + 1)) := by
        have ss : ∀ x, f_airS h (G sm_lost) pl m x (f + 1) = f_airS h (G sm_lost) pl m x f + (if h.1 3 f 0 = x ∧ G sm_lost f = -1 then h.1 3 f 1 * f_isBy h pl f m else 0) := fun x => rfl
        by_cases q : G sm_lost f = -1
        · rw [if_pos q, aG_up (by omega), if_neg (by omega)]
          refine aG_cg (fun x hx => ?_)
          rw [ss]
          by_cases q2 : x = w
          · subst q2; rw [if_pos rfl, if_pos ⟨ew, q⟩]
          · rw [if_neg q2, if_neg (fun z => q2 (by have := z.1; omega)), Int.add_zero]
        · rw [if_neg q]
          refine aG_cg (fun x hx => ?_)
          rw [ss, if_neg (fun z => q z.2), Int.add_zero]
      rw [← e2] at k
      generalize aG G m (h.2 1) (fun w => f_airS h (G sm_lost) pl m w f) = G1 at k r2 e1 el et ⊢
      have bs := f_airS_bd hh (G sm_lost) pl m (w := w) (f := f) hw (by omega)
      have kb := f_isBy_bd hh pl f m
      have k1 : -6 ≤ h.1 3 f 1 * f_isBy h pl f m ∧ h.1 3 f 1 * f_isBy h pl f m ≤ 6 := by
        rcases (by omega : f_isBy h pl f m = -1 ∨ f_isBy h pl f m = 0 ∨ f_isBy h pl f m = 1) with e | e | e <;> rw [e] <;> omega
      refine x_iload_n d_Sm_driveAir_49 rfl rfl ?_
      refine x_aload_n d_Sm_driveAir_50 rfl rfl ?_
      refine x_getF (kf := 0) d_Sm_driveAir_51 rfl rfl rfl in_Sm f_Sm_46 ?_
      refine x_getF (kf := 3) d_Sm_driveAir_54 rfl rfl rfl in_Ho f_Sm_128 ?_
      refine x_V1 d_Sm_driveAir_57 e_Sm_driveAir_Ta_size ⟨rfl, rfl, Nat.zero_le _, Nat.zero_le _⟩ rfl rfl rfl rfl (Nat.le_of_ble_eq_true rfl) (k_size r2 3 (by decide)) ?_
      refine x_icmp_ge (144) d_Sm_driveAir_60 (by decide) (fun g => ?_) (fun g => ?_)
      · omega
      · refine x_aload_n d_Sm_driveAir_63 rfl rfl ?_
        refine x_getF (kf := 0) d_Sm_driveAir_64 rfl rfl rfl in_Sm f_Sm_46 ?_
        refine x_getF (kf := 3) d_Sm_driveAir_67 rfl rfl rfl in_Ho f_Sm_128 ?_
        refine x_iload_n d_Sm_driveAir_70 rfl rfl ?_
        refine x_iconst (0) d_Sm_driveAir_71 rfl ⟨by decide, by decide⟩ ?_
        refine x_V1 d_Sm_driveAir_72 e_Sm_driveAir_Ta_at ⟨rfl, rfl, Nat.zero_le _, Nat.zero_le _⟩ rfl rfl rfl rfl (Nat.le_of_ble_eq_true rfl) (k_at hh r2 3 f 0 (by decide) hf (by decide) rfl rfl) ?_
        rw [ew]
        refine x_istore d_Sm_driveAir_75 (by decide) ?_
        dsimp only [x_st1, x_st2, x_kill, List.set, List.getElem?_cons_zero, List.getElem?_cons_succ]
        refine x_aload_n d_Sm_driveAir_77 rfl rfl ?_
        refine x_getF (kf := 6) d_Sm_driveAir_78 rfl rfl rfl in_Sm f_Sm_24 ?_
        refine x_iload_n d_Sm_driveAir_81 rfl rfl ?_
        refine x_ialdN (f) d_Sm_driveAir_82 rfl (by omega) (by omega) ?_
        rw [el]
        refine x_iconst (-1) d_Sm_driveAir_83 rfl ⟨by decide, by decide⟩ ?_
        refine x_icmp_ne (138) d_Sm_driveAir_84 (by decide) (fun g1 => ?_) (fun g1 => ?_)
        · rw [if_neg g1] at k
          refine x_iincN d_Sm_driveAir_138 rfl (by decide) (by omega) (by omega) ?_
          dsimp only [x_st1, x_st2, x_kill, List.set, List.getElem?_cons_zero, List.getElem?_cons_succ]
          refine x_goto (49) d_Sm_driveAir_141 (by decide) ?_
          exact k _
        · rw [if_pos (by omega)] at k
          refine x_aload_n d_Sm_driveAir_87 rfl rfl ?_
          refine x_getF (kf := 0) d_Sm_driveAir_88 rfl rfl rfl in_Sm f_Sm_46 ?_
          refine x_getF (kf := 1) d_Sm_driveAir_91 rfl rfl rfl in_Ho f_Sm_139 ?_
          refine x_iload d_Sm_driveAir_94 rfl ?_
          refine x_V1 d_Sm_driveAir_96 e_Sm_driveAir_Ta_has ⟨rfl, rfl, Nat.zero_le _, Nat.zero_le _⟩ rfl rfl rfl rfl (Nat.le_of_ble_eq_true rfl) (k_has r2 1 (by decide) (w)) ?_
          rw [decide_eq_true (by omega)]
          refine x_if_eq (138) d_Sm_driveAir_99 (by decide) (fun g2 => ?_) (fun g2 => ?_)
          · cases g2
          · refine x_aload_n d_Sm_driveAir_102 rfl rfl ?_
            refine x_getF (kf := 4) d_Sm_driveAir_103 rfl rfl rfl in_Sm f_Sm_18 ?_
            refine x_iload_n d_Sm_driveAir_106 rfl rfl ?_
            refine x_iload d_Sm_driveAir_107 rfl ?_
            refine x_iaddN d_Sm_driveAir_109 (by omega) (by omega) ?_
            refine x_dup2 d_Sm_driveAir_110 rfl rfl ?_
            refine x_ialdN (12 * m + w) d_Sm_driveAir_111 rfl (by omega) (by omega) ?_
            rw [e1]
            refine x_aload_n d_Sm_driveAir_112 rfl rfl ?_
            refine x_getF (kf := 0) d_Sm_driveAir_113 rfl rfl rfl in_Sm f_Sm_46 ?_
            refine x_getF (kf := 3) d_Sm_driveAir_116 rfl rfl rfl in_Ho f_Sm_128 ?_
            refine x_iload_n d_Sm_driveAir_119 rfl rfl ?_
            refine x_iconst (1) d_Sm_driveAir_120 rfl ⟨by decide, by decide⟩ ?_
            refine x_V1 d_Sm_driveAir_121 e_Sm_driveAir_Ta_at ⟨rfl, rfl, Nat.zero_le _, Nat.zero_le _⟩ rfl rfl rfl rfl (Nat.le_of_ble_eq_true rfl) (k_at hh r2 3 f 1 (by decide) hf (by decide) rfl rfl) ?_
            refine x_aload_n d_Sm_driveAir_124 rfl rfl ?_
            refine x_getF (kf := 7) d_Sm_driveAir_125 rfl rfl rfl in_Sm f_Sm_27 ?_
            refine x_iload_n d_Sm_driveAir_128 rfl rfl ?_
            refine x_bipush (8) d_Sm_driveAir_129 rfl ⟨by decide, by decide⟩ ?_
            refine x_imulN d_Sm_driveAir_131 (by omega) (by omega) ?_
            refine x_iload_n d_Sm_driveAir_132 rfl rfl ?_
            refine x_iaddN d_Sm_driveAir_133 (by omega) (by omega) ?_
            refine x_ialdN (8 * m + f) d_Sm_driveAir_134 rfl (by omega) (by omega) ?_
            rw [et, ht f hf]
            refine x_imulN d_Sm_driveAir_135 (by omega) (by omega) ?_
            refine x_iaddN d_Sm_driveAir_136 (by omega) (by omega) ?_
            refine x_iastN (12 * m + w) d_Sm_driveAir_137 rfl (by omega) (by omega) ?_
            refine x_iincN d_Sm_driveAir_138 rfl (by decide) (by omega) (by omega) ?_
            dsimp only [x_st1, x_st2, x_kill, List.set, List.getElem?_cons_zero, List.getElem?_cons_succ]
            refine x_goto (49) d_Sm_driveAir_141 (by decide) ?_
            exact k _
  have first : x_A y_Sm_driveAir 7 [some oSm, some (xI (m : Int)), some (xI ((m : Int) * 12)), some (xI ((0 : Nat) : Int)), none] [] (S0, aG G m 0 (fun w => h.1 1 w 4)) 0 0 Q := by
    refine x_up_to (P := fun i => x_A y_Sm_driveAir 7 [some oSm, some (xI (m : Int)), some (xI ((m : Int) * 12)), some (xI (i : Int)), none] [] (S0, aG G m i (fun w => h.1 1 w 4)) 0 0 Q) 0 (h.2 1) (Nat.zero_le _) ?_ (fun i _ hi k => ?_)
    · have r2 := aG_rep r m (h.2 1) (fun w => h.1 1 w 4)
      refine x_iload_n d_Sm_driveAir_7 rfl rfl ?_
      refine x_aload_n d_Sm_driveAir_8 rfl rfl ?_
      refine x_getF (kf := 0) d_Sm_driveAir_9 rfl rfl rfl in_Sm f_Sm_46 ?_
      refine x_getF (kf := 1) d_Sm_driveAir_12 rfl rfl rfl in_Ho f_Sm_139 ?_
      refine x_V1 d_Sm_driveAir_15 e_Sm_driveAir_Ta_size ⟨rfl, rfl, Nat.zero_le _, Nat.zero_le _⟩ rfl rfl rfl rfl (Nat.le_of_ble_eq_true rfl) (k_size r2 1 (by decide)) ?_
      refine x_icmp_ge (47) d_Sm_driveAir_18 (by decide) (fun g => ?_) (fun g => ?_)
      · refine x_iconst (0) d_Sm_driveAir_47 rfl ⟨by decide, by decide⟩ ?_
        refine x_istore_n d_Sm_driveAir_48 rfl (by decide) ?_
        dsimp only [x_st1, x_st2, x_kill, List.set, List.getElem?_cons_zero, List.getElem?_cons_succ]
        exact second 0 (Nat.zero_le _) none
      · omega
    · have r2 := aG_rep r m i (fun w => h.1 1 w 4)
      have bw := hh.2.2.1 i hi
      refine x_iload_n d_Sm_driveAir_7 rfl rfl ?_
      refine x_aload_n d_Sm_driveAir_8 rfl rfl ?_
      refine x_getF (kf := 0) d_Sm_driveAir_9 rfl rfl rfl in_Sm f_Sm_46 ?_
      refine x_getF (kf := 1) d_Sm_driveAir_12 rfl rfl rfl in_Ho f_Sm_139 ?_
      refine x_V1 d_Sm_driveAir_15 e_Sm_driveAir_Ta_size ⟨rfl, rfl, Nat.zero_le _, Nat.zero_le _⟩ rfl rfl rfl rfl (Nat.le_of_ble_eq_true rfl) (k_size r2 1 (by decide)) ?_
      refine x_icmp_ge (47) d_Sm_driveAir_18 (by decide) (fun g => ?_) (fun g => ?_)
      · omega
      · refine x_aload_n d_Sm_driveAir_21 rfl rfl ?_
        refine x_getF (kf := 4) d_Sm_driveAir_22 rfl rfl rfl in_Sm f_Sm_18 ?_
        refine x_iload_n d_Sm_driveAir_25 rfl rfl ?_
        refine x_iload_n d_Sm_driveAir_26 rfl rfl ?_
        refine x_iaddN d_Sm_driveAir_27 (by omega) (by omega) ?_
        refine x_aload_n d_Sm_driveAir_28 rfl rfl ?_
        refine x_getF (kf := 0) d_Sm_driveAir_29 rfl rfl rfl in_Sm f_Sm_46 ?_
        refine x_getF (kf := 1) d_Sm_driveAir_32 rfl rfl rfl in_Ho f_Sm_139 ?_
        refine x_iload_n d_Sm_driveAir_35 rfl rfl ?_
        refine x_iconst (4) d_Sm_driveAir_36 rfl ⟨by decide, by decide⟩ ?_
        refine x_V1 d_Sm_driveAir_37 e_Sm_driveAir_Ta_at ⟨rfl, rfl, Nat.zero_le _, Nat.zero_le _⟩ rfl rfl rfl rfl (Nat.le_of_ble_eq_true rfl) (k_at hh r2 1 i 4 (by decide) hi (by decide) rfl rfl) ?_
        refine x_iastN (12 * m + i) d_Sm_driveAir_40 rfl (by omega) (by omega) ?_
        rw [aG_up (Nat.le_refl _), if_pos rfl, aG_cg (val' := fun w => h.1 1 w 4) (fun x hx => by by_cases q : x = i <;> simp [q])]
        refine x_iincN d_Sm_driveAir_41 rfl (by decide) (by omega) (by omega) ?_
        dsimp only [x_st1, x_st2, x_kill, List.set, List.getElem?_cons_zero, List.getElem?_cons_succ]
        refine x_goto (7) d_Sm_driveAir_44 (by decide) ?_
        exact k
  rw [show aG G m 0 (fun w => h.1 1 w 4) = G from by funext a b; unfold aG; rw [if_neg (by omega)]] at first
  exact first
end CA
