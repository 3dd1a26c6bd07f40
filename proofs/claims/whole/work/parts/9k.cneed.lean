/-! the class's face: what a call needs -/
abbrev E_IA : String := "java/lang/IllegalArgumentException"
abbrev E_NS : String := "java/util/NoSuchElementException"
abbrev E_IS : String := "java/lang/IllegalStateException"
abbrev E_IB : String := "java/lang/IndexOutOfBoundsException"
theorem tk_in {w : Cond} (h : w ∈ tables_1 ∧ goodWord w = true) : w ∈ x_tbl := List.mem_filter.mpr ⟨List.mem_append_right _ h.1, h.2⟩
theorem tw_IA : ∀ w ∈ vx_atS "SmokeTubes" 100 E_IA ["java/lang/RuntimeException", "java/lang/Exception"], (w ∈ tables_1 ∧ goodWord w = true) ∨ w ∈ x_nw := by decide +kernel
theorem tv_IA : ∀ w ∈ Cond.classLink "SmokeTubes" 96 E_IA :: Cond.initialized E_IA :: vx_atS "SmokeTubes" 100 E_IA ["java/lang/RuntimeException", "java/lang/Exception"], vx_ot w = true := by decide +kernel
theorem tu_IA : Bundle.fit E_IA = true ∧ (Cond.classLink "SmokeTubes" 96 E_IA ∈ tables_1 ∧ goodWord (Cond.classLink "SmokeTubes" 96 E_IA) = true) ∧ (Cond.initialized E_IA ∈ tables_1 ∧ goodWord (Cond.initialized E_IA) = true) := by decide +kernel
theorem tk_307 : x_okT "SmokeTubes" 96 307 100 E_IA "it can't be so" := ⟨tu_IA.1, tk_in tu_IA.2.1, tk_in tu_IA.2.2, by decide +kernel, fun w h => (tw_IA w h).imp (fun z => tk_in z) (fun z => z), tv_IA⟩
theorem tk_98 : x_okT "SmokeTubes" 96 98 100 E_IA "a way joins two pieces" := ⟨tu_IA.1, tk_in tu_IA.2.1, tk_in tu_IA.2.2, by decide +kernel, fun w h => (tw_IA w h).imp (fun z => tk_in z) (fun z => z), tv_IA⟩
theorem tk_211 : x_okT "SmokeTubes" 96 211 100 E_IA "no such fires" := ⟨tu_IA.1, tk_in tu_IA.2.1, tk_in tu_IA.2.2, by decide +kernel, fun w h => (tw_IA w h).imp (fun z => tk_in z) (fun z => z), tv_IA⟩
theorem tw_IS : ∀ w ∈ vx_atS "SmokeTubes" 323 E_IS ["java/lang/RuntimeException", "java/lang/Exception"], (w ∈ tables_1 ∧ goodWord w = true) ∨ w ∈ x_nw := by decide +kernel
theorem tv_IS : ∀ w ∈ Cond.classLink "SmokeTubes" 319 E_IS :: Cond.initialized E_IS :: vx_atS "SmokeTubes" 323 E_IS ["java/lang/RuntimeException", "java/lang/Exception"], vx_ot w = true := by decide +kernel
theorem tu_IS : Bundle.fit E_IS = true ∧ (Cond.classLink "SmokeTubes" 319 E_IS ∈ tables_1 ∧ goodWord (Cond.classLink "SmokeTubes" 319 E_IS) = true) ∧ (Cond.initialized E_IS ∈ tables_1 ∧ goodWord (Cond.initialized E_IS) = true) := by decide +kernel
theorem tk_321 : x_okT "SmokeTubes" 319 321 323 E_IS "there are no fires" := ⟨tu_IS.1, tk_in tu_IS.2.1, tk_in tu_IS.2.2, by decide +kernel, fun w h => (tw_IS w h).imp (fun z => tk_in z) (fun z => z), tv_IS⟩
theorem tk_327 : x_okT "SmokeTubes" 319 327 323 E_IS "the row is missing" := ⟨tu_IS.1, tk_in tu_IS.2.1, tk_in tu_IS.2.2, by decide +kernel, fun w h => (tw_IS w h).imp (fun z => tk_in z) (fun z => z), tv_IS⟩
theorem tw_IB : ∀ w ∈ vx_atS "SmokeTubes" 288 E_IB ["java/lang/RuntimeException", "java/lang/Exception"], (w ∈ tables_1 ∧ goodWord w = true) ∨ w ∈ x_nw := by decide +kernel
theorem tv_IB : ∀ w ∈ Cond.classLink "SmokeTubes" 284 E_IB :: Cond.initialized E_IB :: vx_atS "SmokeTubes" 288 E_IB ["java/lang/RuntimeException", "java/lang/Exception"], vx_ot w = true := by decide +kernel
theorem tu_IB : Bundle.fit E_IB = true ∧ (Cond.classLink "SmokeTubes" 284 E_IB ∈ tables_1 ∧ goodWord (Cond.classLink "SmokeTubes" 284 E_IB) = true) ∧ (Cond.initialized E_IB ∈ tables_1 ∧ goodWord (Cond.initialized E_IB) = true) := by decide +kernel
theorem tk_329 : x_okT "SmokeTubes" 284 329 288 E_IB "the row ends too early" := ⟨tu_IB.1, tk_in tu_IB.2.1, tk_in tu_IB.2.2, by decide +kernel, fun w h => (tw_IB w h).imp (fun z => tk_in z) (fun z => z), tv_IB⟩
theorem tk_286 : x_okT "SmokeTubes" 284 286 288 E_IB "the row has no such place" := ⟨tu_IB.1, tk_in tu_IB.2.1, tk_in tu_IB.2.2, by decide +kernel, fun w h => (tw_IB w h).imp (fun z => tk_in z) (fun z => z), tv_IB⟩
theorem tw_NS : ∀ w ∈ xn_w "SmokeTubes" 316 E_NS 13 prog_25_method_4_code, (w ∈ tables_1 ∧ goodWord w = true) ∨ w ∈ x_nw := by decide +kernel
theorem tv_NS : ∀ w ∈ Cond.classLink "SmokeTubes" 312 E_NS :: Cond.initialized E_NS :: (vx_atS "SmokeTubes" 323 E_IS ["java/lang/RuntimeException", "java/lang/Exception"] ++ xn_w "SmokeTubes" 316 E_NS 13 prog_25_method_4_code), vx_ot w = true := by decide +kernel
theorem tu_NS : Bundle.fit E_NS = true ∧ (Cond.classLink "SmokeTubes" 312 E_NS ∈ tables_1 ∧ goodWord (Cond.classLink "SmokeTubes" 312 E_NS) = true) ∧ (Cond.initialized E_NS ∈ tables_1 ∧ goodWord (Cond.initialized E_NS) = true) := by decide +kernel
theorem tx_NS : decode prog_25_method_4_code 0 = .ok (.aload_n 0, 1) ∧ decode prog_25_method_4_code 1 = .ok (.aload_n 1, 1) ∧ decode prog_25_method_4_code 2 = .ok (.invokespecial 13, 3) ∧ decode prog_25_method_4_code 5 = .ok (.return_, 1) := ⟨by decide +kernel, by decide +kernel, by decide +kernel, by decide +kernel⟩
theorem tn_314 : x_okN "SmokeTubes" 312 314 316 E_NS "there is no such one" 13 prog_25_method_4_code 323 E_IS := ⟨tu_NS.1, tk_in tu_NS.2.1, tk_in tu_NS.2.2, by decide +kernel, fun w h => (tw_IS w h).imp (fun z => tk_in z) (fun z => z), fun w h => (tw_NS w h).imp (fun z => tk_in z) (fun z => z), tv_NS, tx_NS⟩
theorem tn_317 : x_okN "SmokeTubes" 312 317 316 E_NS "no such row" 13 prog_25_method_4_code 323 E_IS := ⟨tu_NS.1, tk_in tu_NS.2.1, tk_in tu_NS.2.2, by decide +kernel, fun w h => (tw_IS w h).imp (fun z => tk_in z) (fun z => z), fun w h => (tw_NS w h).imp (fun z => tk_in z) (fun z => z), tv_NS, tx_NS⟩
theorem x_need.yes {ok : Prop} {E : String} {σ : XM} (h : ok) : x_need ok E σ (.inl none) σ := ⟨rfl, Or.inl ⟨h, rfl⟩⟩
theorem x_need.no {ok : Prop} {E : String} {σ : XM} (h : ¬ ok) : x_need ok E σ (.inr E) σ := ⟨rfl, Or.inr ⟨h, rfl⟩⟩
abbrev oFa : XV := xR (some o_F)
section CNe
variable {h : HH} {G : Nat → Nat → Int}
theorem n_within (σ : XM) (v a b : Int) : x_M y_F_needWithin [xI v, xI a, xI b] σ (x_need (a ≤ v ∧ v ≤ b) E_IA σ) := by
  refine x_of 0 rfl (Nat.le_of_ble_eq_true rfl) ?_
  show x_A y_F_needWithin 0 [some (xI v), some (xI a), some (xI b)] [] σ 0 0 _
  have no : ¬ (a ≤ v ∧ v ≤ b) → x_A y_F_needWithin 10 [some (xI v), some (xI a), some (xI b)] [] σ 0 0 (x_need (a ≤ v ∧ v ≤ b) E_IA σ) := by
    intro z
    refine x_throwW rfl tk_307 rfl d_F_needWithin_10 d_F_needWithin_13 d_F_needWithin_14 d_F_needWithin_17 d_F_needWithin_20 (Nat.le_of_ble_eq_true rfl) (Nat.le_of_ble_eq_true rfl) (Nat.le_of_ble_eq_true rfl) (Nat.le_of_ble_eq_true rfl) ?_
    exact x_need.no z
  refine x_iload_n d_F_needWithin_0 rfl rfl ?_
  refine x_iload_n d_F_needWithin_1 rfl rfl ?_
  refine x_icmp_lt (10) d_F_needWithin_2 (by decide) (fun c1 => ?_) (fun c1 => ?_)
  · exact no (by omega)
  · refine x_iload_n d_F_needWithin_5 rfl rfl ?_
    refine x_iload_n d_F_needWithin_6 rfl rfl ?_
    refine x_icmp_le (21) d_F_needWithin_7 (by decide) (fun c2 => ?_) (fun c2 => ?_)
    · refine x_return d_F_needWithin_21 rfl ?_ (Nat.le_of_ble_eq_true rfl) (Nat.le_of_ble_eq_true rfl)
      exact x_need.yes (by omega)
    · exact no (by omega)
theorem n_minute (σ : XM) (v : Int) : x_M y_F_needMinute [xI v] σ (x_need (0 ≤ v ∧ v ≤ 20) E_IA σ) := by
  refine x_of 0 rfl (Nat.le_of_ble_eq_true rfl) ?_
  show x_A y_F_needMinute 0 [some (xI v)] [] σ 0 0 _
  refine x_iload_n d_F_needMinute_0 rfl rfl ?_
  refine x_iconst (0) d_F_needMinute_1 rfl ⟨by decide, by decide⟩ ?_
  refine x_bipush (20) d_F_needMinute_2 rfl ⟨by decide, by decide⟩ ?_
  refine x_nS d_F_needMinute_4 e_F_needMinute_F_needWithin rfl rfl (Nat.le_of_ble_eq_true rfl) (Nat.le_of_ble_eq_true rfl) rfl rfl (Nat.le_of_ble_eq_true rfl) (n_within σ v 0 20) (fun q => x_need.no q) (fun q => ?_)
  refine x_return d_F_needMinute_7 rfl ?_ (Nat.le_of_ble_eq_true rfl) (Nat.le_of_ble_eq_true rfl)
  exact x_need.yes q
theorem n_plan (σ : XM) (v : Int) : x_M y_F_needPlan [xI v] σ (x_need (0 ≤ v ∧ v ≤ 3) E_IA σ) := by
  refine x_of 0 rfl (Nat.le_of_ble_eq_true rfl) ?_
  show x_A y_F_needPlan 0 [some (xI v)] [] σ 0 0 _
  refine x_iload_n d_F_needPlan_0 rfl rfl ?_
  refine x_iconst (0) d_F_needPlan_1 rfl ⟨by decide, by decide⟩ ?_
  refine x_iconst (3) d_F_needPlan_2 rfl ⟨by decide, by decide⟩ ?_
  refine x_nS d_F_needPlan_3 e_F_needPlan_F_needWithin rfl rfl (Nat.le_of_ble_eq_true rfl) (Nat.le_of_ble_eq_true rfl) rfl rfl (Nat.le_of_ble_eq_true rfl) (n_within σ v 0 3) (fun q => x_need.no q) (fun q => ?_)
  refine x_return d_F_needPlan_6 rfl ?_ (Nat.le_of_ble_eq_true rfl) (Nat.le_of_ble_eq_true rfl)
  exact x_need.yes q
theorem n_course (σ : XM) (a b k : Int) : x_M y_F_needCourse [xI a, xI b, xI k] σ (x_need ((0 ≤ a ∧ a ≤ 3) ∧ (0 ≤ b ∧ b ≤ 3) ∧ (0 ≤ k ∧ k ≤ 21)) E_IA σ) := by
  refine x_of 0 rfl (Nat.le_of_ble_eq_true rfl) ?_
  show x_A y_F_needCourse 0 [some (xI a), some (xI b), some (xI k)] [] σ 0 0 _
  refine x_iload_n d_F_needCourse_0 rfl rfl ?_
  refine x_nS d_F_needCourse_1 e_F_needCourse_F_needPlan rfl rfl (Nat.le_of_ble_eq_true rfl) (Nat.le_of_ble_eq_true rfl) rfl rfl (Nat.le_of_ble_eq_true rfl) (n_plan σ a) (fun q1 => x_need.no (fun z => q1 z.1)) (fun q1 => ?_)
  refine x_iload_n d_F_needCourse_4 rfl rfl ?_
  refine x_nS d_F_needCourse_5 e_F_needCourse_F_needPlan rfl rfl (Nat.le_of_ble_eq_true rfl) (Nat.le_of_ble_eq_true rfl) rfl rfl (Nat.le_of_ble_eq_true rfl) (n_plan σ b) (fun q2 => x_need.no (fun z => q2 z.2.1)) (fun q2 => ?_)
  refine x_iload_n d_F_needCourse_8 rfl rfl ?_
  refine x_iconst (0) d_F_needCourse_9 rfl ⟨by decide, by decide⟩ ?_
  refine x_bipush (21) d_F_needCourse_10 rfl ⟨by decide, by decide⟩ ?_
  refine x_nS d_F_needCourse_12 e_F_needCourse_F_needWithin rfl rfl (Nat.le_of_ble_eq_true rfl) (Nat.le_of_ble_eq_true rfl) rfl rfl (Nat.le_of_ble_eq_true rfl) (n_within σ k 0 21) (fun q3 => x_need.no (fun z => q3 z.2.2)) (fun q3 => ?_)
  refine x_return d_F_needCourse_15 rfl ?_ (Nat.le_of_ble_eq_true rfl) (Nat.le_of_ble_eq_true rfl)
  exact x_need.yes ⟨q1, q2, q3⟩
theorem n_row (r : fRep h G) (T : Nat) (hT : T < 10) (a : Int) : x_M y_F_needRow [xR (some (6 + 2 * T)), xI a] (S0, G) (x_need (0 ≤ a ∧ a < h.2 T) E_NS (S0, G)) := by
  refine x_of 0 rfl (Nat.le_of_ble_eq_true rfl) ?_
  show x_A y_F_needRow 0 [some (xR (some (6 + 2 * T))), some (xI a)] [] (S0, G) 0 0 _
  have hS0 := (isTab_of hT).1
  refine x_aload_n d_F_needRow_0 rfl rfl ?_
  refine x_iload_n d_F_needRow_1 rfl rfl ?_
  refine x_V1 d_F_needRow_2 e_F_needRow_Ta_has ⟨rfl, rfl, Nat.le_of_ble_eq_true rfl, Nat.le_of_ble_eq_true rfl⟩ hS0 rfl rfl rfl (Nat.le_of_ble_eq_true rfl) (k_has r T hT a) ?_
  refine x_if_ne (19) d_F_needRow_5 (by decide) (fun c1 => ?_) (fun c1 => ?_)
  · refine x_return d_F_needRow_19 rfl ?_ (Nat.le_of_ble_eq_true rfl) (Nat.le_of_ble_eq_true rfl)
    refine x_need.yes ?_
    by_cases z : 0 ≤ a ∧ a < h.2 T
    · exact z
    · rw [decide_eq_false z] at c1
      exact absurd rfl c1
  · refine x_throwN rfl tn_314 rfl d_F_needRow_8 d_F_needRow_11 d_F_needRow_12 d_F_needRow_15 d_F_needRow_18 (Nat.le_of_ble_eq_true rfl) (Nat.le_of_ble_eq_true rfl) (Nat.le_of_ble_eq_true rfl) (Nat.le_of_ble_eq_true rfl) ?_
    refine x_need.no (fun z => ?_)
    rw [decide_eq_true z] at c1
    exact absurd c1 (by decide)
theorem n_rowNumber (σ : XM) (v : Int) : x_M y_F_needRowNumber [xI v] σ (x_need (0 ≤ v ∧ v ≤ 3) E_NS σ) := by
  refine x_of 0 rfl (Nat.le_of_ble_eq_true rfl) ?_
  show x_A y_F_needRowNumber 0 [some (xI v)] [] σ 0 0 _
  have no : ¬ (0 ≤ v ∧ v ≤ 3) → x_A y_F_needRowNumber 9 [some (xI v)] [] σ 0 0 (x_need (0 ≤ v ∧ v ≤ 3) E_NS σ) := by
    intro z
    refine x_throwN rfl tn_317 rfl d_F_needRowNumber_9 d_F_needRowNumber_12 d_F_needRowNumber_13 d_F_needRowNumber_16 d_F_needRowNumber_19 (Nat.le_of_ble_eq_true rfl) (Nat.le_of_ble_eq_true rfl) (Nat.le_of_ble_eq_true rfl) (Nat.le_of_ble_eq_true rfl) ?_
    exact x_need.no z
  refine x_iload_n d_F_needRowNumber_0 rfl rfl ?_
  refine x_if_lt (9) d_F_needRowNumber_1 (by decide) (fun c1 => ?_) (fun c1 => ?_)
  · exact no (by omega)
  · refine x_iload_n d_F_needRowNumber_4 rfl rfl ?_
    refine x_iconst (4) d_F_needRowNumber_5 rfl ⟨by decide, by decide⟩ ?_
    refine x_icmp_lt (20) d_F_needRowNumber_6 (by decide) (fun c2 => ?_) (fun c2 => ?_)
    · refine x_return d_F_needRowNumber_20 rfl ?_ (Nat.le_of_ble_eq_true rfl) (Nat.le_of_ble_eq_true rfl)
      exact x_need.yes (by omega)
    · exact no (by omega)
theorem n_fire (r : fRep h G) (f : Int) : x_M y_F_needFireOrNone [oFa, xI f] (S0, G) (x_need (-1 ≤ f ∧ f < h.2 2) E_NS (S0, G)) := by
  refine x_of 0 rfl (Nat.le_of_ble_eq_true rfl) ?_
  show x_A y_F_needFireOrNone 0 [some oFa, some (xI f)] [] (S0, G) 0 0 _
  refine x_iload_n d_F_needFireOrNone_0 rfl rfl ?_
  refine x_iconst (-1) d_F_needFireOrNone_1 rfl ⟨by decide, by decide⟩ ?_
  refine x_icmp_eq (16) d_F_needFireOrNone_2 (by decide) (fun c1 => ?_) (fun c1 => ?_)
  · refine x_return d_F_needFireOrNone_16 rfl ?_ (Nat.le_of_ble_eq_true rfl) (Nat.le_of_ble_eq_true rfl)
    exact x_need.yes (by omega)
  · refine x_aload_n d_F_needFireOrNone_5 rfl rfl ?_
    refine x_getF (kf := 1) d_F_needFireOrNone_6 rfl rfl rfl in_F f_F_21 ?_
    refine x_getF (kf := 2) d_F_needFireOrNone_9 rfl rfl rfl in_Ho f_F_115 ?_
    refine x_iload_n d_F_needFireOrNone_12 rfl rfl ?_
    refine x_nS d_F_needFireOrNone_13 e_F_needFireOrNone_F_needRow rfl rfl (Nat.le_of_ble_eq_true rfl) (Nat.le_of_ble_eq_true rfl) rfl rfl (Nat.le_of_ble_eq_true rfl) (n_row r 2 (by decide) f) (fun q => x_need.no (fun z => q (by omega))) (fun q => ?_)
    refine x_return d_F_needFireOrNone_16 rfl ?_ (Nat.le_of_ble_eq_true rfl) (Nat.le_of_ble_eq_true rfl)
    exact x_need.yes (by omega)
theorem n_person (r : fRep h G) (f p : Int) : x_M y_F_needPerson [oFa, xI f, xI p] (S0, G) (x_need ((-1 ≤ f ∧ f < h.2 2) ∧ (0 ≤ p ∧ p < h.2 0)) E_NS (S0, G)) := by
  refine x_of 0 rfl (Nat.le_of_ble_eq_true rfl) ?_
  show x_A y_F_needPerson 0 [some oFa, some (xI f), some (xI p)] [] (S0, G) 0 0 _
  refine x_aload_n d_F_needPerson_0 rfl rfl ?_
  refine x_iload_n d_F_needPerson_1 rfl rfl ?_
  refine x_nV d_F_needPerson_2 e_F_needPerson_F_needFireOrNone rfl rfl (Nat.le_of_ble_eq_true rfl) (Nat.le_of_ble_eq_true rfl) rfl rfl rfl rfl (Nat.le_of_ble_eq_true rfl) (n_fire r f) (fun q1 => x_need.no (fun z => q1 z.1)) (fun q1 => ?_)
  refine x_aload_n d_F_needPerson_5 rfl rfl ?_
  refine x_getF (kf := 1) d_F_needPerson_6 rfl rfl rfl in_F f_F_21 ?_
  refine x_getF (kf := 0) d_F_needPerson_9 rfl rfl rfl in_Ho f_F_84 ?_
  refine x_iload_n d_F_needPerson_12 rfl rfl ?_
  refine x_nS d_F_needPerson_13 e_F_needPerson_F_needRow rfl rfl (Nat.le_of_ble_eq_true rfl) (Nat.le_of_ble_eq_true rfl) rfl rfl (Nat.le_of_ble_eq_true rfl) (n_row r 0 (by decide) p) (fun q2 => x_need.no (fun z => q2 z.2)) (fun q2 => ?_)
  refine x_return d_F_needPerson_16 rfl ?_ (Nat.le_of_ble_eq_true rfl) (Nat.le_of_ble_eq_true rfl)
  exact x_need.yes ⟨q1, q2⟩
theorem n_pieceSet (hh : Hwf h) (r : fRep h G) (s : Int) : x_M y_F_needPieceSet [oFa, xI s] (S0, G) (x_need (0 ≤ s ∧ s ≤ ((2 ^ h.2 0 : Nat) : Int) - 1) E_IA (S0, G)) := by
  have b := hh.1
  have p8 := p8_le b.1
  refine x_of 0 rfl (Nat.le_of_ble_eq_true rfl) ?_
  show x_A y_F_needPieceSet 0 [some oFa, some (xI s)] [] (S0, G) 0 0 _
  refine x_iload_n d_F_needPieceSet_0 rfl rfl ?_
  refine x_iconst (0) d_F_needPieceSet_1 rfl ⟨by decide, by decide⟩ ?_
  refine x_iconst (1) d_F_needPieceSet_2 rfl ⟨by decide, by decide⟩ ?_
  refine x_aload_n d_F_needPieceSet_3 rfl rfl ?_
  refine x_getF (kf := 1) d_F_needPieceSet_4 rfl rfl rfl in_F f_F_21 ?_
  refine x_getF (kf := 0) d_F_needPieceSet_7 rfl rfl rfl in_Ho f_F_84 ?_
  refine x_V1 d_F_needPieceSet_10 e_F_needPieceSet_Ta_size ⟨rfl, rfl, Nat.le_of_ble_eq_true rfl, Nat.le_of_ble_eq_true rfl⟩ rfl rfl rfl rfl (Nat.le_of_ble_eq_true rfl) (k_size r 0 (by decide)) ?_
  refine x_ishl d_F_needPieceSet_13 ?_
  refine x_iconst (1) d_F_needPieceSet_14 rfl ⟨by decide, by decide⟩ ?_
  rw [x_shl_p8 b.1]
  refine x_isubN d_F_needPieceSet_15 (by omega) (by omega) ?_
  refine x_nS d_F_needPieceSet_16 e_F_needPieceSet_F_needWithin rfl rfl (Nat.le_of_ble_eq_true rfl) (Nat.le_of_ble_eq_true rfl) rfl rfl (Nat.le_of_ble_eq_true rfl) (n_within _ s 0 (((2 ^ h.2 0 : Nat) : Int) - 1)) (fun q => x_need.no q) (fun q => ?_)
  refine x_return d_F_needPieceSet_19 rfl ?_ (Nat.le_of_ble_eq_true rfl) (Nat.le_of_ble_eq_true rfl)
  exact x_need.yes q
theorem n_someFire (r : fRep h G) : x_M y_F_needSomeFire [oFa] (S0, G) (x_need (((h.2 2 : Nat) : Int) ≠ 0) E_IS (S0, G)) := by
  refine x_of 0 rfl (Nat.le_of_ble_eq_true rfl) ?_
  show x_A y_F_needSomeFire 0 [some oFa] [] (S0, G) 0 0 _
  refine x_aload_n d_F_needSomeFire_0 rfl rfl ?_
  refine x_getF (kf := 1) d_F_needSomeFire_1 rfl rfl rfl in_F f_F_21 ?_
  refine x_getF (kf := 2) d_F_needSomeFire_4 rfl rfl rfl in_Ho f_F_115 ?_
  refine x_V1 d_F_needSomeFire_7 e_F_needSomeFire_Ta_size ⟨rfl, rfl, Nat.le_of_ble_eq_true rfl, Nat.le_of_ble_eq_true rfl⟩ rfl rfl rfl rfl (Nat.le_of_ble_eq_true rfl) (k_size r 2 (by decide)) ?_
  refine x_if_ne (24) d_F_needSomeFire_10 (by decide) (fun c1 => ?_) (fun c1 => ?_)
  · refine x_return d_F_needSomeFire_24 rfl ?_ (Nat.le_of_ble_eq_true rfl) (Nat.le_of_ble_eq_true rfl)
    exact x_need.yes (by omega)
  · refine x_throwW rfl tk_321 rfl d_F_needSomeFire_13 d_F_needSomeFire_16 d_F_needSomeFire_17 d_F_needSomeFire_20 d_F_needSomeFire_23 (Nat.le_of_ble_eq_true rfl) (Nat.le_of_ble_eq_true rfl) (Nat.le_of_ble_eq_true rfl) (Nat.le_of_ble_eq_true rfl) ?_
    exact x_need.no (by omega)
/-- it returns where both hold, else it throws E1 or E2 -/
def x_need2 (ok1 : Prop) (E1 : String) (ok2 : Prop) (E2 : String) (σ0 : XM) : XRes → XM → Prop := fun r τ => τ = σ0 ∧ ((ok1 ∧ ok2 ∧ r = .inl none) ∨ (¬ ok1 ∧ r = .inr E1) ∨ (ok1 ∧ ¬ ok2 ∧ r = .inr E2))
theorem n_places (x : Nat) (hx : x < 4) (many : Int) : x_M y_F_needPlaces [oFa, xI (x : Int), xI many] (S0, G) (x_need2 (xb (G o_Ro 3) x = true) E_IS (many ≤ G ro_lengths x) E_IB (S0, G)) := by
  refine x_of 0 rfl (Nat.le_of_ble_eq_true rfl) ?_
  show x_A y_F_needPlaces 0 [some oFa, some (xI (x : Int)), some (xI many)] [] (S0, G) 0 0 _
  refine x_aload_n d_F_needPlaces_0 rfl rfl ?_
  refine x_getF (kf := 8) d_F_needPlaces_1 rfl rfl rfl in_F f_F_76 ?_
  refine x_iload_n d_F_needPlaces_4 rfl rfl ?_
  refine x_V1 d_F_needPlaces_5 e_F_needPlaces_Ro_isMissing ⟨rfl, rfl, Nat.le_of_ble_eq_true rfl, Nat.le_of_ble_eq_true rfl⟩ rfl rfl rfl rfl (Nat.le_of_ble_eq_true rfl) (c_isMissing x hx) ?_
  refine x_if_eq (22) d_F_needPlaces_8 (by decide) (fun c1 => ?_) (fun c1 => ?_)
  · have e1 : xb (G o_Ro 3) x = true := by
      cases e : xb (G o_Ro 3) x with
      | true => rfl
      | false => rw [e] at c1; exact absurd c1 (by decide)
    refine x_aload_n d_F_needPlaces_22 rfl rfl ?_
    refine x_getF (kf := 8) d_F_needPlaces_23 rfl rfl rfl in_F f_F_76 ?_
    refine x_iload_n d_F_needPlaces_26 rfl rfl ?_
    refine x_V1 d_F_needPlaces_27 e_F_needPlaces_Ro_lengthOf ⟨rfl, rfl, Nat.le_of_ble_eq_true rfl, Nat.le_of_ble_eq_true rfl⟩ rfl rfl rfl rfl (Nat.le_of_ble_eq_true rfl) (c_lengthOf x hx) ?_
    refine x_iload_n d_F_needPlaces_30 rfl rfl ?_
    refine x_icmp_ge (45) d_F_needPlaces_31 (by decide) (fun c2 => ?_) (fun c2 => ?_)
    · refine x_return d_F_needPlaces_45 rfl ?_ (Nat.le_of_ble_eq_true rfl) (Nat.le_of_ble_eq_true rfl)
      exact ⟨rfl, Or.inl ⟨e1, by omega, rfl⟩⟩
    · refine x_throwW rfl tk_329 rfl d_F_needPlaces_34 d_F_needPlaces_37 d_F_needPlaces_38 d_F_needPlaces_41 d_F_needPlaces_44 (Nat.le_of_ble_eq_true rfl) (Nat.le_of_ble_eq_true rfl) (Nat.le_of_ble_eq_true rfl) (Nat.le_of_ble_eq_true rfl) ?_
      exact ⟨rfl, Or.inr (Or.inr ⟨e1, by omega, rfl⟩)⟩
  · refine x_throwW rfl tk_327 rfl d_F_needPlaces_11 d_F_needPlaces_14 d_F_needPlaces_15 d_F_needPlaces_18 d_F_needPlaces_21 (Nat.le_of_ble_eq_true rfl) (Nat.le_of_ble_eq_true rfl) (Nat.le_of_ble_eq_true rfl) (Nat.le_of_ble_eq_true rfl) ?_
    refine ⟨rfl, Or.inr (Or.inl ⟨fun e => ?_, rfl⟩)⟩
    rw [e] at c1
    exact absurd rfl c1
end CNe
section XN
variable {y y' : XY} {pc : Nat} {lv : List (Option XV)} {st stk as : List XV} {σ : XM} {kc ks : Nat} {Q : XRes → XM → Prop}
theorem x_nV2 {i ci N index n kc' ks' : Nat} {fin : List (Option XV)} {T : u_T} {ok1 ok2 : Prop} {E1 E2 : String} (d : decode y.2.1 pc = .ok (.invokevirtual index, 3)) (he : x_edgeV y y' index n) (hkc : kc + y'.2.2.2.2.cells = kc') (hks : ks + y'.2.2.2.2.slots = ks') (hc : kc' ≤ y.2.2.2.2.cells) (hs : ks' ≤ y.2.2.2.2.slots) (hS : σ.1[i]? = some (.inl (ci, fin))) (hcl : vwCl[ci]? = some (y'.1.cls, T, N)) (hst : stk = as.reverse ++ xR (some i) :: st) (hn : as.length = n) (hst8 : x_words st ≤ 8) (hM : x_M y' (xR (some i) :: as) σ (x_need2 ok1 E1 ok2 E2 σ))
    (kx1 : ¬ ok1 → Q (.inr E1) σ) (kx2 : ok1 → ¬ ok2 → Q (.inr E2) σ) (k : ok1 → ok2 → x_A y (pc + 3) lv st σ kc' ks' Q) : x_A y pc lv stk σ kc ks Q := by
  subst hkc hks
  refine x_callV d he hS hcl hM hst hn hst8 hc hs (fun v τ h => ?_) (fun E' τ h => ?_)
  · obtain ⟨rfl, ⟨h1, h2, h3⟩ | ⟨h1, h2⟩ | ⟨h1, h2, h3⟩⟩ := h
    · cases h3
      exact k h1 h2
    · cases h2
    · cases h3
  · obtain ⟨rfl, ⟨h1, h2, h3⟩ | ⟨h1, h2⟩ | ⟨h1, h2, h3⟩⟩ := h
    · cases h3
    · cases h2
      exact kx1 h1
    · cases h3
      exact kx2 h1 h2
end XN
