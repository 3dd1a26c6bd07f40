/-! the class: acts on rows -/
section CAc2
variable {G : Nat → Nat → Int} {t q L ol dn : Nat}
def tFree (t q : Nat) : Prop := (t ≠ o_Ac ∧ t ≠ ac_tables ∧ t ≠ ac_changed ∧ t ≠ ac_kept) ∧ (q ≠ o_Ac ∧ q ≠ ac_tables ∧ q ≠ ac_changed ∧ q ≠ ac_kept)
theorem tFree_of {T : Nat} : tFree (6 + 2 * T) (7 + 2 * T) := by
  unfold tFree o_Ac ac_tables ac_changed ac_kept
  omega
def mAdd (t : Nat) (ol dn : Nat) (G : Nat → Nat → Int) : Option XV → XM → Prop := fun v τ => v = none ∧ ∃ s G1, mNew' G G1 t (-1) (olN ol dn) (dnN dn) s ∧ τ = (S0, up G1 t 2 (G t 2 + 1))
theorem c_adding (ht : isTab t q L) (hf : tFree t q) (hG : 0 ≤ G t 2 ∧ G t 2 < L) (h1 : G o_Ac 3 = ol) (h2 : ol < 100) (h3 : G o_Ac 4 = dn) (h4 : dn ≤ 100) (h5 : 0 ≤ G o_Ac 6 ∧ G o_Ac 6 ≤ 100000) : x_M y_Ac_adding [oAc, xR (some t)] (S0, G) (fun r τ => ∃ v, r = .inl v ∧ mAdd t ol dn G v τ) := by
  have t1 := ht.1
  refine x_of 0 rfl (Nat.le_of_ble_eq_true rfl) ?_
  show x_A y_Ac_adding 0 [some oAc, some (xR (some t))] [] (S0, G) 0 0 _
  generalize hQ : (fun (r : XRes) (τ : XM) => ∃ v, r = .inl v ∧ mAdd t ol dn G v τ) = Q
  refine x_aload_n d_Ac_adding_0 rfl rfl ?_
  refine x_aload_n d_Ac_adding_1 rfl rfl ?_
  refine x_iconst (-1) d_Ac_adding_2 rfl ⟨by decide, by decide⟩ ?_
  refine x_VQ d_Ac_adding_3 e_Ac_adding_Ac_newest ⟨rfl, rfl, Nat.zero_le _, Nat.zero_le _⟩ rfl rfl rfl rfl (Nat.le_of_ble_eq_true rfl) (c_newest ht (-1) h1 h2 h3 h4 h5) (fun v τ H => ?_)
  obtain ⟨s, rfl, G1, rfl, n⟩ := H
  have et : G1 t = G t := n.1 t hf.1.1 hf.1.2.1 hf.1.2.2.1
  have cg := c_grow (G := G1) ht (by rw [et]; exact hG)
  rw [et] at cg
  show x_A y_Ac_adding 6 [some oAc, some (xR (some t))] [xI (s : Int)] (S0, G1) 0 0 Q
  refine x_pop d_Ac_adding_6 rfl ?_
  refine x_aload_n d_Ac_adding_7 rfl rfl ?_
  refine x_V0 d_Ac_adding_8 e_Ac_adding_Ta_grow ⟨rfl, rfl, Nat.zero_le _, Nat.zero_le _⟩ t1 rfl rfl rfl (Nat.le_of_ble_eq_true rfl) (cg) ?_
  refine x_return d_Ac_adding_11 rfl ?_ (Nat.zero_le _) (Nat.zero_le _)
  rw [← hQ]
  exact ⟨_, rfl, rfl, s, G1, n, rfl⟩
def mChg (t q : Nat) (r : Nat) (ol dn : Nat) (G : Nat → Nat → Int) : Option XV → XM → Prop := fun v τ => v = none ∧ ∃ s G1, mNew' G G1 t (r : Int) (olN ol dn) (dnN dn) s ∧ τ = (S0, putRow G1 ac_kept s (fun c => G q (6 * r + c)))
theorem c_changing (ht : isTab t q L) (hf : tFree t q) {r : Nat} (hr : r < L) (h1 : G o_Ac 3 = ol) (h2 : ol < 100) (h3 : G o_Ac 4 = dn) (h4 : dn ≤ 100) (h5 : 0 ≤ G o_Ac 6 ∧ G o_Ac 6 ≤ 100000) : x_M y_Ac_changing [oAc, xR (some t), xI (r : Int)] (S0, G) (fun r' τ => ∃ v, r' = .inl v ∧ mChg t q r ol dn G v τ) := by
  have t1 := ht.1
  have t3 := ht.2.2.1
  refine x_of 2 rfl (Nat.le_of_ble_eq_true rfl) ?_
  show x_A y_Ac_changing 0 [some oAc, some (xR (some t)), some (xI (r : Int)), none, none] [] (S0, G) 0 0 _
  generalize hQ : (fun (r' : XRes) (τ : XM) => ∃ v, r' = .inl v ∧ mChg t q r ol dn G v τ) = Q
  refine x_aload_n d_Ac_changing_0 rfl rfl ?_
  refine x_aload_n d_Ac_changing_1 rfl rfl ?_
  refine x_iload_n d_Ac_changing_2 rfl rfl ?_
  refine x_VQ d_Ac_changing_3 e_Ac_changing_Ac_newest ⟨rfl, rfl, Nat.zero_le _, Nat.zero_le _⟩ rfl rfl rfl rfl (Nat.le_of_ble_eq_true rfl) (c_newest ht (r : Int) h1 h2 h3 h4 h5) (fun v τ H => ?_)
  obtain ⟨s, rfl, G1, rfl, n⟩ := H
  have hs : s < 100 := by rw [n.2.2.2.2.2.2.2]; exact Nat.mod_lt _ (by decide)
  have eq : G1 q = G q := n.1 q hf.2.1 hf.2.2.1 hf.2.2.2.1
  show x_A y_Ac_changing 6 [some oAc, some (xR (some t)), some (xI (r : Int)), none, none] [xI (s : Int)] (S0, G1) 0 0 Q
  refine x_istore_n d_Ac_changing_6 rfl (by decide) ?_
  dsimp only [x_st1, x_st2, x_kill, List.set, List.getElem?_cons_zero, List.getElem?_cons_succ]
  refine x_iconst (0) d_Ac_changing_7 rfl ⟨by decide, by decide⟩ ?_
  refine x_istore d_Ac_changing_8 (by decide) ?_
  dsimp only [x_st1, x_st2, x_kill, List.set, List.getElem?_cons_zero, List.getElem?_cons_succ]
  refine x_up_to (P := fun c => ∀ G', (∀ i, i ≠ ac_kept → G' i = G1 i) → (∀ j, G' ac_kept j = if 6 * s ≤ j ∧ j < 6 * s + c then G q (6 * r + (j - 6 * s)) else G1 ac_kept j) → x_A y_Ac_changing 10 [some oAc, some (xR (some t)), some (xI (r : Int)), some (xI (s : Int)), some (xI (c : Int))] [] (S0, G') 0 0 Q) 0 6 (Nat.zero_le _) (fun G' f1 f2 => ?_) (fun c _ hc k G' f1 f2 => ?_) G1 (fun i _ => rfl) (fun j => by rw [if_neg (by omega)])
  · refine x_iload d_Ac_changing_10 rfl ?_
    refine x_bipush (6) d_Ac_changing_12 rfl ⟨by decide, by decide⟩ ?_
    refine x_icmp_ge (42) d_Ac_changing_14 (by decide) (fun g => ?_) (fun g => ?_)
    · refine x_return d_Ac_changing_42 rfl ?_ (Nat.zero_le _) (Nat.zero_le _)
      rw [← hQ]
      refine ⟨_, rfl, rfl, s, G1, n, ?_⟩
      congr 1
      funext i j
      unfold putRow
      by_cases e : i = ac_kept
      · subst e
        rw [f2 j]
        by_cases e2 : 6 * s ≤ j ∧ j < 6 * s + 6
        · rw [if_pos e2, if_pos ⟨rfl, e2⟩]
        · rw [if_neg e2, if_neg (fun z => e2 z.2)]
      · rw [f1 i e, if_neg (fun z => e z.1)]
    · omega
  · have ca := c_at (G := G') ht (r : Int) (c : Int)
    rw [if_pos (by omega), f1 q hf.2.2.2.2, eq, show ((r : Int) * 6 + (c : Int)).toNat = 6 * r + c by omega] at ca
    refine x_iload d_Ac_changing_10 rfl ?_
    refine x_bipush (6) d_Ac_changing_12 rfl ⟨by decide, by decide⟩ ?_
    refine x_icmp_ge (42) d_Ac_changing_14 (by decide) (fun g => ?_) (fun g => ?_)
    · omega
    · refine x_aload_n d_Ac_changing_17 rfl rfl ?_
      refine x_getF (kf := 2) d_Ac_changing_18 rfl rfl rfl in_Ac f_Ac_21 ?_
      refine x_iload_n d_Ac_changing_21 rfl rfl ?_
      refine x_bipush (6) d_Ac_changing_22 rfl ⟨by decide, by decide⟩ ?_
      refine x_imulN d_Ac_changing_24 (by omega) (by omega) ?_
      refine x_iload d_Ac_changing_25 rfl ?_
      refine x_iaddN d_Ac_changing_27 (by omega) (by omega) ?_
      refine x_aload_n d_Ac_changing_28 rfl rfl ?_
      refine x_iload_n d_Ac_changing_29 rfl rfl ?_
      refine x_iload d_Ac_changing_30 rfl ?_
      refine x_V1 d_Ac_changing_32 e_Ac_changing_Ta_at ⟨rfl, rfl, Nat.zero_le _, Nat.zero_le _⟩ t1 rfl rfl rfl (Nat.le_of_ble_eq_true rfl) (ca) ?_
      refine x_iastN ((6 * s + c)) d_Ac_changing_35 rfl (by omega) (by omega) ?_
      refine x_iincN d_Ac_changing_36 rfl (by decide) (by omega) (by omega) ?_
      dsimp only [x_st1, x_st2, x_kill, List.set, List.getElem?_cons_zero, List.getElem?_cons_succ]
      refine x_goto (10) d_Ac_changing_39 (by decide) ?_
      refine k _ (fun i hi => by rw [up_cell hi]; exact f1 i hi) (fun j => ?_)
      by_cases e : j = 6 * s + c
      · subst e
        rw [up_same, if_pos (by omega), show 6 * s + c - 6 * s = c by omega]
      · rw [up_ne e, f2 j]
        by_cases e2 : 6 * s ≤ j ∧ j < 6 * s + c
        · rw [if_pos e2, if_pos (by omega)]
        · rw [if_neg e2, if_neg (by omega)]
def swG (G : Nat → Nat → Int) (q r s : Nat) : Nat → Nat → Int := putRow (putRow G q r (fun c => G ac_kept (6 * s + c))) ac_kept s (fun c => G q (6 * r + c))
theorem c_swap (ht : isTab t q L) (hf : tFree t q) {r s : Nat} (hr : r < L) (hs : s < 100) (hc : G ac_changed s = r) : x_M y_Ac_swap [oAc, xI (s : Int), xR (some t)] (S0, G) (x_is (.inl none) (S0, swG G q r s)) := by
  have t1 := ht.1
  have t3 := ht.2.2.1
  refine x_of 3 rfl (Nat.le_of_ble_eq_true rfl) ?_
  show x_A y_Ac_swap 0 [some oAc, some (xI (s : Int)), some (xR (some t)), none, none, none] [] (S0, G) 0 0 _
  generalize hQ : x_is (.inl none) (S0, swG G q r s) = Q
  have nq := hf.2.2.2.2
  have nc : ac_changed ≠ ac_kept := by decide
  refine x_iconst (0) d_Ac_swap_0 rfl ⟨by decide, by decide⟩ ?_
  refine x_istore_n d_Ac_swap_1 rfl (by decide) ?_
  dsimp only [x_st1, x_st2, x_kill, List.set, List.getElem?_cons_zero, List.getElem?_cons_succ]
  refine x_up_to (P := fun c => ∀ G' z4 z5, (∀ i, i ≠ ac_kept → i ≠ q → G' i = G i) → (∀ j, G' ac_kept j = if 6 * s ≤ j ∧ j < 6 * s + c then G q (6 * r + (j - 6 * s)) else G ac_kept j) → (∀ j, G' q j = if 6 * r ≤ j ∧ j < 6 * r + c then G ac_kept (6 * s + (j - 6 * r)) else G q j) → x_A y_Ac_swap 2 [some oAc, some (xI (s : Int)), some (xR (some t)), some (xI (c : Int)), z4, z5] [] (S0, G') 0 0 Q) 0 6 (Nat.zero_le _) (fun G' z4 z5 f1 f2 f3 => ?_) (fun c _ hc6 k G' z4 z5 f1 f2 f3 => ?_) G none none (fun i _ _ => rfl) (fun j => by rw [if_neg (by omega)]) (fun j => by rw [if_neg (by omega)])
  · refine x_iload_n d_Ac_swap_2 rfl rfl ?_
    refine x_bipush (6) d_Ac_swap_3 rfl ⟨by decide, by decide⟩ ?_
    refine x_icmp_ge (62) d_Ac_swap_5 (by decide) (fun g => ?_) (fun g => ?_)
    · refine x_return d_Ac_swap_62 rfl ?_ (Nat.zero_le _) (Nat.zero_le _)
      rw [← hQ]
      refine ⟨rfl, ?_⟩
      congr 1
      funext i j
      unfold swG putRow
      by_cases e : i = ac_kept
      · subst e
        rw [f2 j]
        by_cases e2 : 6 * s ≤ j ∧ j < 6 * s + 6
        · rw [if_pos e2, if_pos ⟨rfl, e2⟩]
        · rw [if_neg e2, if_neg (fun z => e2 z.2), if_neg (fun z => nq z.1.symm)]
      · rw [if_neg (fun z => e z.1)]
        by_cases e1 : i = q
        · subst e1
          rw [f3 j]
          by_cases e2 : 6 * r ≤ j ∧ j < 6 * r + 6
          · rw [if_pos e2, if_pos ⟨rfl, e2⟩]
          · rw [if_neg e2, if_neg (fun z => e2 z.2)]
        · rw [f1 i e e1, if_neg (fun z => e1 z.1)]
    · omega
  · have ec : G' ac_changed s = r := by rw [f1 ac_changed nc hf.2.2.2.1.symm]; exact hc
    have ca := c_at (G := G') ht (r : Int) (c : Int)
    rw [if_pos (by omega), show ((r : Int) * 6 + (c : Int)).toNat = 6 * r + c by omega, f3 (6 * r + c), if_neg (by omega)] at ca
    have cp := c_put' (G := G') ht hr hc6 (r := (r : Int)) (c := (c : Int)) rfl rfl (G ac_kept (6 * s + c))
    refine x_iload_n d_Ac_swap_2 rfl rfl ?_
    refine x_bipush (6) d_Ac_swap_3 rfl ⟨by decide, by decide⟩ ?_
    refine x_icmp_ge (62) d_Ac_swap_5 (by decide) (fun g => ?_) (fun g => ?_)
    · omega
    · refine x_iload_n d_Ac_swap_8 rfl rfl ?_
      refine x_bipush (6) d_Ac_swap_9 rfl ⟨by decide, by decide⟩ ?_
      refine x_imulN d_Ac_swap_11 (by omega) (by omega) ?_
      refine x_iload_n d_Ac_swap_12 rfl rfl ?_
      refine x_iaddN d_Ac_swap_13 (by omega) (by omega) ?_
      refine x_istore d_Ac_swap_14 (by decide) ?_
      dsimp only [x_st1, x_st2, x_kill, List.set, List.getElem?_cons_zero, List.getElem?_cons_succ]
      refine x_aload_n d_Ac_swap_16 rfl rfl ?_
      refine x_aload_n d_Ac_swap_17 rfl rfl ?_
      refine x_getF (kf := 1) d_Ac_swap_18 rfl rfl rfl in_Ac f_Ac_17 ?_
      refine x_iload_n d_Ac_swap_21 rfl rfl ?_
      refine x_ialdN (s) d_Ac_swap_22 rfl (by omega) (by omega) ?_
      rw [ec]
      refine x_iload_n d_Ac_swap_23 rfl rfl ?_
      refine x_V1 d_Ac_swap_24 e_Ac_swap_Ta_at ⟨rfl, rfl, Nat.zero_le _, Nat.zero_le _⟩ t1 rfl rfl rfl (Nat.le_of_ble_eq_true rfl) (ca) ?_
      refine x_istore d_Ac_swap_27 (by decide) ?_
      dsimp only [x_st1, x_st2, x_kill, List.set, List.getElem?_cons_zero, List.getElem?_cons_succ]
      refine x_aload_n d_Ac_swap_29 rfl rfl ?_
      refine x_aload_n d_Ac_swap_30 rfl rfl ?_
      refine x_getF (kf := 1) d_Ac_swap_31 rfl rfl rfl in_Ac f_Ac_17 ?_
      refine x_iload_n d_Ac_swap_34 rfl rfl ?_
      refine x_ialdN (s) d_Ac_swap_35 rfl (by omega) (by omega) ?_
      rw [ec]
      refine x_iload_n d_Ac_swap_36 rfl rfl ?_
      refine x_aload_n d_Ac_swap_37 rfl rfl ?_
      refine x_getF (kf := 2) d_Ac_swap_38 rfl rfl rfl in_Ac f_Ac_21 ?_
      refine x_iload d_Ac_swap_41 rfl ?_
      refine x_ialdN ((6 * s + c)) d_Ac_swap_43 rfl (by omega) (by omega) ?_
      rw [f2 (6 * s + c), if_neg (by omega)]
      refine x_V0 d_Ac_swap_44 e_Ac_swap_Ta_put ⟨rfl, rfl, Nat.zero_le _, Nat.zero_le _⟩ t1 rfl rfl rfl (Nat.le_of_ble_eq_true rfl) (cp) ?_
      refine x_aload_n d_Ac_swap_47 rfl rfl ?_
      refine x_getF (kf := 2) d_Ac_swap_48 rfl rfl rfl in_Ac f_Ac_21 ?_
      refine x_iload d_Ac_swap_51 rfl ?_
      refine x_iload d_Ac_swap_53 rfl ?_
      refine x_iastN ((6 * s + c)) d_Ac_swap_55 rfl (by omega) (by omega) ?_
      refine x_iincN d_Ac_swap_56 rfl (by decide) (by omega) (by omega) ?_
      dsimp only [x_st1, x_st2, x_kill, List.set, List.getElem?_cons_zero, List.getElem?_cons_succ]
      refine x_goto (2) d_Ac_swap_59 (by decide) ?_
      refine k _ _ _ (fun i h1 h2 => by rw [up_cell h1, up_cell h2]; exact f1 i h1 h2) (fun j => ?_) (fun j => ?_)
      · by_cases e : j = 6 * s + c
        · subst e
          rw [up_same, if_pos (by omega), show 6 * s + c - 6 * s = c by omega]
        · rw [up_ne e, up_cell nq.symm, f2 j]
          by_cases e2 : 6 * s ≤ j ∧ j < 6 * s + c
          · rw [if_pos e2, if_pos (by omega)]
          · rw [if_neg e2, if_neg (by omega)]
      · rw [up_cell nq]
        by_cases e : j = 6 * r + c
        · subst e
          rw [up_same, if_pos (by omega), show 6 * r + c - 6 * r = c by omega]
        · rw [up_ne e, f3 j]
          by_cases e2 : 6 * r ≤ j ∧ j < 6 * r + c
          · rw [if_pos e2, if_pos (by omega)]
          · rw [if_neg e2, if_neg (by omega)]
def toG (G : Nat → Nat → Int) (t q s : Nat) (again : Bool) : Nat → Nat → Int := if G ac_changed s = -1 then (if again = true then up G t 2 (G t 2 + 1) else up G t 2 (G t 2 - 1)) else swG G q (G ac_changed s).toNat s
theorem c_turnOver {b : Bool} (ht : isTab t q L) (hf : tFree t q) {s : Nat} (hs : s < 100) (hT : G ac_tables s = (t : Int) + 1) (hc : (G ac_changed s = -1 ∧ (if b = true then 0 ≤ G t 2 ∧ G t 2 < L else 0 < G t 2 ∧ G t 2 ≤ L)) ∨ (0 ≤ G ac_changed s ∧ G ac_changed s < L)) : x_M y_Ac_turnOver [oAc, xI (s : Int), xI (b2i b)] (S0, G) (x_is (.inl none) (S0, toG G t q s b)) := by
  have t1 := ht.1
  have t3 := ht.2.2.1
  refine x_of 1 rfl (Nat.le_of_ble_eq_true rfl) ?_
  show x_A y_Ac_turnOver 0 [some oAc, some (xI (s : Int)), some (xI (b2i b)), none] [] (S0, G) 0 0 _
  generalize hQ : x_is (.inl none) (S0, toG G t q s b) = Q
  refine x_aload_n d_Ac_turnOver_0 rfl rfl ?_
  refine x_getF (kf := 0) d_Ac_turnOver_1 rfl rfl rfl in_Ac f_Ac_11 ?_
  refine x_iload_n d_Ac_turnOver_4 rfl rfl ?_
  refine x_aaload d_Ac_turnOver_5 rfl (by omega) (by omega) ?_
  rw [show x_rr ((S0, G).2 ac_tables (s : Int).toNat) = some t from by
    show x_rr (G ac_tables (s : Int).toNat) = _
    rw [Int.toNat_natCast, hT]
    unfold x_rr
    rw [if_neg (by omega), show ((t : Int) + 1 - 1).toNat = t by omega]]
  refine x_astore_n d_Ac_turnOver_6 rfl (by decide) ?_
  dsimp only [x_st1, x_st2, x_kill, List.set, List.getElem?_cons_zero, List.getElem?_cons_succ]
  refine x_aload_n d_Ac_turnOver_7 rfl rfl ?_
  refine x_ifnonnull (12) d_Ac_turnOver_8 (by decide) (fun g => ?_) (fun g => ?_)
  · refine x_aload_n d_Ac_turnOver_12 rfl rfl ?_
    refine x_getF (kf := 1) d_Ac_turnOver_13 rfl rfl rfl in_Ac f_Ac_17 ?_
    refine x_iload_n d_Ac_turnOver_16 rfl rfl ?_
    refine x_ialdN (s) d_Ac_turnOver_17 rfl (by omega) (by omega) ?_
    refine x_iconst (-1) d_Ac_turnOver_18 rfl ⟨by decide, by decide⟩ ?_
    refine x_icmp_eq (31) d_Ac_turnOver_19 (by decide) (fun g1 => ?_) (fun g1 => ?_)
    · rcases hc with ⟨h1, h2⟩ | ⟨h1, h2⟩
      · cases b with
        | true =>
          rw [if_pos (by decide)] at h2
          refine x_iload_n d_Ac_turnOver_31 rfl rfl ?_
          refine x_if_eq (42) d_Ac_turnOver_32 (by decide) (fun g2 => ?_) (fun g2 => ?_)
          · cases g2
          · refine x_aload_n d_Ac_turnOver_35 rfl rfl ?_
            refine x_V0 d_Ac_turnOver_36 e_Ac_turnOver_Ta_grow ⟨rfl, rfl, Nat.zero_le _, Nat.zero_le _⟩ t1 rfl rfl rfl (Nat.le_of_ble_eq_true rfl) (c_grow ht h2) ?_
            refine x_goto (46) d_Ac_turnOver_39 (by decide) ?_
            refine x_return d_Ac_turnOver_46 rfl ?_ (Nat.zero_le _) (Nat.zero_le _)
            rw [← hQ]
            exact ⟨rfl, by unfold toG; rw [if_pos h1, if_pos rfl]⟩
        | false =>
          rw [if_neg (by decide)] at h2
          refine x_iload_n d_Ac_turnOver_31 rfl rfl ?_
          refine x_if_eq (42) d_Ac_turnOver_32 (by decide) (fun g2 => ?_) (fun g2 => ?_)
          · refine x_aload_n d_Ac_turnOver_42 rfl rfl ?_
            refine x_V0 d_Ac_turnOver_43 e_Ac_turnOver_Ta_shrink ⟨rfl, rfl, Nat.zero_le _, Nat.zero_le _⟩ t1 rfl rfl rfl (Nat.le_of_ble_eq_true rfl) (c_shrink ht h2) ?_
            refine x_return d_Ac_turnOver_46 rfl ?_ (Nat.zero_le _) (Nat.zero_le _)
            rw [← hQ]
            exact ⟨rfl, by unfold toG; rw [if_pos h1, if_neg (by decide)]⟩
          · exact absurd rfl g2
      · omega
    · rcases hc with ⟨h1, h2⟩ | ⟨h1, h2⟩
      · exact absurd h1 g1
      · refine x_aload_n d_Ac_turnOver_22 rfl rfl ?_
        refine x_iload_n d_Ac_turnOver_23 rfl rfl ?_
        refine x_aload_n d_Ac_turnOver_24 rfl rfl ?_
        refine x_V0 d_Ac_turnOver_25 e_Ac_turnOver_Ac_swap ⟨rfl, rfl, Nat.zero_le _, Nat.zero_le _⟩ rfl rfl rfl rfl (Nat.le_of_ble_eq_true rfl) (c_swap ht hf (r := (G ac_changed s).toNat) (by omega) hs (by omega)) ?_
        refine x_goto (46) d_Ac_turnOver_28 (by decide) ?_
        refine x_return d_Ac_turnOver_46 rfl ?_ (Nat.zero_le _) (Nat.zero_le _)
        rw [← hQ]
        exact ⟨rfl, by unfold toG; rw [if_neg g1]⟩
  · cases g
end CAc2
