/-! the class: what is told to the house -/
def addR (h : HH) (T : Nat) (v : Nat → Int) : HH := (fun T' r c => if T' = T ∧ r = h.2 T then v c else h.1 T' r c, fun T' => if T' = T then h.2 T' + 1 else h.2 T')
def chgR (h : HH) (T r : Nat) (v : Nat → Int) : HH := (fun T' r' c => if T' = T ∧ r' = r then v c else h.1 T' r' c, h.2)
theorem stp_add {h : HH} {T : Nat} (hT : T < 10) (hl : h.2 T < lim T) (v : Nat → Int) : stp h (addR h T v) (T, -1) :=
  ⟨hT, Or.inl ⟨rfl, hl, fun _ => rfl, fun T' r c z => if_neg z⟩⟩
theorem stp_chg {h : HH} {T r : Nat} (hT : T < 10) (hr : r < h.2 T) (v : Nat → Int) : stp h (chgR h T r v) (T, (r : Int)) :=
  ⟨hT, Or.inr ⟨r, rfl, hr, fun _ => rfl, fun T' r' c z => if_neg z⟩⟩
theorem olN_lt {ol dn : Nat} (h : ol < 100) : olN ol dn < 100 := by
  unfold olN
  split
  · exact Nat.mod_lt _ (by decide)
  · exact h
theorem putRow_r {G : Nat → Nat → Int} {q s : Nat} {v : Nat → Int} {r c : Nat} (hc : c < 6) : putRow G q s v q (6 * r + c) = if r = s then v c else G q (6 * r + c) := by
  unfold putRow
  by_cases e : r = s
  · subst e; rw [if_pos rfl, if_pos ⟨rfl, by omega, by omega⟩, show 6 * r + c - 6 * r = c by omega]
  · rw [if_neg e, if_neg (by omega)]
def mAct (hs : Nat → HH) (ds : Nat → Nat × Int) (base k : Nat) (h' : HH) (a : Nat × Int) (V : Option XV) (G : Nat → Nat → Int) : Option XV → XM → Prop := fun v τ => v = V ∧ ∃ G', τ = (S0, G') ∧ cLog (nH hs k h') (nD ds k a) (max base (k + 1 - 100)) (k + 1) (k + 1) G' ∧ G' o_Ac 6 = G o_Ac 6 + 1 ∧ ∀ i, 26 ≤ i → G' i = G i
section CHa
variable {hs : Nat → HH} {ds : Nat → Nat × Int} {base k logged : Nat} {G : Nat → Nat → Int}
theorem c_addF {h : HH} (r : fRep h G) {T : Nat} (hT : T < 10) (hl : lim T ≤ h.2 T) (a b c d e f : Int) : x_M y_Ho_add [oHo, xR (some (6 + 2 * T)), xI a, xI b, xI c, xI d, xI e, xI f] (S0, G) (x_is (.inl (some (xI (-1)))) (S0, G)) := by
  have ht := isTab_of hT
  have t1 := ht.1
  have cf := c_isFull (G := G) ht
  rw [(r.2 T hT).1, decide_eq_true (show (lim T : Int) ≤ (h.2 T : Int) by omega)] at cf
  refine x_of 0 rfl (Nat.le_of_ble_eq_true rfl) ?_
  show x_A y_Ho_add 0 [some oHo, some (xR (some (6 + 2 * T))), some (xI a), some (xI b), some (xI c), some (xI d), some (xI e), some (xI f)] [] (S0, G) 0 0 _
  refine x_aload_n d_Ho_add_0 rfl rfl ?_
  refine x_V1 d_Ho_add_1 e_Ho_add_Ta_isFull ⟨rfl, rfl, Nat.zero_le _, Nat.zero_le _⟩ t1 rfl rfl rfl (Nat.le_of_ble_eq_true rfl) (cf) ?_
  refine x_if_eq (9) d_Ho_add_4 (by decide) (fun g => ?_) (fun g => ?_)
  · cases g
  · refine x_iconst (-1) d_Ho_add_7 rfl ⟨by decide, by decide⟩ ?_
    refine x_ireturn d_Ho_add_8 rfl ?_ (Nat.zero_le _) (Nat.zero_le _)
    exact ⟨rfl, rfl⟩
theorem c_hadd (x : cLog hs ds base k logged G) (h5 : 0 ≤ G o_Ac 6 ∧ G o_Ac 6 ≤ 100000) {T : Nat} (hT : T < 10) (hl : (hs k).2 T < lim T) (a b c d e f : Int) (wf : Hwf (addR (hs k) T (v6 a b c d e f)) ∧ (addR (hs k) T (v6 a b c d e f)).2 9 = 1) : x_M y_Ho_add [oHo, xR (some (6 + 2 * T)), xI a, xI b, xI c, xI d, xI e, xI f] (S0, G) (fun r τ => ∃ v, r = .inl v ∧ mAct hs ds base k (addR (hs k) T (v6 a b c d e f)) (T, -1) (some (xI ((hs k).2 T : Int))) G v τ) := by
  obtain ⟨ol, x1, x2, x3, x4, x5⟩ := x
  have hb := x5.1.1
  have r := x5.2.1
  have ht := isTab_of hT
  have t1 := ht.1
  have hl6 := ht.2.2.1
  have rT := (r.2 T hT).1
  have cf := c_isFull (G := G) ht
  rw [rT, decide_eq_false (show ¬ ((lim T : Int) ≤ ((hs k).2 T : Int)) by omega)] at cf
  refine x_of 0 rfl (Nat.le_of_ble_eq_true rfl) ?_
  show x_A y_Ho_add 0 [some oHo, some (xR (some (6 + 2 * T))), some (xI a), some (xI b), some (xI c), some (xI d), some (xI e), some (xI f)] [] (S0, G) 0 0 _
  generalize hQ : (fun (r : XRes) (τ : XM) => ∃ v, r = .inl v ∧ mAct hs ds base k (addR (hs k) T (v6 a b c d e f)) (T, -1) (some (xI ((hs k).2 T : Int))) G v τ) = Q
  have cd := c_draft (G := G) ht hl rT a b c d e f
  generalize hv : v6 a b c d e f = v at *
  generalize hG0 : putRow G (7 + 2 * T) ((hs k).2 T) v = G0 at *
  have p0 : ∀ i, i ≠ 7 + 2 * T → G0 i = G i := fun i hi => by rw [← hG0, putRow_o hi]
  have pA : G0 o_Ac = G o_Ac := p0 _ (by show 1 ≠ _; omega)
  have pt : G0 (6 + 2 * T) = G (6 + 2 * T) := p0 _ (by omega)
  have ca := c_adding (G := G0) ht tFree_of (by rw [pt, rT]; omega) (ol := ol) (dn := k - base) (by rw [pA]; exact x2) x1 (by rw [pA]; exact x3) (by omega) (by rw [pA]; exact h5)
  refine x_aload_n d_Ho_add_0 rfl rfl ?_
  refine x_V1 d_Ho_add_1 e_Ho_add_Ta_isFull ⟨rfl, rfl, Nat.zero_le _, Nat.zero_le _⟩ t1 rfl rfl rfl (Nat.le_of_ble_eq_true rfl) (cf) ?_
  refine x_if_eq (9) d_Ho_add_4 (by decide) (fun g => ?_) (fun g => ?_)
  · refine x_aload_n d_Ho_add_9 rfl rfl ?_
    refine x_iload_n d_Ho_add_10 rfl rfl ?_
    refine x_iload_n d_Ho_add_11 rfl rfl ?_
    refine x_iload d_Ho_add_12 rfl ?_
    refine x_iload d_Ho_add_14 rfl ?_
    refine x_iload d_Ho_add_16 rfl ?_
    refine x_iload d_Ho_add_18 rfl ?_
    refine x_V0 d_Ho_add_20 e_Ho_add_Ta_draft ⟨rfl, rfl, Nat.zero_le _, Nat.zero_le _⟩ t1 rfl rfl rfl (Nat.le_of_ble_eq_true rfl) (cd) ?_
    refine x_aload_n d_Ho_add_23 rfl rfl ?_
    refine x_getF (kf := 10) d_Ho_add_24 rfl rfl rfl in_Ho f_Ho_47 ?_
    refine x_aload_n d_Ho_add_27 rfl rfl ?_
    refine x_VQ d_Ho_add_28 e_Ho_add_Ac_adding ⟨rfl, rfl, Nat.zero_le _, Nat.zero_le _⟩ rfl rfl rfl rfl (Nat.le_of_ble_eq_true rfl) (ca) (fun v' τ H => ?_)
    obtain ⟨rfl, s, G1, n, rfl⟩ := H
    obtain ⟨n1, n2, n3, n4, n5, n6, n7, n8⟩ := n
    rw [pt, rT]
    generalize hG2 : up G1 (6 + 2 * T) 2 (((hs k).2 T : Int) + 1) = G2
    have q2 : ∀ i, i ≠ 6 + 2 * T → G2 i = G1 i := fun i hi => by rw [← hG2, up_cell hi]
    have qs : G2 (6 + 2 * T) 2 = ((hs k).2 T : Int) + 1 := by rw [← hG2, up_same]
    have cs := c_size (G := G2) ht
    rw [qs] at cs
    show x_A y_Ho_add 31 [some oHo, some (xR (some (6 + 2 * T))), some (xI a), some (xI b), some (xI c), some (xI d), some (xI e), some (xI f)] [] (S0, G2) 0 0 Q
    refine x_aload_n d_Ho_add_31 rfl rfl ?_
    refine x_V1 d_Ho_add_32 e_Ho_add_Ta_size ⟨rfl, rfl, Nat.zero_le _, Nat.zero_le _⟩ t1 rfl rfl rfl (Nat.le_of_ble_eq_true rfl) (cs) ?_
    refine x_iconst (1) d_Ho_add_35 rfl ⟨by decide, by decide⟩ ?_
    refine x_isubN d_Ho_add_36 (by omega) (by omega) ?_
    refine x_ireturn d_Ho_add_37 rfl ?_ (Nat.zero_le _) (Nat.zero_le _)
    rw [← hQ]
    have c1 : ∀ i, i ≠ 6 + 2 * T → i ≠ o_Ac → i ≠ ac_tables → i ≠ ac_changed → G2 i = G0 i := fun i h1 h2 h3 h4 => (q2 i h1).trans (n1 i h2 h3 h4)
    have oA : G2 o_Ac = G1 o_Ac := q2 _ (by show 1 ≠ _; omega)
    have rep : fRep (addR (hs k) T v) G2 := by
      refine ⟨wf.2, fun T' hT' => ⟨?_, fun r' hr' c' hc' => ?_⟩⟩
      · by_cases e1 : T' = T
        · subst e1
          rw [qs]
          show _ = (((if T' = T' then (hs k).2 T' + 1 else (hs k).2 T' : Nat)) : Int)
          rw [if_pos rfl]; omega
        · rw [c1 _ (by omega) (by show 6 + 2 * T' ≠ 1; omega) (by show 6 + 2 * T' ≠ 2; omega) (by show 6 + 2 * T' ≠ 3; omega), p0 _ (by omega), (r.2 T' hT').1]
          show _ = (((if T' = T then (hs k).2 T' + 1 else (hs k).2 T' : Nat)) : Int)
          rw [if_neg e1]
      · rw [c1 _ (by omega) (by show 7 + 2 * T' ≠ 1; omega) (by show 7 + 2 * T' ≠ 2; omega) (by show 7 + 2 * T' ≠ 3; omega)]
        have hr2 : r' < if T' = T then (hs k).2 T' + 1 else (hs k).2 T' := hr'
        show _ = if T' = T ∧ r' = (hs k).2 T then v c' else (hs k).1 T' r' c'
        by_cases e1 : T' = T
        · subst e1
          rw [if_pos rfl] at hr2
          rw [← hG0, putRow_r hc']
          by_cases e2 : r' = (hs k).2 T'
          · rw [if_pos e2, if_pos ⟨rfl, e2⟩]
          · rw [if_neg e2, if_neg (fun z => e2 z.2)]
            exact (r.2 T' hT').2 r' (by omega) c' hc'
        · rw [if_neg e1] at hr2
          rw [if_neg (fun z => e1 z.1), p0 _ (by omega)]
          exact (r.2 T' hT').2 r' hr2 c' hc'
    have nw := x5.new x1 (stp_add hT hl v) wf (G2 := G2) (s := s) n8 (by rw [q2 _ (by show 2 ≠ _; omega), n6, p0 _ (by show 2 ≠ _; omega)]) (by rw [q2 _ (by show 3 ≠ _; omega), n7, p0 _ (by show 3 ≠ _; omega)]) (fun j _ => by rw [c1 _ (by show 4 ≠ _; omega) (by decide) (by decide) (by decide), p0 _ (by show 4 ≠ _; omega)]) (fun h0 => by omega) rep
    refine ⟨_, rfl, by rw [Int.add_sub_cancel], G2, rfl, ⟨_, olN_lt x1, by rw [oA]; exact n2, ?_, by rw [oA, n4]; omega, nw⟩, by rw [oA, n5, pA], fun i hi => ?_⟩
    · rw [oA, n3]
      unfold dnN
      split <;> omega
    · rw [c1 i (by omega) (by show i ≠ 1; omega) (by show i ≠ 2; omega) (by show i ≠ 3; omega), p0 _ (by omega)]
  · exact absurd rfl g
/-- behind changing: the row is kept -/
theorem c_kept (x : cLog hs ds base k logged G) {T r : Nat} (hT : T < 10) (hr : r < (hs k).2 T) (v : Nat → Int) (wf : Hwf (chgR (hs k) T r v) ∧ (chgR (hs k) T r v).2 9 = 1) {s : Nat} {G1 G2 : Nat → Nat → Int} {ol dn : Nat} (hol : G o_Ac 3 = ol) (hdn : G o_Ac 4 = dn) (n : mNew' G G1 (6 + 2 * T) (r : Int) (olN ol dn) (dnN dn) s) (e : ∀ i, i ≠ 7 + 2 * T → G2 i = putRow G1 ac_kept s (fun c => G (7 + 2 * T) (6 * r + c)) i) (e2 : ∀ r' c, c < 6 → G2 (7 + 2 * T) (6 * r' + c) = if r' = r then v c else G (7 + 2 * T) (6 * r' + c)) : cLog (nH hs k (chgR (hs k) T r v)) (nD ds k (T, (r : Int))) (max base (k + 1 - 100)) (k + 1) (k + 1) G2 ∧ G2 o_Ac 6 = G o_Ac 6 + 1 ∧ ∀ i, 26 ≤ i → G2 i = G i := by
  obtain ⟨ol', x1, x2, x3, x4, x5⟩ := x
  have hb := x5.1.1
  have eo : ol' = ol := by omega
  have ed : k - base = dn := by omega
  subst eo
  subst ed
  have rp := x5.2.1
  obtain ⟨n1, n2, n3, n4, n5, n6, n7, n8⟩ := n
  have c1 : ∀ i, i ≠ 7 + 2 * T → i ≠ ac_kept → G2 i = G1 i := fun i h1 h2 => by rw [e i h1, putRow_o h2]
  have oA : G2 o_Ac = G1 o_Ac := c1 _ (by show 1 ≠ _; omega) (by decide)
  have rep : fRep (chgR (hs k) T r v) G2 := by
    refine ⟨wf.2, fun T' hT' => ⟨?_, fun r' hr' c' hc' => ?_⟩⟩
    · rw [c1 _ (by omega) (by show 6 + 2 * T' ≠ 4; omega), n1 _ (by show 6 + 2 * T' ≠ 1; omega) (by show 6 + 2 * T' ≠ 2; omega) (by show 6 + 2 * T' ≠ 3; omega)]
      exact (rp.2 T' hT').1
    · have hr2 : r' < (hs k).2 T' := hr'
      show _ = if T' = T ∧ r' = r then v c' else (hs k).1 T' r' c'
      by_cases e1 : T' = T
      · subst e1
        rw [e2 r' c' hc']
        by_cases e3 : r' = r
        · rw [if_pos e3, if_pos ⟨rfl, e3⟩]
        · rw [if_neg e3, if_neg (fun z => e3 z.2)]
          exact (rp.2 T' hT').2 r' hr2 c' hc'
      · rw [if_neg (fun z => e1 z.1), c1 _ (by omega) (by show 7 + 2 * T' ≠ 4; omega), n1 _ (by show 7 + 2 * T' ≠ 1; omega) (by show 7 + 2 * T' ≠ 2; omega) (by show 7 + 2 * T' ≠ 3; omega)]
        exact (rp.2 T' hT').2 r' hr2 c' hc'
  have ek : G2 ac_kept = putRow G1 ac_kept s (fun c => G (7 + 2 * T) (6 * r + c)) ac_kept := e _ (by show 4 ≠ _; omega)
  have nw := x5.new x1 (stp_chg hT hr v) wf (G2 := G2) (s := s) n8 (by rw [c1 _ (by show 2 ≠ _; omega) (by decide), n6]) (by rw [c1 _ (by show 3 ≠ _; omega) (by decide), n7]) (fun j hj => by
    rw [ek]
    unfold putRow
    rw [if_neg (fun z => hj z.2), n1 ac_kept (by decide) (by decide) (by decide)]) (fun h0 c hc => by
    rw [ek, putRow_r hc, if_pos rfl, Int.toNat_natCast]
    exact (rp.2 T hT).2 r hr c hc) rep
  refine ⟨⟨_, olN_lt x1, by rw [oA]; exact n2, ?_, by rw [oA, n4]; omega, nw⟩, by rw [oA, n5], fun i hi => ?_⟩
  · rw [oA, n3]
    unfold dnN
    split <;> omega
  · rw [c1 i (by omega) (by show i ≠ 4; omega), n1 i (by show i ≠ 1; omega) (by show i ≠ 2; omega) (by show i ≠ 3; omega)]
def setC (h : HH) (T r c : Nat) (z : Int) : HH := chgR h T r (fun c' => if c' = c then z else h.1 T r c')
theorem c_change (x : cLog hs ds base k logged G) (h5 : 0 ≤ G o_Ac 6 ∧ G o_Ac 6 ≤ 100000) {T r c : Nat} (hT : T < 10) (hr : r < (hs k).2 T) (hc : c < 6) (z : Int) (wf : Hwf (setC (hs k) T r c z) ∧ (setC (hs k) T r c z).2 9 = 1) {a b : Int} (ha : a = r) (hb' : b = c) : x_M y_Ho_change [oHo, xR (some (6 + 2 * T)), xI a, xI b, xI z] (S0, G) (fun r' τ => ∃ v, r' = .inl v ∧ mAct hs ds base k (setC (hs k) T r c z) (T, (r : Int)) (some (xI ((hs k).1 T r c))) G v τ) := by
  subst ha hb'
  have x' := x
  obtain ⟨ol, x1, x2, x3, x4, x5⟩ := x
  have hb := x5.1.1
  have rp := x5.2.1
  have ht := isTab_of hT
  have t1 := ht.1
  have hlm := (x5.1.2.1 k (by omega)).1.lim (x5.1.2.1 k (by omega)).2 hT
  have rT := (rp.2 T hT).2 r hr
  have ca := k_at (x5.1.2.1 k (by omega)).1 rp T r c hT hr hc (a := (r : Int)) (b := (c : Int)) rfl rfl
  refine x_of 1 rfl (Nat.le_of_ble_eq_true rfl) ?_
  show x_A y_Ho_change 0 [some oHo, some (xR (some (6 + 2 * T))), some (xI (r : Int)), some (xI (c : Int)), some (xI z), none] [] (S0, G) 0 0 _
  generalize hQ : (fun (r' : XRes) (τ : XM) => ∃ v, r' = .inl v ∧ mAct hs ds base k (setC (hs k) T r c z) (T, (r : Int)) (some (xI ((hs k).1 T r c))) G v τ) = Q
  refine x_aload_n d_Ho_change_0 rfl rfl ?_
  refine x_iload_n d_Ho_change_1 rfl rfl ?_
  refine x_iload_n d_Ho_change_2 rfl rfl ?_
  refine x_V1 d_Ho_change_3 e_Ho_change_Ta_at ⟨rfl, rfl, Nat.zero_le _, Nat.zero_le _⟩ t1 rfl rfl rfl (Nat.le_of_ble_eq_true rfl) (ca) ?_
  refine x_istore d_Ho_change_6 (by decide) ?_
  dsimp only [x_st1, x_st2, x_kill, List.set, List.getElem?_cons_zero, List.getElem?_cons_succ]
  refine x_aload_n d_Ho_change_8 rfl rfl ?_
  refine x_getF (kf := 10) d_Ho_change_9 rfl rfl rfl in_Ho f_Ho_47 ?_
  refine x_aload_n d_Ho_change_12 rfl rfl ?_
  refine x_iload_n d_Ho_change_13 rfl rfl ?_
  refine x_VQ d_Ho_change_14 e_Ho_change_Ac_changing ⟨rfl, rfl, Nat.zero_le _, Nat.zero_le _⟩ rfl rfl rfl rfl (Nat.le_of_ble_eq_true rfl) (c_changing ht tFree_of (r := r) (by omega) x2 x1 x3 (by omega) h5) (fun v' τ H => ?_)
  obtain ⟨rfl, s, G1, n, rfl⟩ := H
  show x_A y_Ho_change 17 [some oHo, some (xR (some (6 + 2 * T))), some (xI (r : Int)), some (xI (c : Int)), some (xI z), some (xI ((hs k).1 T r c))] [] (S0, putRow G1 ac_kept s (fun c => G (7 + 2 * T) (6 * r + c))) 0 0 Q
  generalize hG2 : putRow G1 ac_kept s (fun c => G (7 + 2 * T) (6 * r + c)) = G2
  have eq2 : G2 (7 + 2 * T) = G (7 + 2 * T) := by rw [← hG2, putRow_o (k2 T), n.1 _ (by show 7 + 2 * T ≠ 1; omega) (by show 7 + 2 * T ≠ 2; omega) (by show 7 + 2 * T ≠ 3; omega)]
  have fin := c_kept x' hT hr (fun c' => if c' = c then z else (hs k).1 T r c') wf (G2 := up G2 (7 + 2 * T) (6 * r + c) z) x2 x3 n (fun i hi => by rw [up_cell hi, hG2]) (fun r' c' hc' => by
    by_cases e1 : r' = r
    · subst e1
      rw [if_pos rfl]
      show _ = if c' = c then z else (hs k).1 T r' c'
      by_cases e2 : c' = c
      · subst e2; rw [if_pos rfl, up_same]
      · rw [if_neg e2, up_ne (by omega), eq2]; exact rT c' hc'
    · rw [if_neg e1, up_ne (by omega), eq2])
  refine x_aload_n d_Ho_change_17 rfl rfl ?_
  refine x_iload_n d_Ho_change_18 rfl rfl ?_
  refine x_iload_n d_Ho_change_19 rfl rfl ?_
  refine x_iload d_Ho_change_20 rfl ?_
  refine x_V0 d_Ho_change_22 e_Ho_change_Ta_put ⟨rfl, rfl, Nat.zero_le _, Nat.zero_le _⟩ t1 rfl rfl rfl (Nat.le_of_ble_eq_true rfl) (c_put' ht (s := r) (by omega) hc rfl rfl z) ?_
  refine x_iload d_Ho_change_25 rfl ?_
  refine x_ireturn d_Ho_change_27 rfl ?_ (Nat.zero_le _) (Nat.zero_le _)
  rw [← hQ]
  exact ⟨_, rfl, rfl, _, rfl, fin⟩
def setG (h : HH) (a b c : Int) : HH := chgR h 9 0 (fun c' => if c' = 2 then a else if c' = 3 then b else if c' = 4 then c else h.1 9 0 c')
theorem c_changeGauges (x : cLog hs ds base k logged G) (h5 : 0 ≤ G o_Ac 6 ∧ G o_Ac 6 ≤ 100000) (a b c : Int) (wf : Hwf (setG (hs k) a b c) ∧ (setG (hs k) a b c).2 9 = 1) : x_M y_Ho_changeGauges [oHo, xI a, xI b, xI c] (S0, G) (fun r' τ => ∃ v, r' = .inl v ∧ mAct hs ds base k (setG (hs k) a b c) (9, ((0 : Nat) : Int)) none G v τ) := by
  have x' := x
  obtain ⟨ol, x1, x2, x3, x4, x5⟩ := x
  have hb := x5.1.1
  have rp := x5.2.1
  have ht : isTab 24 25 1 := isTab_of (T := 9) (by decide)
  have t1 := ht.1
  have h90 : 0 < (hs k).2 9 := by rw [rp.1]; decide
  have rT := (rp.2 9 (by decide)).2 0 h90
  refine x_of 0 rfl (Nat.le_of_ble_eq_true rfl) ?_
  show x_A y_Ho_changeGauges 0 [some oHo, some (xI a), some (xI b), some (xI c)] [] (S0, G) 0 0 _
  generalize hQ : (fun (r' : XRes) (τ : XM) => ∃ v, r' = .inl v ∧ mAct hs ds base k (setG (hs k) a b c) (9, ((0 : Nat) : Int)) none G v τ) = Q
  refine x_aload_n d_Ho_changeGauges_0 rfl rfl ?_
  refine x_getF (kf := 10) d_Ho_changeGauges_1 rfl rfl rfl in_Ho f_Ho_47 ?_
  refine x_aload_n d_Ho_changeGauges_4 rfl rfl ?_
  refine x_getF (kf := 9) d_Ho_changeGauges_5 rfl rfl rfl in_Ho f_Ho_44 ?_
  refine x_iconst (0) d_Ho_changeGauges_8 rfl ⟨by decide, by decide⟩ ?_
  refine x_VQ d_Ho_changeGauges_9 e_Ho_changeGauges_Ac_changing ⟨rfl, rfl, Nat.zero_le _, Nat.zero_le _⟩ rfl rfl rfl rfl (Nat.le_of_ble_eq_true rfl) (c_changing ht (tFree_of (T := 9)) (r := 0) (by decide) x2 x1 x3 (by omega) h5) (fun v' τ H => ?_)
  obtain ⟨rfl, s, G1, n, rfl⟩ := H
  show x_A y_Ho_changeGauges 12 [some oHo, some (xI a), some (xI b), some (xI c)] [] (S0, putRow G1 ac_kept s (fun c => G 25 (6 * 0 + c))) 0 0 Q
  generalize hG2 : putRow G1 ac_kept s (fun c => G 25 (6 * 0 + c)) = G2
  have eq2 : G2 25 = G 25 := by rw [← hG2, putRow_o (by decide), n.1 _ (by decide) (by decide) (by decide)]
  have fin := c_kept x' (T := 9) (r := 0) (by decide) h90 (fun c' => if c' = 2 then a else if c' = 3 then b else if c' = 4 then c else (hs k).1 9 0 c') wf (G2 := up (up (up G2 25 (6 * 0 + 2) a) 25 (6 * 0 + 3) b) 25 (6 * 0 + 4) c) x2 x3 n (fun i hi => by
    have hi : i ≠ 25 := hi
    rw [up_cell hi, up_cell hi, up_cell hi, ← hG2]) (fun r' c' hc' => by
    show up (up (up G2 25 (6 * 0 + 2) a) 25 (6 * 0 + 3) b) 25 (6 * 0 + 4) c 25 (6 * r' + c') = _
    by_cases e1 : r' = 0
    · subst e1
      rw [if_pos rfl]
      show _ = if c' = 2 then a else if c' = 3 then b else if c' = 4 then c else (hs k).1 9 0 c'
      have r2 := rT c' hc'
      unfold up
      by_cases e2 : c' = 2
      · subst e2; rfl
      · by_cases e3 : c' = 3
        · subst e3; rfl
        · by_cases e4 : c' = 4
          · subst e4; rfl
          · rw [if_neg (by omega), if_neg (by omega), if_neg (by omega), if_neg e2, if_neg e3, if_neg e4, eq2]; exact r2
    · rw [if_neg e1, up_ne (by omega), up_ne (by omega), up_ne (by omega), eq2])
  refine x_aload_n d_Ho_changeGauges_12 rfl rfl ?_
  refine x_getF (kf := 9) d_Ho_changeGauges_13 rfl rfl rfl in_Ho f_Ho_44 ?_
  refine x_iconst (0) d_Ho_changeGauges_16 rfl ⟨by decide, by decide⟩ ?_
  refine x_iconst (2) d_Ho_changeGauges_17 rfl ⟨by decide, by decide⟩ ?_
  refine x_iload_n d_Ho_changeGauges_18 rfl rfl ?_
  refine x_V0 d_Ho_changeGauges_19 e_Ho_changeGauges_Ta_put ⟨rfl, rfl, Nat.zero_le _, Nat.zero_le _⟩ rfl rfl rfl rfl (Nat.le_of_ble_eq_true rfl) (c_put' ht (s := 0) (k := 2) (by decide) (by decide) rfl rfl a) ?_
  refine x_aload_n d_Ho_changeGauges_22 rfl rfl ?_
  refine x_getF (kf := 9) d_Ho_changeGauges_23 rfl rfl rfl in_Ho f_Ho_44 ?_
  refine x_iconst (0) d_Ho_changeGauges_26 rfl ⟨by decide, by decide⟩ ?_
  refine x_iconst (3) d_Ho_changeGauges_27 rfl ⟨by decide, by decide⟩ ?_
  refine x_iload_n d_Ho_changeGauges_28 rfl rfl ?_
  refine x_V0 d_Ho_changeGauges_29 e_Ho_changeGauges_Ta_put ⟨rfl, rfl, Nat.zero_le _, Nat.zero_le _⟩ rfl rfl rfl rfl (Nat.le_of_ble_eq_true rfl) (c_put' ht (s := 0) (k := 3) (by decide) (by decide) rfl rfl b) ?_
  refine x_aload_n d_Ho_changeGauges_32 rfl rfl ?_
  refine x_getF (kf := 9) d_Ho_changeGauges_33 rfl rfl rfl in_Ho f_Ho_44 ?_
  refine x_iconst (0) d_Ho_changeGauges_36 rfl ⟨by decide, by decide⟩ ?_
  refine x_iconst (4) d_Ho_changeGauges_37 rfl ⟨by decide, by decide⟩ ?_
  refine x_iload_n d_Ho_changeGauges_38 rfl rfl ?_
  refine x_V0 d_Ho_changeGauges_39 e_Ho_changeGauges_Ta_put ⟨rfl, rfl, Nat.zero_le _, Nat.zero_le _⟩ rfl rfl rfl rfl (Nat.le_of_ble_eq_true rfl) (c_put' ht (s := 0) (k := 4) (by decide) (by decide) rfl rfl c) ?_
  refine x_return d_Ho_changeGauges_42 rfl ?_ (Nat.zero_le _) (Nat.zero_le _)
  rw [← hQ]
  exact ⟨_, rfl, rfl, _, rfl, fin⟩
end CHa
