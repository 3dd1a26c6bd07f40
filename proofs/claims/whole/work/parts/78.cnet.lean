/-! the class: Net -/
abbrev oNe : XV := xR (some o_Ne)
/-- the class's memory holds a net, with so much left on each arc -/
def cNet (N : NT) (L : Nat → Int) (G : Nat → Nat → Int) : Prop :=
  G o_Ne 7 = 2 * (N.1 : Int) ∧ (∀ e, e < 2 * N.1 → G ne_ends e = he N e ∧ G ne_later e = prv N (te N e) e ∧ G ne_free e = L e) ∧ ∀ n, n < 338 → G ne_heads n = prv N n (2 * N.1)
def eFrame (G G' : Nat → Nat → Int) : Prop := ∀ i, (i < o_Ne ∨ ne_free < i) → G' i = G i
theorem eFrame.rf (G : Nat → Nat → Int) : eFrame G G := fun _ _ => rfl
theorem eFrame.trans {G1 G2 G3 : Nat → Nat → Int} (a : eFrame G1 G2) (b : eFrame G2 G3) : eFrame G1 G3 := fun i hi => (b i hi).trans (a i hi)
theorem eFrame.put {G G' : Nat → Nat → Int} (a : eFrame G G') {i j : Nat} {z : Int} (h1 : o_Ne ≤ i) (h2 : i ≤ ne_free) : eFrame G (up G' i j z) := fun k hk => (up_cell (by intro q; subst q; omega)).trans (a k hk)
theorem eFrame.rep {h : HH} {G G' : Nat → Nat → Int} (f : eFrame G G') (r : fRep h G) : fRep h G' := r.same (fun i _ h2 => f i (Or.inl (by simp only [o_Ne]; omega)))
theorem eFrame.one {G : Nat → Nat → Int} {i : Nat} {v : Nat → Int} (h1 : o_Ne ≤ i) (h2 : i ≤ ne_free) {G' : Nat → Nat → Int} (h : ∀ k, k ≠ i → G' k = G k) : eFrame G G' := fun k hk => h k (by intro q; subst q; omega)
def N0 : NT := (0, fun _ => 0, fun _ => 0, fun _ => 0)
section CN
variable {G : Nat → Nat → Int}
def mCleared (G : Nat → Nat → Int) : Option XV → XM → Prop := fun v τ => v = none ∧ ∃ G', τ = (S0, G') ∧ eFrame G G' ∧ cNet N0 (L0 N0) G'
theorem c_nclear : x_M y_Ne_clear [oNe] (S0, G) (fun r τ => ∃ v, r = .inl v ∧ mCleared G v τ) := by
  refine x_of 1 rfl (Nat.le_of_ble_eq_true rfl) ?_
  show x_A y_Ne_clear 0 [some oNe, none] [] (S0, G) 0 0 _
  generalize hQ : (fun (r : XRes) (τ : XM) => ∃ v, r = .inl v ∧ mCleared G v τ) = Q
  refine x_aload_n d_Ne_clear_0 rfl rfl ?_
  refine x_iconst (0) d_Ne_clear_1 rfl ⟨by decide, by decide⟩ ?_
  refine x_putIG (kf := 7) tyX4 d_Ne_clear_2 rfl rfl rfl in_Ne f_Ne_34 tyX4_ok nmX4 (by decide +kernel) rfl ?_
  refine x_iconst (0) d_Ne_clear_5 rfl ⟨by decide, by decide⟩ ?_
  refine x_istore_n d_Ne_clear_6 rfl (by decide) ?_
  dsimp only [x_st1, x_st2, x_kill, List.set, List.getElem?_cons_zero, List.getElem?_cons_succ]
  refine x_up_to (P := fun i => ∀ G', eFrame G G' → G' o_Ne 7 = 0 → (∀ n, n < i → G' ne_heads n = -1) → x_A y_Ne_clear 7 [some oNe, some (xI (i : Int))] [] (S0, G') 0 0 Q) 0 338 (Nat.zero_le _) (fun G' f1 f2 f3 => ?_) (fun i _ hi k G' f1 f2 f3 => ?_) _ ((eFrame.rf G).put (by decide) (by decide)) (up_same _ _ _ _) (fun n hn => by omega)
  · refine x_iload_n d_Ne_clear_7 rfl rfl ?_
    refine x_sipush (338) d_Ne_clear_8 rfl ⟨by decide, by decide⟩ ?_
    refine x_icmp_ge (27) d_Ne_clear_11 (by decide) (fun g => ?_) (fun g => ?_)
    · refine x_return d_Ne_clear_27 rfl ?_ (Nat.zero_le _) (Nat.zero_le _)
      rw [← hQ]
      exact ⟨none, rfl, rfl, G', rfl, f1, f2, fun e he => by simp only [N0] at he; omega, fun n hn => f3 n hn⟩
    · omega
  · refine x_iload_n d_Ne_clear_7 rfl rfl ?_
    refine x_sipush (338) d_Ne_clear_8 rfl ⟨by decide, by decide⟩ ?_
    refine x_icmp_ge (27) d_Ne_clear_11 (by decide) (fun g => ?_) (fun g => ?_)
    · omega
    · refine x_aload_n d_Ne_clear_14 rfl rfl ?_
      refine x_getF (kf := 0) d_Ne_clear_15 rfl rfl rfl in_Ne f_Ne_11 ?_
      refine x_iload_n d_Ne_clear_18 rfl rfl ?_
      refine x_iconst (-1) d_Ne_clear_19 rfl ⟨by decide, by decide⟩ ?_
      refine x_iastN (i) d_Ne_clear_20 rfl (by omega) (by omega) ?_
      refine x_iincN d_Ne_clear_21 rfl (by decide) (by omega) (by omega) ?_
      dsimp only [x_st1, x_st2, x_kill, List.set, List.getElem?_cons_zero, List.getElem?_cons_succ]
      refine x_goto (7) d_Ne_clear_24 (by decide) ?_
      refine k _ (f1.put (by decide) (by decide)) (by rw [up_cell (by decide)]; exact f2) (fun n hn => ?_)
      by_cases e : n = i
      · subst e; rw [up_same]
      · rw [up_ne e]; exact f3 n (by omega)
theorem c_addArc {A from' to wide : Nat} {w : Int} (hA : G o_Ne 7 = A) (h1 : A < 2048) (hf : from' < 338) (ht : to < 338) : x_M y_Ne_addArc [oNe, xI (from' : Int), xI (to : Int), xI w] (S0, G) (x_is (.inl none) (S0, up (up (up (up (up G ne_ends A to) ne_free A w) ne_later A (G ne_heads from')) ne_heads from' A) o_Ne 7 ((A : Int) + 1))) := by
  refine x_of 0 rfl (Nat.le_of_ble_eq_true rfl) ?_
  show x_A y_Ne_addArc 0 [some oNe, some (xI (from' : Int)), some (xI (to : Int)), some (xI w)] [] (S0, G) 0 0 _
  refine x_aload_n d_Ne_addArc_0 rfl rfl ?_
  refine x_getF (kf := 5) d_Ne_addArc_1 rfl rfl rfl in_Ne f_Ne_28 ?_
  refine x_aload_n d_Ne_addArc_4 rfl rfl ?_
  refine x_getIG (kf := 7) d_Ne_addArc_5 rfl rfl rfl in_Ne f_Ne_34 ?_
  rw [hA]
  refine x_iload_n d_Ne_addArc_8 rfl rfl ?_
  refine x_iastN (A) d_Ne_addArc_9 rfl (by omega) (by omega) ?_
  refine x_aload_n d_Ne_addArc_10 rfl rfl ?_
  refine x_getF (kf := 6) d_Ne_addArc_11 rfl rfl rfl in_Ne f_Ne_31 ?_
  refine x_aload_n d_Ne_addArc_14 rfl rfl ?_
  refine x_getIG (kf := 7) d_Ne_addArc_15 rfl rfl rfl in_Ne f_Ne_34 ?_
  rw [up_cell (show o_Ne ≠ ne_ends by decide), hA]
  refine x_iload_n d_Ne_addArc_18 rfl rfl ?_
  refine x_iastN (A) d_Ne_addArc_19 rfl (by omega) (by omega) ?_
  refine x_aload_n d_Ne_addArc_20 rfl rfl ?_
  refine x_getF (kf := 4) d_Ne_addArc_21 rfl rfl rfl in_Ne f_Ne_25 ?_
  refine x_aload_n d_Ne_addArc_24 rfl rfl ?_
  refine x_getIG (kf := 7) d_Ne_addArc_25 rfl rfl rfl in_Ne f_Ne_34 ?_
  rw [up_cell (show o_Ne ≠ ne_free by decide), up_cell (show o_Ne ≠ ne_ends by decide), hA]
  refine x_aload_n d_Ne_addArc_28 rfl rfl ?_
  refine x_getF (kf := 0) d_Ne_addArc_29 rfl rfl rfl in_Ne f_Ne_11 ?_
  refine x_iload_n d_Ne_addArc_32 rfl rfl ?_
  refine x_ialdN (from') d_Ne_addArc_33 rfl (by omega) (by omega) ?_
  rw [up_cell (show ne_heads ≠ ne_free by decide), up_cell (show ne_heads ≠ ne_ends by decide)]
  refine x_iastN (A) d_Ne_addArc_34 rfl (by omega) (by omega) ?_
  refine x_aload_n d_Ne_addArc_35 rfl rfl ?_
  refine x_getF (kf := 0) d_Ne_addArc_36 rfl rfl rfl in_Ne f_Ne_11 ?_
  refine x_iload_n d_Ne_addArc_39 rfl rfl ?_
  refine x_aload_n d_Ne_addArc_40 rfl rfl ?_
  refine x_getIG (kf := 7) d_Ne_addArc_41 rfl rfl rfl in_Ne f_Ne_34 ?_
  rw [up_cell (show o_Ne ≠ ne_later by decide), up_cell (show o_Ne ≠ ne_free by decide), up_cell (show o_Ne ≠ ne_ends by decide), hA]
  refine x_iastN (from') d_Ne_addArc_44 rfl (by omega) (by omega) ?_
  refine x_aload_n d_Ne_addArc_45 rfl rfl ?_
  refine x_dup d_Ne_addArc_46 rfl ?_
  refine x_getIG (kf := 7) d_Ne_addArc_47 rfl rfl rfl in_Ne f_Ne_34 ?_
  rw [up_cell (show o_Ne ≠ ne_heads by decide), up_cell (show o_Ne ≠ ne_later by decide), up_cell (show o_Ne ≠ ne_free by decide), up_cell (show o_Ne ≠ ne_ends by decide), hA]
  refine x_iconst (1) d_Ne_addArc_50 rfl ⟨by decide, by decide⟩ ?_
  refine x_iaddN d_Ne_addArc_51 (by omega) (by omega) ?_
  refine x_putIG (kf := 7) tyX4 d_Ne_addArc_52 rfl rfl rfl in_Ne f_Ne_34 tyX4_ok nmX4 (by decide +kernel) rfl ?_
  refine x_return d_Ne_addArc_55 rfl ?_ (Nat.zero_le _) (Nat.zero_le _)
  exact ⟨rfl, rfl⟩
/-- two arcs more -/
theorem cNet_add {N : NT} {L : Nat → Int} (hn : cNet N L G) (hK : N.1 < 1024) {a b : Nat} {c : Int} (hab : a ≠ b) (ha : a < 338) (hb : b < 338) :
    cNet (nAdd N a b c) (lAdd N L c) (up (up (up (up (up (up (up (up (up (up G ne_ends (2 * N.1) b) ne_free (2 * N.1) c) ne_later (2 * N.1) (G ne_heads a)) ne_heads a (2 * N.1 : Nat)) o_Ne 7 (((2 * N.1 : Nat) : Int) + 1)) ne_ends (2 * N.1 + 1) a) ne_free (2 * N.1 + 1) 0) ne_later (2 * N.1 + 1) (G ne_heads b)) ne_heads b (2 * N.1 + 1 : Nat)) o_Ne 7 (((2 * N.1 + 1 : Nat) : Int) + 1)) := by
  obtain ⟨n1, n2, n3⟩ := hn
  have e0 := nAdd_0 N a b c
  have e1 := nAdd_1 N a b c
  generalize hG' : up (up (up (up (up (up (up (up (up (up G ne_ends (2 * N.1) b) ne_free (2 * N.1) c) ne_later (2 * N.1) (G ne_heads a)) ne_heads a (2 * N.1 : Nat)) o_Ne 7 (((2 * N.1 : Nat) : Int) + 1)) ne_ends (2 * N.1 + 1) a) ne_free (2 * N.1 + 1) 0) ne_later (2 * N.1 + 1) (G ne_heads b)) ne_heads b (2 * N.1 + 1 : Nat)) o_Ne 7 (((2 * N.1 + 1 : Nat) : Int) + 1) = G'
  have vE : ∀ e, G' ne_ends e = if e = 2 * N.1 + 1 then (a : Int) else if e = 2 * N.1 then (b : Int) else G ne_ends e := fun e => by
    rw [← hG']; simp [up, ne_ends, ne_free, ne_later, ne_heads, o_Ne]
  have vF : ∀ e, G' ne_free e = if e = 2 * N.1 + 1 then 0 else if e = 2 * N.1 then c else G ne_free e := fun e => by
    rw [← hG']; simp [up, ne_ends, ne_free, ne_later, ne_heads, o_Ne]
  have vL : ∀ e, G' ne_later e = if e = 2 * N.1 + 1 then G ne_heads b else if e = 2 * N.1 then G ne_heads a else G ne_later e := fun e => by
    rw [← hG']; simp [up, ne_ends, ne_free, ne_later, ne_heads, o_Ne]
  have vH : ∀ n, G' ne_heads n = if n = b then ((2 * N.1 + 1 : Nat) : Int) else if n = a then ((2 * N.1 : Nat) : Int) else G ne_heads n := fun n => by
    rw [← hG']; simp [up, ne_ends, ne_free, ne_later, ne_heads, o_Ne]
  refine ⟨?_, fun e he => ?_, fun n hn => ?_⟩
  · rw [← hG', up_same]
    show _ = 2 * ((N.1 + 1 : Nat) : Int)
    omega
  · have he' : e < 2 * (N.1 + 1) := he
    rw [vE, vF, vL]
    by_cases q1 : e = 2 * N.1 + 1
    · subst q1
      rw [if_pos rfl, if_pos rfl, if_pos rfl, e1.1, e1.2]
      refine ⟨rfl, ?_, ?_⟩
      · rw [n3 b hb]
        show _ = if te (nAdd N a b c) (2 * N.1) = b then _ else prv (nAdd N a b c) b (2 * N.1)
        rw [e0.1, if_neg hab, prv_congr (fun j hj => (nAdd_te hj).1)]
      · unfold lAdd
        rw [if_neg (show ¬ 2 * N.1 + 1 = 2 * N.1 by omega), if_pos rfl]
    · by_cases q0 : e = 2 * N.1
      · subst q0
        rw [if_neg q1, if_neg q1, if_neg q1, if_pos rfl, if_pos rfl, if_pos rfl, e0.1, e0.2]
        refine ⟨rfl, ?_, ?_⟩
        · rw [n3 a ha, prv_congr (fun j hj => (nAdd_te hj).1)]
        · unfold lAdd
          rw [if_pos rfl]
      · rw [if_neg q1, if_neg q1, if_neg q1, if_neg q0, if_neg q0, if_neg q0]
        have hl : e < 2 * N.1 := by omega
        obtain ⟨z1, z2, z3⟩ := n2 e hl
        obtain ⟨y1, y2⟩ := nAdd_te (a := a) (b := b) (c := c) hl
        refine ⟨by rw [z1, y2], ?_, ?_⟩
        · rw [z2, y1, prv_congr (fun j hj => (nAdd_te (by omega)).1)]
        · unfold lAdd
          rw [if_neg q0, if_neg q1, z3]
  · rw [vH]
    show _ = if te (nAdd N a b c) (2 * N.1 + 1) = n then ((2 * N.1 + 1 : Nat) : Int) else if te (nAdd N a b c) (2 * N.1) = n then ((2 * N.1 : Nat) : Int) else prv (nAdd N a b c) n (2 * N.1)
    rw [e1.1, e0.1]
    by_cases q1 : n = b
    · subst q1
      rw [if_pos rfl, if_pos rfl]
    · rw [if_neg q1, if_neg (show ¬ b = n from fun z => q1 z.symm)]
      by_cases q0 : n = a
      · subst q0
        rw [if_pos rfl, if_pos rfl]
      · rw [if_neg q0, if_neg (show ¬ a = n from fun z => q0 z.symm), n3 n hn, prv_congr (fun j hj => (nAdd_te hj).1)]
/-- a net that stands for what is joined so far -/
def jInv (G : Nat → Nat → Int) (kmax : Nat) (F : (Nat → Bool) → Int) (G' : Nat → Nat → Int) : Prop := ∃ N : NT, nWf N ∧ N.1 ≤ kmax ∧ cNet N (L0 N) G' ∧ (∀ S, cut N S = F S) ∧ eFrame G G'
theorem cNet.congr {N : NT} {L L' : Nat → Int} (h : cNet N L G) (e : ∀ i, i < 2 * N.1 → L i = L' i) : cNet N L' G :=
  ⟨h.1, fun i hi => ⟨(h.2.1 i hi).1, (h.2.1 i hi).2.1, by rw [(h.2.1 i hi).2.2]; exact e i hi⟩, h.2.2⟩
theorem jInv.to {G G' : Nat → Nat → Int} {k k' : Nat} {F F' : (Nat → Bool) → Int} (h : jInv G k F G') (hk : k ≤ k') (hF : ∀ S, F S = F' S) : jInv G k' F' G' := by
  obtain ⟨N, h1, h2, h3, h4, h5⟩ := h
  exact ⟨N, h1, by omega, h3, fun S => (h4 S).trans (hF S), h5⟩
def mJoined (G : Nat → Nat → Int) (kmax : Nat) (F : (Nat → Bool) → Int) : Option XV → XM → Prop := fun v τ => v = none ∧ ∃ G', τ = (S0, G') ∧ jInv G kmax F G'
theorem c_join {G G0 : Nat → Nat → Int} {kmax : Nat} {F : (Nat → Bool) → Int} (hI : jInv G0 kmax F G) (hk : kmax < 1024) (a b : Nat) (c : Int) (hab : a ≠ b) (ha : a < 338) (hb : b < 338) (hc : 0 ≤ c ∧ c ≤ 1000000) : x_M y_Ne_join [oNe, xI (a : Int), xI (b : Int), xI c] (S0, G) (fun r τ => ∃ v, r = .inl v ∧ mJoined G0 (kmax + 1) (fun S => F S + ind S a b c) v τ) := by
  obtain ⟨N, h1, h2, h3, h4, h5⟩ := hI
  refine x_of 1 rfl (Nat.le_of_ble_eq_true rfl) ?_
  show x_A y_Ne_join 0 [some oNe, some (xI (a : Int)), some (xI (b : Int)), some (xI c), none] [] (S0, G) 0 0 _
  generalize hQ : (fun (r : XRes) (τ : XM) => ∃ v, r = .inl v ∧ mJoined G0 (kmax + 1) (fun S => F S + ind S a b c) v τ) = Q
  have n1 : G o_Ne 7 = ((2 * N.1 : Nat) : Int) := by rw [h3.1]; omega
  refine x_iload_n d_Ne_join_0 rfl rfl ?_
  refine x_if_lt (26) d_Ne_join_1 (by decide) (fun g => ?_) (fun g => ?_)
  · omega
  · refine x_iload_n d_Ne_join_4 rfl rfl ?_
    refine x_sipush (338) d_Ne_join_5 rfl ⟨by decide, by decide⟩ ?_
    refine x_icmp_ge (26) d_Ne_join_8 (by decide) (fun g => ?_) (fun g => ?_)
    · omega
    · refine x_iload_n d_Ne_join_11 rfl rfl ?_
      refine x_if_lt (26) d_Ne_join_12 (by decide) (fun g => ?_) (fun g => ?_)
      · omega
      · refine x_iload_n d_Ne_join_15 rfl rfl ?_
        refine x_sipush (338) d_Ne_join_16 rfl ⟨by decide, by decide⟩ ?_
        refine x_icmp_ge (26) d_Ne_join_19 (by decide) (fun g => ?_) (fun g => ?_)
        · omega
        · refine x_iconst (1) d_Ne_join_22 rfl ⟨by decide, by decide⟩ ?_
          refine x_goto (27) d_Ne_join_23 (by decide) ?_
          refine x_istore d_Ne_join_27 (by decide) ?_
          dsimp only [x_st1, x_st2, x_kill, List.set, List.getElem?_cons_zero, List.getElem?_cons_succ]
          refine x_iload d_Ne_join_29 rfl ?_
          refine x_if_eq (64) d_Ne_join_31 (by decide) (fun g => ?_) (fun g => ?_)
          · cases g
          · refine x_iload_n d_Ne_join_34 rfl rfl ?_
            refine x_if_le (64) d_Ne_join_35 (by decide) (fun g2 => ?_) (fun g2 => ?_)
            · refine x_return d_Ne_join_64 rfl ?_ (Nat.zero_le _) (Nat.zero_le _)
              rw [← hQ]
              have : c = 0 := by omega
              subst this
              exact ⟨none, rfl, rfl, G, rfl, N, h1, by omega, h3, fun S => by dsimp only; rw [h4, ind_0]; omega, h5⟩
            · refine x_aload_n d_Ne_join_38 rfl rfl ?_
              refine x_getIG (kf := 7) d_Ne_join_39 rfl rfl rfl in_Ne f_Ne_34 ?_
              rw [n1]
              refine x_iconst (2) d_Ne_join_42 rfl ⟨by decide, by decide⟩ ?_
              refine x_iaddN d_Ne_join_43 (by omega) (by omega) ?_
              refine x_sipush (2048) d_Ne_join_44 rfl ⟨by decide, by decide⟩ ?_
              refine x_icmp_gt (64) d_Ne_join_47 (by decide) (fun g3 => ?_) (fun g3 => ?_)
              · omega
              · refine x_aload_n d_Ne_join_50 rfl rfl ?_
                refine x_iload_n d_Ne_join_51 rfl rfl ?_
                refine x_iload_n d_Ne_join_52 rfl rfl ?_
                refine x_iload_n d_Ne_join_53 rfl rfl ?_
                refine x_V0 d_Ne_join_54 e_Ne_join_Ne_addArc ⟨rfl, rfl, Nat.zero_le _, Nat.zero_le _⟩ rfl rfl rfl rfl (Nat.le_of_ble_eq_true rfl) (c_addArc (wide := 0) n1 (by omega) ha hb) ?_
                refine x_aload_n d_Ne_join_57 rfl rfl ?_
                refine x_iload_n d_Ne_join_58 rfl rfl ?_
                refine x_iload_n d_Ne_join_59 rfl rfl ?_
                refine x_iconst (0) d_Ne_join_60 rfl ⟨by decide, by decide⟩ ?_
                refine x_V0 d_Ne_join_61 e_Ne_join_Ne_addArc ⟨rfl, rfl, Nat.zero_le _, Nat.zero_le _⟩ rfl rfl rfl rfl (Nat.le_of_ble_eq_true rfl) (c_addArc (A := 2 * N.1 + 1) (wide := 0) (up_same _ _ _ _) (by omega) hb ha) ?_
                refine x_return d_Ne_join_64 rfl ?_ (Nat.zero_le _) (Nat.zero_le _)
                rw [← hQ]
                refine ⟨none, rfl, rfl, _, rfl, nAdd N a b c, nAdd_wf h1 (by omega) ha hb hc, by show N.1 + 1 ≤ _; omega, ?_, fun S => by rw [cut_add, h4], ?_⟩
                · have := (cNet_add (c := c) h3 (by omega) hab ha hb).congr (fun i hi => L0_add N a b c hi)
                  have e : up (up (up (up (up G ne_ends (2 * N.1) b) ne_free (2 * N.1) c) ne_later (2 * N.1) (G ne_heads a)) ne_heads a (2 * N.1 : Nat)) o_Ne 7 (((2 * N.1 : Nat) : Int) + 1) ne_heads b = G ne_heads b := by
                    rw [up_cell (by decide), up_ne (fun z => hab z.symm), up_cell (by decide), up_cell (by decide), up_cell (by decide)]
                  rw [e]
                  exact this
                · exact ((((((((((h5.put (by decide) (by decide)).put (by decide) (by decide)).put (by decide) (by decide)).put (by decide) (by decide)).put (by decide) (by decide)).put (by decide) (by decide)).put (by decide) (by decide)).put (by decide) (by decide)).put (by decide) (by decide)).put (by decide) (by decide))
theorem c_isReached (n : Nat) (hn : n < 338) : x_M y_Ne_isReached [oNe, xI (n : Int)] (S0, G) (x_is (.inl (some (xI (if G ne_seen n = 0 then 0 else 1)))) (S0, G)) := by
  refine x_of 0 rfl (Nat.le_of_ble_eq_true rfl) ?_
  show x_A y_Ne_isReached 0 [some oNe, some (xI (n : Int))] [] (S0, G) 0 0 _
  refine x_iload_n d_Ne_isReached_0 rfl rfl ?_
  refine x_if_lt (24) d_Ne_isReached_1 (by decide) (fun g => ?_) (fun g => ?_)
  · omega
  · refine x_iload_n d_Ne_isReached_4 rfl rfl ?_
    refine x_sipush (338) d_Ne_isReached_5 rfl ⟨by decide, by decide⟩ ?_
    refine x_icmp_ge (24) d_Ne_isReached_8 (by decide) (fun g => ?_) (fun g => ?_)
    · omega
    · refine x_aload_n d_Ne_isReached_11 rfl rfl ?_
      refine x_getF (kf := 3) d_Ne_isReached_12 rfl rfl rfl in_Ne f_Ne_21 ?_
      refine x_iload_n d_Ne_isReached_15 rfl rfl ?_
      refine x_baldN (n) d_Ne_isReached_16 rfl (by omega) (by omega) ?_
      refine x_if_eq (24) d_Ne_isReached_17 (by decide) (fun g => ?_) (fun g => ?_)
      · refine x_iconst (0) d_Ne_isReached_24 rfl ⟨by decide, by decide⟩ ?_
        refine x_zreturn d_Ne_isReached_25 rfl (by first | exact Or.inl rfl | exact Or.inr rfl | (split <;> first | exact Or.inl rfl | exact Or.inr rfl) | assumption) ?_ (Nat.zero_le _) (Nat.zero_le _)
        rw [if_pos g]
        exact ⟨rfl, rfl⟩
      · refine x_iconst (1) d_Ne_isReached_20 rfl ⟨by decide, by decide⟩ ?_
        refine x_goto (25) d_Ne_isReached_21 (by decide) ?_
        refine x_zreturn d_Ne_isReached_25 rfl (by first | exact Or.inl rfl | exact Or.inr rfl | (split <;> first | exact Or.inl rfl | exact Or.inr rfl) | assumption) ?_ (Nat.zero_le _) (Nat.zero_le _)
        rw [if_neg g]
        exact ⟨rfl, rfl⟩
theorem c_leastFree {N : NT} {L : Nat → Int} (hw : nWf N) (hn : cNet N L G) (p : Nat → Nat) (d : Nat) (hp : ∀ i, i < d → G ne_path i = p i ∧ p i < 2 * N.1) (hd : d ≤ 338) (hK : N.1 ≤ 1024) : x_M y_Ne_leastFree [oNe, xI (d : Int)] (S0, G) (x_is (.inl (some (xI (pmin L p d)))) (S0, G)) := by
  refine x_of 3 rfl (Nat.le_of_ble_eq_true rfl) ?_
  show x_A y_Ne_leastFree 0 [some oNe, some (xI (d : Int)), none, none, none] [] (S0, G) 0 0 _
  refine x_ldc (1000000) d_Ne_leastFree_0 k_Ne_42 ⟨by decide, by decide⟩ ?_
  refine x_istore_n d_Ne_leastFree_2 rfl (by decide) ?_
  dsimp only [x_st1, x_st2, x_kill, List.set, List.getElem?_cons_zero, List.getElem?_cons_succ]
  refine x_iconst (0) d_Ne_leastFree_3 rfl ⟨by decide, by decide⟩ ?_
  refine x_istore_n d_Ne_leastFree_4 rfl (by decide) ?_
  dsimp only [x_st1, x_st2, x_kill, List.set, List.getElem?_cons_zero, List.getElem?_cons_succ]
  refine x_up_to (P := fun i => ∀ z, x_A y_Ne_leastFree 5 [some oNe, some (xI (d : Int)), some (xI (pmin L p i)), some (xI (i : Int)), z] [] (S0, G) 0 0 (x_is (.inl (some (xI (pmin L p d)))) (S0, G))) 0 d (Nat.zero_le _) (fun z => ?_) (fun i _ hi k z => ?_) none
  · refine x_iload_n d_Ne_leastFree_5 rfl rfl ?_
    refine x_iload_n d_Ne_leastFree_6 rfl rfl ?_
    refine x_icmp_ge (42) d_Ne_leastFree_7 (by decide) (fun g => ?_) (fun g => ?_)
    · refine x_iload_n d_Ne_leastFree_42 rfl rfl ?_
      refine x_ireturn d_Ne_leastFree_43 rfl ?_ (Nat.zero_le _) (Nat.zero_le _)
      exact ⟨rfl, rfl⟩
    · omega
  · obtain ⟨p1, p2⟩ := hp i hi
    have e3 := (hn.2.1 (p i) p2).2.2
    have e : pmin L p (i + 1) = min (pmin L p i) (L (p i)) := rfl
    refine x_iload_n d_Ne_leastFree_5 rfl rfl ?_
    refine x_iload_n d_Ne_leastFree_6 rfl rfl ?_
    refine x_icmp_ge (42) d_Ne_leastFree_7 (by decide) (fun g => ?_) (fun g => ?_)
    · omega
    · refine x_aload_n d_Ne_leastFree_10 rfl rfl ?_
      refine x_getF (kf := 6) d_Ne_leastFree_11 rfl rfl rfl in_Ne f_Ne_31 ?_
      refine x_aload_n d_Ne_leastFree_14 rfl rfl ?_
      refine x_getF (kf := 2) d_Ne_leastFree_15 rfl rfl rfl in_Ne f_Ne_18 ?_
      refine x_iload_n d_Ne_leastFree_18 rfl rfl ?_
      refine x_ialdN (i) d_Ne_leastFree_19 rfl (by omega) (by omega) ?_
      rw [p1]
      refine x_ialdN (p i) d_Ne_leastFree_20 rfl (by omega) (by omega) ?_
      rw [e3]
      refine x_istore d_Ne_leastFree_21 (by decide) ?_
      dsimp only [x_st1, x_st2, x_kill, List.set, List.getElem?_cons_zero, List.getElem?_cons_succ]
      refine x_iload d_Ne_leastFree_23 rfl ?_
      refine x_iload_n d_Ne_leastFree_25 rfl rfl ?_
      refine x_icmp_ge (34) d_Ne_leastFree_26 (by decide) (fun g2 => ?_) (fun g2 => ?_)
      · refine x_iload_n d_Ne_leastFree_34 rfl rfl ?_
        refine x_istore_n d_Ne_leastFree_35 rfl (by decide) ?_
        dsimp only [x_st1, x_st2, x_kill, List.set, List.getElem?_cons_zero, List.getElem?_cons_succ]
        refine x_iincN d_Ne_leastFree_36 rfl (by decide) (by omega) (by omega) ?_
        dsimp only [x_st1, x_st2, x_kill, List.set, List.getElem?_cons_zero, List.getElem?_cons_succ]
        refine x_goto (5) d_Ne_leastFree_39 (by decide) ?_
        rw [e, show min (pmin L p i) (L (p i)) = pmin L p i by omega] at k
        exact k _
      · refine x_iload d_Ne_leastFree_29 rfl ?_
        refine x_goto (35) d_Ne_leastFree_31 (by decide) ?_
        refine x_istore_n d_Ne_leastFree_35 rfl (by decide) ?_
        dsimp only [x_st1, x_st2, x_kill, List.set, List.getElem?_cons_zero, List.getElem?_cons_succ]
        refine x_iincN d_Ne_leastFree_36 rfl (by decide) (by omega) (by omega) ?_
        dsimp only [x_st1, x_st2, x_kill, List.set, List.getElem?_cons_zero, List.getElem?_cons_succ]
        refine x_goto (5) d_Ne_leastFree_39 (by decide) ?_
        rw [e, show min (pmin L p i) (L (p i)) = L (p i) by omega] at k
        exact k _
end CN
