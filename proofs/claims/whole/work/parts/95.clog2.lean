/-! the class: taking back, doing again, new acts -/
def cLog (hs : Nat → HH) (ds : Nat → Nat × Int) (base done logged : Nat) (G : Nat → Nat → Int) : Prop := ∃ ol : Nat, ol < 100 ∧ G o_Ac 3 = ol ∧ G o_Ac 4 = ((done - base : Nat) : Int) ∧ G o_Ac 5 = ((logged - done : Nat) : Int) ∧ cLogB hs ds base done logged ol G
def nH (hs : Nat → HH) (k : Nat) (h' : HH) : Nat → HH := fun i => if i ≤ k then hs i else h'
def nD (ds : Nat → Nat × Int) (k : Nat) (a : Nat × Int) : Nat → Nat × Int := fun i => if i = k then a else ds i
section CLg2
variable {hs : Nat → HH} {ds : Nat → Nat × Int} {base k logged ol : Nat} {G : Nat → Nat → Int}
theorem toG_o {t q s i : Nat} {b : Bool} (h1 : i ≠ t) (h2 : i ≠ q) (h3 : i ≠ ac_kept) : toG G t q s b i = G i := by
  unfold toG
  split
  · split
    · exact up_cell h1
    · exact up_cell h1
  · exact swG_o h2 h3
theorem cHist.new {h' : HH} {a : Nat × Int} (x : cHist hs ds base k logged) (st : stp (hs k) h' a) (wf : Hwf h' ∧ h'.2 9 = 1) : cHist (nH hs k h') (nD ds k a) (max base (k + 1 - 100)) (k + 1) (k + 1) := by
  have hb := x.1
  refine ⟨by omega, fun i hi => ?_, fun i hi => ?_⟩
  · unfold nH
    split
    · exact x.2.1 i (by omega)
    · exact wf
  · unfold nH nD
    by_cases e : i = k
    · subst e
      rw [if_pos (Nat.le_refl _), if_neg (by omega), if_pos rfl]
      exact st
    · rw [if_pos (by omega), if_pos (by omega), if_neg e]
      exact x.2.2 i (by omega)
theorem cLogB.new (x : cLogB hs ds base k logged ol G) (hol : ol < 100) {h' : HH} {T : Nat} {ro : Int} (st : stp (hs k) h' (T, ro)) (wf : Hwf h' ∧ h'.2 9 = 1) {G2 : Nat → Nat → Int} {s : Nat} (hs0 : s = (olN ol (k - base) + dnN (k - base)) % 100) (e1 : G2 ac_tables = fun j => if j = s then ((6 + 2 * T : Nat) : Int) + 1 else G ac_tables j) (e2 : G2 ac_changed = fun j => if j = s then ro else G ac_changed j) (e3 : ∀ j, ¬ (6 * s ≤ j ∧ j < 6 * s + 6) → G2 ac_kept j = G ac_kept j) (e4 : 0 ≤ ro → ∀ c, c < 6 → G2 ac_kept (6 * s + c) = (hs k).1 T ro.toNat c) (rep : fRep h' G2) : cLogB (nH hs k h') (nD ds k (T, ro)) (max base (k + 1 - 100)) (k + 1) (k + 1) (olN ol (k - base)) G2 := by
  obtain ⟨hist, _, ring, late⟩ := x
  have hb := hist.1
  have sls : ∀ i, max base (k + 1 - 100) ≤ i → sl (olN ol (k - base)) (max base (k + 1 - 100)) i = sl ol base i := by
    intro i hi
    unfold sl olN
    by_cases e : k - base = 100
    · rw [if_pos e, show max base (k + 1 - 100) = base + 1 by omega]; omega
    · rw [if_neg e, show max base (k + 1 - 100) = base by omega]
  have slk : sl (olN ol (k - base)) (max base (k + 1 - 100)) k = s := by
    rw [hs0]
    unfold sl dnN
    by_cases e : k - base = 100
    · rw [if_pos e, show max base (k + 1 - 100) = base + 1 by omega, show k - (base + 1) = 99 by omega]
    · rw [if_neg e, show max base (k + 1 - 100) = base by omega]
  refine ⟨hist.new st wf, ?_, fun i h1 h2 => ?_, fun i h1 h2 => by omega⟩
  · unfold nH
    rw [if_neg (by omega)]
    exact rep
  · by_cases e : i = k
    · subst e
      rw [slk, e1, e2]
      unfold nH nD
      rw [if_pos rfl, if_pos (by omega : i < i + 1), if_pos (Nat.le_refl _)]
      exact ⟨if_pos rfl, if_pos rfl, fun h0 c hc => e4 h0 c hc⟩
    · have ne := sl_ne (ol := olN ol (k - base)) h1 (j := k) (by omega) (by omega) (by omega) e
      rw [slk] at ne
      have ri := ring i (by omega) (by omega)
      rw [← sls i h1] at ri
      rw [e1, e2]
      unfold nH nD
      rw [if_neg e, if_pos (by omega : i < k + 1), if_pos (by omega : i ≤ k)]
      rw [if_pos (by omega : i < k)] at ri
      refine ⟨?_, ?_, fun h0 c hc => ?_⟩
      · show (if _ then _ else _) = _
        rw [if_neg ne]; exact ri.1
      · show (if _ then _ else _) = _
        rw [if_neg ne]; exact ri.2.1
      · rw [e3 _ (by omega)]; exact ri.2.2 h0 c hc
def mTook (hs : Nat → HH) (ds : Nat → Nat × Int) (base done' logged : Nat) (G : Nat → Nat → Int) : Option XV → XM → Prop := fun v τ => v = some (xI 1) ∧ ∃ G', τ = (S0, G') ∧ cLog hs ds base done' logged G' ∧ G' o_Ac 6 = G o_Ac 6 + 1 ∧ ∀ i, 26 ≤ i → G' i = G i
theorem c_takeBack0 (h : G o_Ac 4 = 0) : x_M y_Ac_takeBack [oAc] (S0, G) (x_is (.inl (some (xI 0))) (S0, G)) := by
  refine x_of 0 rfl (Nat.le_of_ble_eq_true rfl) ?_
  show x_A y_Ac_takeBack 0 [some oAc] [] (S0, G) 0 0 _
  refine x_aload_n d_Ac_takeBack_0 rfl rfl ?_
  refine x_getIG (kf := 4) d_Ac_takeBack_1 rfl rfl rfl in_Ac f_Ac_24 ?_
  refine x_if_ne (9) d_Ac_takeBack_4 (by decide) (fun g => ?_) (fun g => ?_)
  · exact absurd h g
  · refine x_iconst (0) d_Ac_takeBack_7 rfl ⟨by decide, by decide⟩ ?_
    refine x_zreturn d_Ac_takeBack_8 rfl (by first | exact Or.inl rfl | exact Or.inr rfl | (split <;> first | exact Or.inl rfl | exact Or.inr rfl) | assumption) ?_ (Nat.zero_le _) (Nat.zero_le _)
    exact ⟨rfl, rfl⟩
theorem c_doAgain0 (h : G o_Ac 5 = 0) : x_M y_Ac_doAgain [oAc] (S0, G) (x_is (.inl (some (xI 0))) (S0, G)) := by
  refine x_of 0 rfl (Nat.le_of_ble_eq_true rfl) ?_
  show x_A y_Ac_doAgain 0 [some oAc] [] (S0, G) 0 0 _
  refine x_aload_n d_Ac_doAgain_0 rfl rfl ?_
  refine x_getIG (kf := 5) d_Ac_doAgain_1 rfl rfl rfl in_Ac f_Ac_28 ?_
  refine x_if_ne (9) d_Ac_doAgain_4 (by decide) (fun g => ?_) (fun g => ?_)
  · exact absurd h g
  · refine x_iconst (0) d_Ac_doAgain_7 rfl ⟨by decide, by decide⟩ ?_
    refine x_zreturn d_Ac_doAgain_8 rfl (by first | exact Or.inl rfl | exact Or.inr rfl | (split <;> first | exact Or.inl rfl | exact Or.inr rfl) | assumption) ?_ (Nat.zero_le _) (Nat.zero_le _)
    exact ⟨rfl, rfl⟩
/-- what turnOver asks -/
theorem cLogB.ask {done : Nat} (x : cLogB hs ds base done logged ol G) {i : Nat} (h1 : base ≤ i) (h2 : i < logged) {b : Bool} (hb : if b = true then i = done else done = i + 1) : G ac_tables (sl ol base i) = ((6 + 2 * (ds i).1 : Nat) : Int) + 1 ∧ ((G ac_changed (sl ol base i) = -1 ∧ (if b = true then 0 ≤ G (6 + 2 * (ds i).1) 2 ∧ G (6 + 2 * (ds i).1) 2 < lim (ds i).1 else 0 < G (6 + 2 * (ds i).1) 2 ∧ G (6 + 2 * (ds i).1) 2 ≤ lim (ds i).1)) ∨ (0 ≤ G ac_changed (sl ol base i) ∧ G ac_changed (sl ol base i) < lim (ds i).1)) := by
  have ri := x.2.2.1 i h1 h2
  have st := x.1.2.2 i h2
  have hb1 := x.1.1
  refine ⟨ri.1, ?_⟩
  rw [ri.2.1]
  have rT := (x.2.1.2 (ds i).1 st.1).1
  rcases st.2 with ⟨s1, s2, s3, s4⟩ | ⟨r, s1, s2, s3, s4⟩
  · refine Or.inl ⟨s1, ?_⟩
    rw [rT]
    cases b with
    | true =>
      have hb : i = done := hb
      subst hb
      rw [if_pos rfl]
      omega
    | false =>
      have hb : done = i + 1 := hb
      subst hb
      rw [if_neg (by decide), s3, if_pos rfl]
      omega
  · right
    have := (x.1.2.1 i (by omega)).1.lim (x.1.2.1 i (by omega)).2 st.1
    omega
theorem c_takeBack (x : cLog hs ds base (k + 1) logged G) (hk : base ≤ k) (h5 : 0 ≤ G o_Ac 6 ∧ G o_Ac 6 ≤ 100000) : x_M y_Ac_takeBack [oAc] (S0, G) (fun r τ => ∃ v, r = .inl v ∧ mTook hs ds base k logged G v τ) := by
  obtain ⟨ol, x1, x2, x3, x4, x5⟩ := x
  have hb := x5.1.1
  refine x_of 0 rfl (Nat.le_of_ble_eq_true rfl) ?_
  show x_A y_Ac_takeBack 0 [some oAc] [] (S0, G) 0 0 _
  generalize hQ : (fun (r : XRes) (τ : XM) => ∃ v, r = .inl v ∧ mTook hs ds base k logged G v τ) = Q
  refine x_aload_n d_Ac_takeBack_0 rfl rfl ?_
  refine x_getIG (kf := 4) d_Ac_takeBack_1 rfl rfl rfl in_Ac f_Ac_24 ?_
  rw [x3]
  refine x_if_ne (9) d_Ac_takeBack_4 (by decide) (fun g => ?_) (fun g => ?_)
  · refine x_aload_n d_Ac_takeBack_9 rfl rfl ?_
    refine x_dup d_Ac_takeBack_10 rfl ?_
    refine x_getIG (kf := 4) d_Ac_takeBack_11 rfl rfl rfl in_Ac f_Ac_24 ?_
    rw [x3]
    refine x_iconst (1) d_Ac_takeBack_14 rfl ⟨by decide, by decide⟩ ?_
    refine x_isubN d_Ac_takeBack_15 (by omega) (by omega) ?_
    refine x_putIG (kf := 4) tyX0 d_Ac_takeBack_16 rfl rfl rfl in_Ac f_Ac_24 tyX0_ok nmX0 (by decide +kernel) rfl ?_
    refine x_aload_n d_Ac_takeBack_19 rfl rfl ?_
    refine x_dup d_Ac_takeBack_20 rfl ?_
    refine x_getIG (kf := 5) d_Ac_takeBack_21 rfl rfl rfl in_Ac f_Ac_28 ?_
    rw [up_ne (by decide), x4]
    refine x_iconst (1) d_Ac_takeBack_24 rfl ⟨by decide, by decide⟩ ?_
    refine x_iaddN d_Ac_takeBack_25 (by omega) (by omega) ?_
    refine x_putIG (kf := 5) tyX0 d_Ac_takeBack_26 rfl rfl rfl in_Ac f_Ac_28 tyX0_ok nmX0 (by decide +kernel) rfl ?_
    refine x_aload_n d_Ac_takeBack_29 rfl rfl ?_
    refine x_dup d_Ac_takeBack_30 rfl ?_
    refine x_getIG (kf := 6) d_Ac_takeBack_31 rfl rfl rfl in_Ac f_Ac_31 ?_
    rw [up_ne (by decide), up_ne (by decide)]
    refine x_iconst (1) d_Ac_takeBack_34 rfl ⟨by decide, by decide⟩ ?_
    refine x_iaddN d_Ac_takeBack_35 (by omega) (by omega) ?_
    refine x_putIG (kf := 6) tyX0 d_Ac_takeBack_36 rfl rfl rfl in_Ac f_Ac_31 tyX0_ok nmX0 (by decide +kernel) rfl ?_
    generalize hG1 : up (up (up G o_Ac 4 (((k + 1 - base : Nat) : Int) - 1)) o_Ac 5 (((logged - (k + 1) : Nat) : Int) + 1)) o_Ac 6 (G o_Ac 6 + 1) = G1
    have f1 : ∀ i, i ≠ o_Ac → G1 i = G i := fun i hi => by rw [← hG1, up_cell hi, up_cell hi, up_cell hi]
    have f3 : G1 o_Ac 3 = ol := by rw [← hG1, up_ne (by decide), up_ne (by decide), up_ne (by decide)]; exact x2
    have f4 : G1 o_Ac 4 = ((k - base : Nat) : Int) := by rw [← hG1, up_ne (by decide), up_ne (by decide), up_same]; omega
    have f5 : G1 o_Ac 5 = ((logged - k : Nat) : Int) := by rw [← hG1, up_ne (by decide), up_same]; omega
    have f6 : G1 o_Ac 6 = G o_Ac 6 + 1 := by rw [← hG1, up_same]
    have y5 : cLogB hs ds base (k + 1) logged ol G1 := x5.same (fun i h1 _ => f1 i (by show i ≠ 1; omega))
    have T10 := (x5.1.2.2 k (by omega)).1
    have ak := y5.ask (i := k) hk (by omega) (b := false) rfl
    have ct := c_turnOver (G := G1) (b := false) (isTab_of T10) tFree_of (sl_lt ol base k) ak.1 ak.2
    refine x_aload_n d_Ac_takeBack_39 rfl rfl ?_
    refine x_aload_n d_Ac_takeBack_40 rfl rfl ?_
    refine x_aload_n d_Ac_takeBack_41 rfl rfl ?_
    refine x_getIG (kf := 4) d_Ac_takeBack_42 rfl rfl rfl in_Ac f_Ac_24 ?_
    rw [f4]
    refine x_V1 d_Ac_takeBack_45 e_Ac_takeBack_Ac_slotOf ⟨rfl, rfl, Nat.zero_le _, Nat.zero_le _⟩ rfl rfl rfl rfl (Nat.le_of_ble_eq_true rfl) (c_slotOf f3 x1 (a := k - base) (by omega) rfl) ?_
    refine x_iconst (0) d_Ac_takeBack_48 rfl ⟨by decide, by decide⟩ ?_
    refine x_V0 d_Ac_takeBack_49 e_Ac_takeBack_Ac_turnOver ⟨rfl, rfl, Nat.zero_le _, Nat.zero_le _⟩ rfl rfl rfl rfl (Nat.le_of_ble_eq_true rfl) (ct) ?_
    refine x_iconst (1) d_Ac_takeBack_52 rfl ⟨by decide, by decide⟩ ?_
    refine x_zreturn d_Ac_takeBack_53 rfl (by first | exact Or.inl rfl | exact Or.inr rfl | (split <;> first | exact Or.inl rfl | exact Or.inr rfl) | assumption) ?_ (Nat.zero_le _) (Nat.zero_le _)
    rw [← hQ]
    have bk := y5.back hk
    have o1 : ∀ i, i ≠ 6 + 2 * (ds k).1 → i ≠ 7 + 2 * (ds k).1 → i ≠ ac_kept → toG G1 (6 + 2 * (ds k).1) (7 + 2 * (ds k).1) (sl ol base k) false i = G1 i := fun i h1 h2 h3 => toG_o h1 h2 h3
    have oA := o1 o_Ac (by show 1 ≠ _; omega) (by show 1 ≠ _; omega) (by decide)
    exact ⟨_, rfl, rfl, _, rfl, ⟨ol, x1, by rw [oA]; exact f3, by rw [oA]; exact f4, by rw [oA]; exact f5, bk⟩, by rw [oA]; exact f6, fun i hi => by rw [o1 i (by omega) (by omega) (by show i ≠ 4; omega)]; exact f1 i (by show i ≠ 1; omega)⟩
  · omega
theorem c_doAgain (x : cLog hs ds base k logged G) (hk : k < logged) (h5 : 0 ≤ G o_Ac 6 ∧ G o_Ac 6 ≤ 100000) : x_M y_Ac_doAgain [oAc] (S0, G) (fun r τ => ∃ v, r = .inl v ∧ mTook hs ds base (k + 1) logged G v τ) := by
  obtain ⟨ol, x1, x2, x3, x4, x5⟩ := x
  have hb := x5.1.1
  refine x_of 0 rfl (Nat.le_of_ble_eq_true rfl) ?_
  show x_A y_Ac_doAgain 0 [some oAc] [] (S0, G) 0 0 _
  generalize hQ : (fun (r : XRes) (τ : XM) => ∃ v, r = .inl v ∧ mTook hs ds base (k + 1) logged G v τ) = Q
  have T10 := (x5.1.2.2 k (by omega)).1
  have ak := x5.ask (i := k) hb.1 (by omega) (b := true) rfl
  have ct := c_turnOver (G := G) (b := true) (isTab_of T10) tFree_of (sl_lt ol base k) ak.1 ak.2
  have bk := x5.forth hk
  have o1 : ∀ i, i ≠ 6 + 2 * (ds k).1 → i ≠ 7 + 2 * (ds k).1 → i ≠ ac_kept → toG G (6 + 2 * (ds k).1) (7 + 2 * (ds k).1) (sl ol base k) true i = G i := fun i h1 h2 h3 => toG_o h1 h2 h3
  have oA := o1 o_Ac (by show 1 ≠ _; omega) (by show 1 ≠ _; omega) (by decide)
  generalize toG G (6 + 2 * (ds k).1) (7 + 2 * (ds k).1) (sl ol base k) true = G1 at *
  refine x_aload_n d_Ac_doAgain_0 rfl rfl ?_
  refine x_getIG (kf := 5) d_Ac_doAgain_1 rfl rfl rfl in_Ac f_Ac_28 ?_
  rw [x4]
  refine x_if_ne (9) d_Ac_doAgain_4 (by decide) (fun g => ?_) (fun g => ?_)
  · refine x_aload_n d_Ac_doAgain_9 rfl rfl ?_
    refine x_aload_n d_Ac_doAgain_10 rfl rfl ?_
    refine x_aload_n d_Ac_doAgain_11 rfl rfl ?_
    refine x_getIG (kf := 4) d_Ac_doAgain_12 rfl rfl rfl in_Ac f_Ac_24 ?_
    rw [x3]
    refine x_V1 d_Ac_doAgain_15 e_Ac_doAgain_Ac_slotOf ⟨rfl, rfl, Nat.zero_le _, Nat.zero_le _⟩ rfl rfl rfl rfl (Nat.le_of_ble_eq_true rfl) (c_slotOf x2 x1 (a := k - base) (by omega) rfl) ?_
    refine x_iconst (1) d_Ac_doAgain_18 rfl ⟨by decide, by decide⟩ ?_
    refine x_V0 d_Ac_doAgain_19 e_Ac_doAgain_Ac_turnOver ⟨rfl, rfl, Nat.zero_le _, Nat.zero_le _⟩ rfl rfl rfl rfl (Nat.le_of_ble_eq_true rfl) (ct) ?_
    refine x_aload_n d_Ac_doAgain_22 rfl rfl ?_
    refine x_dup d_Ac_doAgain_23 rfl ?_
    refine x_getIG (kf := 4) d_Ac_doAgain_24 rfl rfl rfl in_Ac f_Ac_24 ?_
    rw [oA, x3]
    refine x_iconst (1) d_Ac_doAgain_27 rfl ⟨by decide, by decide⟩ ?_
    refine x_iaddN d_Ac_doAgain_28 (by omega) (by omega) ?_
    refine x_putIG (kf := 4) tyX0 d_Ac_doAgain_29 rfl rfl rfl in_Ac f_Ac_24 tyX0_ok nmX0 (by decide +kernel) rfl ?_
    refine x_aload_n d_Ac_doAgain_32 rfl rfl ?_
    refine x_dup d_Ac_doAgain_33 rfl ?_
    refine x_getIG (kf := 5) d_Ac_doAgain_34 rfl rfl rfl in_Ac f_Ac_28 ?_
    rw [up_ne (by decide), oA, x4]
    refine x_iconst (1) d_Ac_doAgain_37 rfl ⟨by decide, by decide⟩ ?_
    refine x_isubN d_Ac_doAgain_38 (by omega) (by omega) ?_
    refine x_putIG (kf := 5) tyX0 d_Ac_doAgain_39 rfl rfl rfl in_Ac f_Ac_28 tyX0_ok nmX0 (by decide +kernel) rfl ?_
    refine x_aload_n d_Ac_doAgain_42 rfl rfl ?_
    refine x_dup d_Ac_doAgain_43 rfl ?_
    refine x_getIG (kf := 6) d_Ac_doAgain_44 rfl rfl rfl in_Ac f_Ac_31 ?_
    rw [up_ne (by decide), up_ne (by decide), oA]
    refine x_iconst (1) d_Ac_doAgain_47 rfl ⟨by decide, by decide⟩ ?_
    refine x_iaddN d_Ac_doAgain_48 (by omega) (by omega) ?_
    refine x_putIG (kf := 6) tyX0 d_Ac_doAgain_49 rfl rfl rfl in_Ac f_Ac_31 tyX0_ok nmX0 (by decide +kernel) rfl ?_
    refine x_iconst (1) d_Ac_doAgain_52 rfl ⟨by decide, by decide⟩ ?_
    refine x_zreturn d_Ac_doAgain_53 rfl (by first | exact Or.inl rfl | exact Or.inr rfl | (split <;> first | exact Or.inl rfl | exact Or.inr rfl) | assumption) ?_ (Nat.zero_le _) (Nat.zero_le _)
    rw [← hQ]
    refine ⟨_, rfl, rfl, _, rfl, ⟨ol, x1, ?_, ?_, ?_, bk.same (fun i h1 _ => ?_)⟩, ?_, fun i hi => ?_⟩
    · rw [up_ne (by decide), up_ne (by decide), up_ne (by decide), oA]; exact x2
    · rw [up_ne (by decide), up_ne (by decide), up_same]; omega
    · rw [up_ne (by decide), up_same]; omega
    · have : i ≠ o_Ac := by show i ≠ 1; omega
      rw [up_cell this, up_cell this, up_cell this]
    · rw [up_same]
    · have : i ≠ o_Ac := by show i ≠ 1; omega
      rw [up_cell this, up_cell this, up_cell this]
      exact o1 i (by omega) (by omega) (by show i ≠ 4; omega)
  · omega
end CLg2
