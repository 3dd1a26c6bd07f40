/-! nets: K pairs of arcs (from, to, wide); arc 2k goes forward, arc 2k+1 back -/
def xr (e : Nat) : Nat := if e % 2 = 0 then e + 1 else e - 1
abbrev NT : Type := Nat × (Nat → Nat) × (Nat → Nat) × (Nat → Int)
def te (N : NT) (e : Nat) : Nat := if e % 2 = 0 then N.2.1 (e / 2) else N.2.2.1 (e / 2)
def he (N : NT) (e : Nat) : Nat := if e % 2 = 0 then N.2.2.1 (e / 2) else N.2.1 (e / 2)
theorem xr_lt {e K : Nat} (h : e < 2 * K) : xr e < 2 * K := by unfold xr; split <;> omega
theorem xr_xr (e : Nat) : xr (xr e) = e := by unfold xr; split <;> split <;> omega
theorem xr_ne (e : Nat) : xr e ≠ e := by unfold xr; split <;> omega
theorem te_xr (N : NT) (e : Nat) : te N (xr e) = he N e := by
  unfold te he xr
  by_cases h : e % 2 = 0
  · rw [if_pos h, if_pos h, if_neg (by omega), show (e + 1) / 2 = e / 2 by omega]
  · rw [if_neg h, if_neg h, if_pos (by omega), show (e - 1) / 2 = e / 2 by omega]
theorem he_xr (N : NT) (e : Nat) : he N (xr e) = te N e := by rw [← te_xr, xr_xr]
/-- the latest arc ahead of e that goes off from n -/
def prv (N : NT) (n : Nat) : Nat → Int
  | 0 => -1
  | e + 1 => if te N e = n then e else prv N n e
theorem prv_lt (N : NT) (n e : Nat) : -1 ≤ prv N n e ∧ prv N n e < e := by
  induction e with
  | zero => unfold prv; omega
  | succ e ih => unfold prv; split <;> omega
theorem prv_te {N : NT} {n e q : Nat} (h : prv N n e = q) : te N q = n ∧ q < e := by
  induction e with
  | zero => unfold prv at h; omega
  | succ e ih =>
    unfold prv at h
    split at h
    · next c => have : e = q := by omega
                subst this; exact ⟨c, by omega⟩
    · have := ih h; exact ⟨this.1, by omega⟩
/-- all of n's arcs that are ahead of e stand at prv or ahead of it -/
theorem prv_max {N : NT} {n e q : Nat} (h1 : te N q = n) (h2 : q < e) : (q : Int) ≤ prv N n e := by
  induction e with
  | zero => omega
  | succ e ih =>
    unfold prv
    split
    · omega
    · next c => have : q ≠ e := fun z => c (z ▸ h1)
                exact ih (by omega)
theorem prv_congr {N M : NT} {n e : Nat} (h : ∀ j, j < e → te N j = te M j) : prv N n e = prv M n e := by
  induction e with
  | zero => rfl
  | succ e ih => unfold prv; rw [h e (by omega), ih (fun j hj => h j (by omega))]
def nAdd (N : NT) (a b : Nat) (c : Int) : NT := (N.1 + 1, fun k => if k = N.1 then a else N.2.1 k, fun k => if k = N.1 then b else N.2.2.1 k, fun k => if k = N.1 then c else N.2.2.2 k)
def nWf (N : NT) : Prop := N.1 ≤ 1200 ∧ ∀ k, k < N.1 → N.2.1 k < 338 ∧ N.2.2.1 k < 338 ∧ 0 ≤ N.2.2.2 k ∧ N.2.2.2 k ≤ 1000000
theorem nAdd_te {N : NT} {a b : Nat} {c : Int} {e : Nat} (h : e < 2 * N.1) : te (nAdd N a b c) e = te N e ∧ he (nAdd N a b c) e = he N e := by
  have : e / 2 ≠ N.1 := by omega
  unfold te he nAdd
  simp [this]
theorem nAdd_0 (N : NT) (a b : Nat) (c : Int) : te (nAdd N a b c) (2 * N.1) = a ∧ he (nAdd N a b c) (2 * N.1) = b := by
  unfold te he nAdd
  simp
theorem nAdd_1 (N : NT) (a b : Nat) (c : Int) : te (nAdd N a b c) (2 * N.1 + 1) = b ∧ he (nAdd N a b c) (2 * N.1 + 1) = a := by
  have : (2 * N.1 + 1) / 2 = N.1 := by omega
  unfold te he nAdd
  simp [this]
theorem nAdd_wf {N : NT} {a b : Nat} {c : Int} (h : nWf N) (hK : N.1 < 1200) (ha : a < 338) (hb : b < 338) (hc : 0 ≤ c ∧ c ≤ 1000000) : nWf (nAdd N a b c) := by
  refine ⟨by show N.1 + 1 ≤ 1200; omega, fun k hk => ?_⟩
  have hk : k < N.1 + 1 := hk
  show (if k = N.1 then a else N.2.1 k) < 338 ∧ (if k = N.1 then b else N.2.2.1 k) < 338 ∧ 0 ≤ (if k = N.1 then c else N.2.2.2 k) ∧ (if k = N.1 then c else N.2.2.2 k) ≤ 1000000
  by_cases e : k = N.1
  · simp [e, ha, hb, hc]
  · simp [e]; exact h.2 k (by omega)
/-- what goes off from a set -/
def ind (S : Nat → Bool) (a b : Nat) (c : Int) : Int := if S a = true ∧ S b = false then c else 0
def cut (N : NT) (S : Nat → Bool) : Int := su (fun k => ind S (N.2.1 k) (N.2.2.1 k) (N.2.2.2 k)) N.1
theorem cut_add (N : NT) (a b : Nat) (c : Int) (S : Nat → Bool) : cut (nAdd N a b c) S = cut N S + ind S a b c := by
  unfold cut
  show su _ N.1 + _ = _
  congr 1
  · refine su_congr (fun k hk => ?_)
    have : k ≠ N.1 := by omega
    simp [nAdd, this]
  · simp [nAdd]
/-- the reference's memory holds a net, with so much left on each arc -/
def mNet (N : NT) (L : Nat → Int) (G : Nat → Nat → Int) : Prop :=
  G o_M 68 = 2 * (N.1 : Int) ∧ (∀ e, e < 2 * N.1 → G m_to e = he N e ∧ G m_behind e = prv N (te N e) e ∧ G m_left e = L e) ∧ ∀ n, n < 338 → G m_head n = prv N n (2 * N.1)
def nFrame (G G' : Nat → Nat → Int) : Prop := (∀ i, i ≠ o_M → (i < m_head ∨ m_left < i) → G' i = G i) ∧ ∀ k, k ≠ 68 → G' o_M k = G o_M k
theorem nFrame.rf (G : Nat → Nat → Int) : nFrame G G := ⟨fun _ _ _ => rfl, fun _ _ => rfl⟩
theorem nFrame.trans {G1 G2 G3 : Nat → Nat → Int} (a : nFrame G1 G2) (b : nFrame G2 G3) : nFrame G1 G3 := ⟨fun i h1 h2 => (b.1 i h1 h2).trans (a.1 i h1 h2), fun k hk => (b.2 k hk).trans (a.2 k hk)⟩
theorem nFrame.rep {h : HH} {G G' : Nat → Nat → Int} (f : nFrame G G') (r : mRep h G) : mRep h G' :=
  r.same (fun k _ h2 => f.2 k (by omega)) (fun i h1 h2 => f.1 i (by have : o_M < m_room := (by decide); omega) (Or.inl (by have : m_aIs < m_head := (by decide); omega)))
theorem nFrame.put {G G' : Nat → Nat → Int} (a : nFrame G G') {i j : Nat} {z : Int} (h1 : m_head ≤ i) (h2 : i ≤ m_left) : nFrame G (up G' i j z) :=
  ⟨fun k hk hi => (up_cell (by intro q; subst q; omega)).trans (a.1 k hk hi), fun k hk => by rw [up_cell (by have : o_M < m_head := (by decide); omega)]; exact a.2 k hk⟩
theorem nFrame.put68 {G G' : Nat → Nat → Int} (a : nFrame G G') {z : Int} : nFrame G (up G' o_M 68 z) :=
  ⟨fun k hk hi => (up_cell hk).trans (a.1 k hk hi), fun k hk => by rw [up_ne hk]; exact a.2 k hk⟩
theorem s_begin (σ : XM) (p m : Nat) (hp : p < 8) (hm : m ≤ 60) : x_M y_M_begin [xI (p : Int), xI (m : Int)] σ (x_is (.inl (some (xI ((16 * m + p : Nat) : Int)))) σ) := by
  refine x_of 0 rfl (Nat.le_of_ble_eq_true rfl) ?_
  show x_A y_M_begin 0 [some (xI (p : Int)), some (xI (m : Int))] [] σ 0 0 _
  refine x_bipush (16) d_M_begin_0 rfl ⟨by decide, by decide⟩ ?_
  refine x_iload_n d_M_begin_2 rfl rfl ?_
  refine x_imulN d_M_begin_3 (by omega) (by omega) ?_
  refine x_iload_n d_M_begin_4 rfl rfl ?_
  refine x_iaddN d_M_begin_5 (by omega) (by omega) ?_
  refine x_ireturn d_M_begin_6 rfl ?_ (Nat.zero_le _) (Nat.zero_le _)
  rw [show (16 : Int) * m + p = ((16 * m + p : Nat) : Int) by omega]; exact ⟨rfl, rfl⟩
theorem s_being (σ : XM) (p m : Nat) (hp : p < 8) (hm : m ≤ 60) : x_M y_M_being [xI (p : Int), xI (m : Int)] σ (x_is (.inl (some (xI ((16 * m + 8 + p : Nat) : Int)))) σ) := by
  refine x_of 0 rfl (Nat.le_of_ble_eq_true rfl) ?_
  show x_A y_M_being 0 [some (xI (p : Int)), some (xI (m : Int))] [] σ 0 0 _
  refine x_bipush (16) d_M_being_0 rfl ⟨by decide, by decide⟩ ?_
  refine x_iload_n d_M_being_2 rfl rfl ?_
  refine x_imulN d_M_being_3 (by omega) (by omega) ?_
  refine x_bipush (8) d_M_being_4 rfl ⟨by decide, by decide⟩ ?_
  refine x_iaddN d_M_being_6 (by omega) (by omega) ?_
  refine x_iload_n d_M_being_7 rfl rfl ?_
  refine x_iaddN d_M_being_8 (by omega) (by omega) ?_
  refine x_ireturn d_M_being_9 rfl ?_ (Nat.zero_le _) (Nat.zero_le _)
  rw [show (16 : Int) * m + 8 + p = ((16 * m + 8 + p : Nat) : Int) by omega]; exact ⟨rfl, rfl⟩
def lAdd (N : NT) (L : Nat → Int) (c : Int) : Nat → Int := fun e => if e = 2 * N.1 then c else if e = 2 * N.1 + 1 then 0 else L e
def mArced (N : NT) (L : Nat → Int) (a b : Nat) (c : Int) (G : Nat → Nat → Int) : Option XV → XM → Prop := fun v τ => v = none ∧ ∃ G', τ = (S0, G') ∧ nFrame G G' ∧ mNet (nAdd N a b c) (lAdd N L c) G'
theorem s_arc {N : NT} {L : Nat → Int} {G : Nat → Nat → Int} (hw : nWf N) (hn : mNet N L G) (hK : N.1 < 1200) (a b : Nat) (c : Int) (ha : a < 338) (hb : b < 338) : x_M y_M_arc [oM, xI (a : Int), xI (b : Int), xI c] (S0, G) (fun r τ => ∃ v, r = .inl v ∧ mArced N L a b c G v τ) := by
  obtain ⟨e1, e2, e3⟩ := hn
  refine x_of 0 rfl (Nat.le_of_ble_eq_true rfl) ?_
  show x_A y_M_arc 0 [some oM, some (xI (a : Int)), some (xI (b : Int)), some (xI c)] [] (S0, G) 0 0 _
  generalize hQ : (fun (r : XRes) (τ : XM) => ∃ v, r = .inl v ∧ mArced N L a b c G v τ) = Q
  refine x_aload_n d_M_arc_0 rfl rfl ?_
  refine x_getF (kf := 66) d_M_arc_1 rfl rfl rfl in_M f_M_168 ?_
  refine x_aload_n d_M_arc_4 rfl rfl ?_
  refine x_getIG (kf := 68) d_M_arc_5 rfl rfl rfl in_M f_M_375 ?_
  refine x_iload_n d_M_arc_8 rfl rfl ?_
  refine x_iastN (2 * N.1) d_M_arc_9 rfl (by omega) (by omega) ?_
  refine x_aload_n d_M_arc_10 rfl rfl ?_
  refine x_getF (kf := 67) d_M_arc_11 rfl rfl rfl in_M f_M_171 ?_
  refine x_aload_n d_M_arc_14 rfl rfl ?_
  refine x_getIG (kf := 68) d_M_arc_15 rfl rfl rfl in_M f_M_375 ?_
  rw [up_cell (by decide)]
  refine x_iload_n d_M_arc_18 rfl rfl ?_
  refine x_iastN (2 * N.1) d_M_arc_19 rfl (by omega) (by omega) ?_
  refine x_aload_n d_M_arc_20 rfl rfl ?_
  refine x_getF (kf := 65) d_M_arc_21 rfl rfl rfl in_M f_M_165 ?_
  refine x_aload_n d_M_arc_24 rfl rfl ?_
  refine x_getIG (kf := 68) d_M_arc_25 rfl rfl rfl in_M f_M_375 ?_
  rw [up_cell (by decide), up_cell (by decide)]
  refine x_aload_n d_M_arc_28 rfl rfl ?_
  refine x_getF (kf := 60) d_M_arc_29 rfl rfl rfl in_M f_M_150 ?_
  refine x_iload_n d_M_arc_32 rfl rfl ?_
  refine x_ialdN (a) d_M_arc_33 rfl (by omega) (by omega) ?_
  rw [up_cell (by decide), up_cell (by decide), e3 a ha]
  refine x_iastN (2 * N.1) d_M_arc_34 rfl (by omega) (by omega) ?_
  refine x_aload_n d_M_arc_35 rfl rfl ?_
  refine x_getF (kf := 60) d_M_arc_36 rfl rfl rfl in_M f_M_150 ?_
  refine x_iload_n d_M_arc_39 rfl rfl ?_
  refine x_aload_n d_M_arc_40 rfl rfl ?_
  refine x_getIG (kf := 68) d_M_arc_41 rfl rfl rfl in_M f_M_375 ?_
  rw [up_cell (by decide), up_cell (by decide), up_cell (by decide), e1]
  refine x_iastN (a) d_M_arc_44 rfl (by omega) (by omega) ?_
  refine x_aload_n d_M_arc_45 rfl rfl ?_
  refine x_dup d_M_arc_46 rfl ?_
  refine x_getIG (kf := 68) d_M_arc_47 rfl rfl rfl in_M f_M_375 ?_
  rw [up_cell (by decide), up_cell (by decide), up_cell (by decide), up_cell (by decide), e1]
  refine x_iconst (1) d_M_arc_50 rfl ⟨by decide, by decide⟩ ?_
  refine x_iaddN d_M_arc_51 (by omega) (by omega) ?_
  refine x_putIG (kf := 68) tyX12 d_M_arc_52 rfl rfl rfl in_M f_M_375 tyX12_ok nmX12 (by decide +kernel) rfl ?_
  refine x_aload_n d_M_arc_55 rfl rfl ?_
  refine x_getF (kf := 66) d_M_arc_56 rfl rfl rfl in_M f_M_168 ?_
  refine x_aload_n d_M_arc_59 rfl rfl ?_
  refine x_getIG (kf := 68) d_M_arc_60 rfl rfl rfl in_M f_M_375 ?_
  rw [up_same]
  refine x_iload_n d_M_arc_63 rfl rfl ?_
  refine x_iastN (2 * N.1 + 1) d_M_arc_64 rfl (by omega) (by omega) ?_
  refine x_aload_n d_M_arc_65 rfl rfl ?_
  refine x_getF (kf := 67) d_M_arc_66 rfl rfl rfl in_M f_M_171 ?_
  refine x_aload_n d_M_arc_69 rfl rfl ?_
  refine x_getIG (kf := 68) d_M_arc_70 rfl rfl rfl in_M f_M_375 ?_
  rw [up_cell (by decide), up_same]
  refine x_iconst (0) d_M_arc_73 rfl ⟨by decide, by decide⟩ ?_
  refine x_iastN (2 * N.1 + 1) d_M_arc_74 rfl (by omega) (by omega) ?_
  refine x_aload_n d_M_arc_75 rfl rfl ?_
  refine x_getF (kf := 65) d_M_arc_76 rfl rfl rfl in_M f_M_165 ?_
  refine x_aload_n d_M_arc_79 rfl rfl ?_
  refine x_getIG (kf := 68) d_M_arc_80 rfl rfl rfl in_M f_M_375 ?_
  rw [up_cell (by decide), up_cell (by decide), up_same]
  refine x_aload_n d_M_arc_83 rfl rfl ?_
  refine x_getF (kf := 60) d_M_arc_84 rfl rfl rfl in_M f_M_150 ?_
  refine x_iload_n d_M_arc_87 rfl rfl ?_
  refine x_ialdN (b) d_M_arc_88 rfl (by omega) (by omega) ?_
  refine x_iastN (2 * N.1 + 1) d_M_arc_89 rfl (by omega) (by omega) ?_
  refine x_aload_n d_M_arc_90 rfl rfl ?_
  refine x_getF (kf := 60) d_M_arc_91 rfl rfl rfl in_M f_M_150 ?_
  refine x_iload_n d_M_arc_94 rfl rfl ?_
  refine x_aload_n d_M_arc_95 rfl rfl ?_
  refine x_getIG (kf := 68) d_M_arc_96 rfl rfl rfl in_M f_M_375 ?_
  rw [up_cell (by decide), up_cell (by decide), up_cell (by decide), up_same]
  refine x_iastN (b) d_M_arc_99 rfl (by omega) (by omega) ?_
  refine x_aload_n d_M_arc_100 rfl rfl ?_
  refine x_dup d_M_arc_101 rfl ?_
  refine x_getIG (kf := 68) d_M_arc_102 rfl rfl rfl in_M f_M_375 ?_
  rw [up_cell (by decide), up_cell (by decide), up_cell (by decide), up_cell (by decide), up_same]
  refine x_iconst (1) d_M_arc_105 rfl ⟨by decide, by decide⟩ ?_
  refine x_iaddN d_M_arc_106 (by omega) (by omega) ?_
  refine x_putIG (kf := 68) tyX12 d_M_arc_107 rfl rfl rfl in_M f_M_375 tyX12_ok nmX12 (by decide +kernel) rfl ?_
  generalize hG : up (up (up (up (up (up (up (up (up (up G m_to (2 * N.1) b) m_left (2 * N.1) c) m_behind (2 * N.1) (prv N a (2 * N.1))) m_head a (2 * (N.1 : Int))) o_M 68 (2 * (N.1 : Int) + 1)) m_to (2 * N.1 + 1) a) m_left (2 * N.1 + 1) 0) m_behind (2 * N.1 + 1) _) m_head b (2 * (N.1 : Int) + 1)) o_M 68 (2 * (N.1 : Int) + 1 + 1) = G9
  refine x_return d_M_arc_110 rfl ?_ (Nat.zero_le _) (Nat.zero_le _)
  rw [← hQ]
  refine ⟨none, rfl, rfl, G9, rfl, ?_, ?_⟩
  · rw [← hG]
    exact ((((((((((nFrame.rf G).put (by decide) (by decide)).put (by decide) (by decide)).put (by decide) (by decide)).put (by decide) (by decide)).put68).put (by decide) (by decide)).put (by decide) (by decide)).put (by decide) (by decide)).put (by decide) (by decide)).put68
  · have n0 := nAdd_0 N a b c
    have n1 := nAdd_1 N a b c
    have p0 : ∀ n, prv (nAdd N a b c) n (2 * N.1) = prv N n (2 * N.1) := fun n => prv_congr (fun j hj => (nAdd_te hj).1)
    have p1 : ∀ n, prv (nAdd N a b c) n (2 * N.1 + 1) = if a = n then ((2 * N.1 : Nat) : Int) else prv N n (2 * N.1) := fun n => by
      show (if te (nAdd N a b c) (2 * N.1) = n then _ else _) = _
      rw [n0.1, p0]
    have p2 : ∀ n, prv (nAdd N a b c) n (2 * (N.1 + 1)) = if b = n then ((2 * N.1 + 1 : Nat) : Int) else prv (nAdd N a b c) n (2 * N.1 + 1) := fun n => by
      show (if te (nAdd N a b c) (2 * N.1 + 1) = n then _ else _) = _
      rw [n1.1]
      rfl
    have hto : ∀ e, G9 m_to e = if e = 2 * N.1 + 1 then (a : Int) else if e = 2 * N.1 then (b : Int) else G m_to e := fun e => by
      rw [← hG, up_cell (by decide), up_cell (by decide), up_cell (by decide), up_cell (by decide)]
      by_cases q : e = 2 * N.1 + 1
      · subst q; rw [up_same, if_pos rfl]
      · rw [up_ne q, if_neg q, up_cell (by decide), up_cell (by decide), up_cell (by decide), up_cell (by decide)]
        by_cases q2 : e = 2 * N.1
        · subst q2; rw [up_same, if_pos rfl]
        · rw [up_ne q2, if_neg q2]
    have hle : ∀ e, G9 m_left e = if e = 2 * N.1 + 1 then 0 else if e = 2 * N.1 then c else G m_left e := fun e => by
      rw [← hG, up_cell (by decide), up_cell (by decide), up_cell (by decide)]
      by_cases q : e = 2 * N.1 + 1
      · subst q; rw [up_same, if_pos rfl]
      · rw [up_ne q, if_neg q, up_cell (by decide), up_cell (by decide), up_cell (by decide), up_cell (by decide)]
        by_cases q2 : e = 2 * N.1
        · subst q2; rw [up_same, if_pos rfl]
        · rw [up_ne q2, if_neg q2, up_cell (by decide)]
    have hhd1 : ∀ n, n < 338 → (up (up (up (up (up (up (up G m_to (2 * N.1) b) m_left (2 * N.1) c) m_behind (2 * N.1) (prv N a (2 * N.1))) m_head a (2 * (N.1 : Int))) o_M 68 (2 * (N.1 : Int) + 1)) m_to (2 * N.1 + 1) a) m_left (2 * N.1 + 1) 0) m_head n = prv (nAdd N a b c) n (2 * N.1 + 1) := fun n hn' => by
      rw [up_cell (by decide), up_cell (by decide), up_cell (by decide), p1]
      by_cases q : n = a
      · subst q; rw [up_same, if_pos rfl]; omega
      · rw [up_ne q, if_neg (fun z => q z.symm), up_cell (by decide), up_cell (by decide), up_cell (by decide)]
        exact e3 n hn'
    rw [hhd1 b hb] at hG
    have hbe : ∀ e, G9 m_behind e = if e = 2 * N.1 + 1 then prv (nAdd N a b c) b (2 * N.1 + 1) else if e = 2 * N.1 then prv N a (2 * N.1) else G m_behind e := fun e => by
      rw [← hG, up_cell (by decide), up_cell (by decide)]
      by_cases q : e = 2 * N.1 + 1
      · subst q; rw [up_same, if_pos rfl]
      · rw [up_ne q, if_neg q, up_cell (by decide), up_cell (by decide), up_cell (by decide), up_cell (by decide)]
        by_cases q2 : e = 2 * N.1
        · subst q2; rw [up_same, if_pos rfl]
        · rw [up_ne q2, if_neg q2, up_cell (by decide), up_cell (by decide)]
    refine ⟨?_, fun e he9 => ?_, fun n hn9 => ?_⟩
    · rw [← hG, up_same]; show _ = 2 * ((N.1 + 1 : Nat) : Int); omega
    · have he9 : e < 2 * (N.1 + 1) := he9
      rw [hto, hbe, hle]
      unfold lAdd
      by_cases q : e = 2 * N.1 + 1
      · subst q
        rw [if_pos rfl, if_pos rfl, if_pos rfl, if_neg (by omega), if_pos rfl, n1.1, n1.2]
        exact ⟨rfl, rfl, rfl⟩
      · by_cases q2 : e = 2 * N.1
        · subst q2
          rw [if_neg q, if_pos rfl, if_neg q, if_pos rfl, if_neg q, if_pos rfl, if_pos rfl, n0.1, n0.2, p0]
          exact ⟨rfl, rfl, rfl⟩
        · have he3 : e < 2 * N.1 := by omega
          rw [if_neg q, if_neg q2, if_neg q, if_neg q2, if_neg q, if_neg q2, if_neg q2, if_neg q, (nAdd_te he3).1, (nAdd_te he3).2, prv_congr (M := N) (fun j hj => (nAdd_te (by omega)).1)]
          exact e2 e he3
    · show _ = prv (nAdd N a b c) n (2 * (N.1 + 1))
      rw [p2, ← hG, up_cell (by decide)]
      by_cases q : n = b
      · subst q; rw [up_same, if_pos rfl]; omega
      · rw [up_ne q, if_neg (fun z => q z.symm), up_cell (by decide)]
        exact hhd1 n hn9
