/-! the class: a minute's smoke is the sequence's next one -/
theorem su_two {g : Nat → Int} {n A B : Nat} (hA : A < n) (hB : B < n) (hne : A ≠ B) (h : ∀ p, p < n → p ≠ A → p ≠ B → g p = 0) : su g n = g A + g B := by
  rw [su_congr (g := fun p => pt A (g A) p + pt B (g B) p) (fun p hp => ?_), su_add, su_pt _ hA, su_pt _ hB]
  unfold pt
  by_cases e1 : p = A
  · subst e1; rw [if_pos rfl, if_neg hne]; omega
  · by_cases e2 : p = B
    · subst e2; rw [if_neg e1, if_pos rfl]; omega
    · rw [if_neg e1, if_neg e2, h p hp e1 e2]; rfl
theorem sk_DA_su (h : HH) (ai a : Nat → Int) (t n j : Nat) : sk_DA h ai a t n j = su (fun p => f_dA h ai p t (a p) (h.2 1) j) n + su (fun p => pt (t + p) (f_ra h ai p (a p) - f_fall h ai p (a p)) j) n := by
  induction n with
  | zero => rfl
  | succ n ih =>
    show sk_DA h ai a t n j + (f_dA h ai n t (a n) (h.2 1) j + pt (t + n) (f_ra h ai n (a n) - f_fall h ai n (a n)) j) = su _ n + f_dA h ai n t (a n) (h.2 1) j + (su _ n + pt (t + n) (f_ra h ai n (a n) - f_fall h ai n (a n)) j)
    rw [ih]; omega
theorem pt_add (j : Nat) (v w : Int) (b : Nat) : pt j (v + w) b = pt j v b + pt j w b := by unfold pt; split <;> omega
theorem sk_DM_su (h : HH) (ai a x : Nat → Int) (t n j : Nat) : sk_DM h ai a x t n j = su (fun p => f_dM h ai p t (x p) (h.2 1) j) n + su (fun p => pt (t + p) (f_rm h ai p (x p) + f_fall h ai p (a p)) j) n := by
  induction n with
  | zero => rfl
  | succ n ih =>
    show sk_DM h ai a x t n j + (pt (t + n) (f_fall h ai n (a n)) j + (f_dM h ai n t (x n) (h.2 1) j + pt (t + n) (f_rm h ai n (x n)) j)) = su _ n + f_dM h ai n t (x n) (h.2 1) j + (su _ n + pt (t + n) (f_rm h ai n (x n) + f_fall h ai n (a n)) j)
    rw [ih, pt_add]; omega
section CW
variable {h : HH} {G : Nat → Nat → Int}
/-- what a way does for its two ends, and for no other piece -/
theorem way_A (hh : Hwf h) (ai : Nat → Int) {w A B : Nat} (hw : w < h.2 1) (eA : h.1 1 w 0 = A) (eB : h.1 1 w 1 = B) (v y : Int) :
    f_at h A w = true ∧ (f_oth h A w).toNat = B ∧ f_fa h ai A v w = (if -4 < ai w then min (v / 8) (f_La h ai A v w) else 0) ∧ f_fm h ai A y w = (if 0 < ai w then min (y * ai w / 16) (f_Lm h ai A y w) else 0) := by
  have b := hh.2.2.1 w hw
  have h1 : f_at h A w = true := by unfold f_at; rw [decide_eq_true eA]; rfl
  have h2 : f_oth h A w = B := by unfold f_oth; rw [if_pos eA, eB]
  have h3 : f_tow h (ai w) A w = - ai w := by unfold f_tow; rw [if_neg (by omega)]
  refine ⟨h1, by omega, ?_, ?_⟩
  · unfold f_fa
    rw [h1, h3]
    by_cases q : -4 < ai w
    · rw [if_pos ⟨rfl, by omega⟩, if_pos q]
    · rw [if_neg (fun z => q (by omega)), if_neg q]
  · unfold f_fm
    rw [h1, h3, Int.neg_neg]
    by_cases q : 0 < ai w
    · rw [if_pos ⟨rfl, by omega⟩, if_pos q]
    · rw [if_neg (fun z => q (by omega)), if_neg q]
theorem way_B (hh : Hwf h) (ai : Nat → Int) {w A B : Nat} (hw : w < h.2 1) (eA : h.1 1 w 0 = A) (eB : h.1 1 w 1 = B) (v y : Int) :
    f_at h B w = true ∧ (f_oth h B w).toNat = A ∧ f_fa h ai B v w = (if -4 < - ai w then min (v / 8) (f_La h ai B v w) else 0) ∧ f_fm h ai B y w = (if 0 < - ai w then min (y * - ai w / 16) (f_Lm h ai B y w) else 0) := by
  have b := hh.2.2.1 w hw
  have h1 : f_at h B w = true := by unfold f_at; rw [decide_eq_true eB]; simp
  have h2 : f_oth h B w = A := by unfold f_oth; rw [if_neg (by omega), eA]
  have h3 : f_tow h (ai w) B w = ai w := by unfold f_tow; rw [if_pos eB]
  refine ⟨h1, by omega, ?_, ?_⟩
  · unfold f_fa
    rw [h1, h3]
    by_cases q : -4 < - ai w
    · rw [if_pos ⟨rfl, by omega⟩, if_pos q]
    · rw [if_neg (fun z => q (by omega)), if_neg q]
  · unfold f_fm
    rw [h1, h3]
    by_cases q : 0 < - ai w
    · rw [if_pos ⟨rfl, by omega⟩, if_pos q]
    · rw [if_neg (fun z => q (by omega)), if_neg q]
theorem way_O (h : HH) (ai : Nat → Int) {w A B p : Nat} (eA : h.1 1 w 0 = A) (eB : h.1 1 w 1 = B) (h1 : p ≠ A) (h2 : p ≠ B) (v y : Int) : f_at h p w = false ∧ f_fa h ai p v w = 0 ∧ f_fm h ai p y w = 0 := by
  have e : f_at h p w = false := by unfold f_at; rw [decide_eq_false (by omega), decide_eq_false (by omega)]; rfl
  refine ⟨e, ?_, ?_⟩
  · unfold f_fa; rw [e, if_neg (fun z => by cases z.1)]
  · unfold f_fm; rw [e, if_neg (fun z => by cases z.1)]
theorem way_dA (hh : Hwf h) (ai a : Nat → Int) {w A B : Nat} (t j : Nat) (hw : w < h.2 1) (eA : h.1 1 w 0 = A) (eB : h.1 1 w 1 = B) :
    su (fun p => f_dA h ai p t (a p) (w + 1) j) (h.2 0) = su (fun p => f_dA h ai p t (a p) w j) (h.2 0) + pt (t + B) (f_fa h ai A (a A) w) j + pt (t + A) (f_fa h ai B (a B) w) j := by
  have b := hh.2.2.1 w hw
  have e : (fun p => f_dA h ai p t (a p) (w + 1) j) = fun p => f_dA h ai p t (a p) w j + pt (t + (f_oth h p w).toNat) (f_fa h ai p (a p) w) j := rfl
  rw [e, su_add, su_two (g := fun p => pt (t + (f_oth h p w).toNat) (f_fa h ai p (a p) w) j) (A := A) (B := B) (by omega) (by omega) (by omega) (fun p hp h1 h2 => by rw [(way_O h ai eA eB h1 h2 (a p) 0).2.1, pt_0]), (way_A hh ai hw eA eB (a A) 0).2.1, (way_B hh ai hw eA eB (a B) 0).2.1]
  omega
theorem way_dM (hh : Hwf h) (ai x : Nat → Int) {w A B : Nat} (t j : Nat) (hw : w < h.2 1) (eA : h.1 1 w 0 = A) (eB : h.1 1 w 1 = B) :
    su (fun p => f_dM h ai p t (x p) (w + 1) j) (h.2 0) = su (fun p => f_dM h ai p t (x p) w j) (h.2 0) + pt (t + B) (f_fm h ai A (x A) w) j + pt (t + A) (f_fm h ai B (x B) w) j := by
  have b := hh.2.2.1 w hw
  have e : (fun p => f_dM h ai p t (x p) (w + 1) j) = fun p => f_dM h ai p t (x p) w j + pt (t + (f_oth h p w).toNat) (f_fm h ai p (x p) w) j := rfl
  rw [e, su_add, su_two (g := fun p => pt (t + (f_oth h p w).toNat) (f_fm h ai p (x p) w) j) (A := A) (B := B) (by omega) (by omega) (by omega) (fun p hp h1 h2 => by rw [(way_O h ai eA eB h1 h2 0 (x p)).2.2, pt_0]), (way_A hh ai hw eA eB 0 (x A)).2.1, (way_B hh ai hw eA eB 0 (x B)).2.1]
  omega
/-- behind the first w ways -/
def wI (h : HH) (ai a x : Nat → Int) (m w : Nat) (G1 G' : Nat → Nat → Int) : Prop :=
  (∀ i, i ≠ sm_leftAbove → i ≠ sm_leftMixed → i ≠ sm_above → i ≠ sm_mixed → i ≠ o_Sm → G' i = G1 i) ∧ (∀ k, k ≠ 12 → G' o_Sm k = G1 o_Sm k) ∧
  (∀ p, p < h.2 0 → G' sm_leftAbove p = f_La h ai p (a p) w ∧ G' sm_leftMixed p = f_Lm h ai p (x p) w ∧ xb (G' o_Sm 12) p = f_str h ai p w) ∧
  (∀ j, G' sm_above j = G1 sm_above j + su (fun p => f_dA h ai p (8 * (m + 1)) (a p) w j) (h.2 0)) ∧ (∀ j, G' sm_mixed j = G1 sm_mixed j + su (fun p => f_dM h ai p (8 * (m + 1)) (x p) w j) (h.2 0))
theorem wI_bd (hh : Hwf h) {ai a x : Nat → Int} (ha : ∀ p, 0 ≤ a p ∧ a p ≤ 2100000) (hx : ∀ p, 0 ≤ x p ∧ x p ≤ 2100000) (t w j : Nat) : (0 ≤ su (fun p => f_dA h ai p t (a p) w j) (h.2 0) ∧ su (fun p => f_dA h ai p t (a p) w j) (h.2 0) ≤ 16800000) ∧ (0 ≤ su (fun p => f_dM h ai p t (x p) w j) (h.2 0) ∧ su (fun p => f_dM h ai p t (x p) w j) (h.2 0) ≤ 16800000) := by
  have b := hh.1
  have b1 := su_bd (f := fun p => f_dA h ai p t (a p) w j) (c := 0) (d := 2100000) (n := h.2 0) (fun p hp => by have q1 := f_dA_bd h ai p t (ha p).1 w j; have q2 := f_La_bd h ai p (ha p).1 w; have := ha p; omega)
  have b2 := su_bd (f := fun p => f_dM h ai p t (x p) w j) (c := 0) (d := 2100000) (n := h.2 0) (fun p hp => by have q1 := f_dM_bd h ai p t (hx p).1 w j; have q2 := f_Lm_bd h ai p (hx p).1 w; have := hx p; omega)
  omega
/-- one way more -/
theorem wI_s (hh : Hwf h) {ai a x : Nat → Int} {m w : Nat} {G1 G' : Nat → Nat → Int} {Q : XRes → XM → Prop} {lv : List (Option XV)} (hm : m < 20) (hw : w < h.2 1) (hai : -12 ≤ ai w ∧ ai w ≤ 12) (ha : ∀ p, 0 ≤ a p ∧ a p ≤ 2100000) (hx : ∀ p, 0 ≤ x p ∧ x p ≤ 2100000) (hsh : ∀ p, p < h.2 0 → G1 sm_shares p = a p / 8) (hz : ∀ j, 8 * (m + 1) ≤ j → j < 168 → G1 sm_above j = 0 ∧ G1 sm_mixed j = 0) (hmx : ∀ p, p < h.2 0 → G1 sm_mixed (8 * m + p) = x p)
    {A B : Nat} (eA : h.1 1 w 0 = A) (eB : h.1 1 w 1 = B) (hI : wI h ai a x m w G1 G') (elv : lv = [some oSm, some (xI (m : Int)), none, none, some (xI (w : Int)), some (xI (A : Int)), some (xI (B : Int)), some (xI (ai w))])
    (k : ∀ G2, wI h ai a x m (w + 1) G1 G2 → x_A y_Sm_step 122 lv [] (S0, G2) 0 0 Q) : x_A y_Sm_step 99 lv [] (S0, G') 0 0 Q := by
  have b := hh.1
  have bw := hh.2.2.1 w hw
  have hA : A < h.2 0 := by omega
  have hB : B < h.2 0 := by omega
  have hAB : A ≠ B := by omega
  obtain ⟨i1, i2, i3, i4, i5⟩ := hI
  obtain ⟨wa1, wa2, wa3, wa4⟩ := way_A hh ai hw eA eB (a A) (x A)
  obtain ⟨wb1, wb2, wb3, wb4⟩ := way_B hh ai hw eA eB (a B) (x B)
  obtain ⟨lA1, lA2, lA3⟩ := i3 A hA
  obtain ⟨lB1, lB2, lB3⟩ := i3 B hB
  have esA := (congrFun (i1 sm_shares (by decide) (by decide) (by decide) (by decide) (by decide)) A).trans (hsh A hA)
  have esB := (congrFun (i1 sm_shares (by decide) (by decide) (by decide) (by decide) (by decide)) B).trans (hsh B hB)
  have bLA := f_La_bd h ai A (ha A).1 w
  have bLB := f_La_bd h ai B (ha B).1 w
  have bMA := f_Lm_bd h ai A (hx A).1 w
  have bMB := f_Lm_bd h ai B (hx B).1 w
  have haA := ha A
  have haB := ha B
  have hxA := hx A
  have hxB := hx B
  have dm : ∀ p, p < h.2 0 → G' sm_mixed (8 * m + p) = x p := fun p hp => by
    rw [i5, hmx p hp, su_congr (g := fun _ => 0) (fun q hq => f_dM_o hh ai q (8 * (m + 1)) (x q) (by omega) (Or.inl (by omega))), su_zero]; omega
  have bd := fun j => wI_bd hh (ai := ai) ha hx (8 * (m + 1)) w j
  have bA := bd (8 * (m + 1) + A)
  have bB := bd (8 * (m + 1) + B)
  have zA := hz (8 * (m + 1) + A) (by omega) (by omega)
  have zB := hz (8 * (m + 1) + B) (by omega) (by omega)
  have vA := i4 (8 * (m + 1) + A)
  have vB := i4 (8 * (m + 1) + B)
  have uA := i5 (8 * (m + 1) + A)
  have uB := i5 (8 * (m + 1) + B)
  subst elv
  refine x_aload_n d_Sm_step_99 rfl rfl ?_
  refine x_iload_n d_Sm_step_100 rfl rfl ?_
  refine x_iload d_Sm_step_101 rfl ?_
  refine x_iload d_Sm_step_103 rfl ?_
  refine x_iload d_Sm_step_105 rfl ?_
  have c1 := c_carry (G := G') m A B (ai w) hm (by omega) (by omega) hai (by omega) (by omega) (by omega) (by rw [dm A hA]; omega) (by omega) (by omega)
  rw [esA, lA1, lA2, dm A hA, ← wa3, ← wa4] at c1
  refine x_VQ d_Sm_step_107 e_Sm_step_Sm_carry ⟨rfl, rfl, Nat.zero_le _, Nat.zero_le _⟩ rfl rfl rfl rfl (Nat.le_of_ble_eq_true rfl) (c1) (fun v τ hv => ?_)
  obtain ⟨rfl, G2, rfl, j1, j2, j3, j4, j5, j6, j7⟩ := hv
  show x_A y_Sm_step 110 _ [] (S0, G2) 0 0 Q
  have s2B : G2 sm_shares B = a B / 8 := (congrFun (j1 sm_shares (by decide) (by decide) (by decide) (by decide) (by decide)) B).trans esB
  have a2B : G2 sm_leftAbove B = f_La h ai B (a B) w := by rw [j4, lB1]; unfold pt; rw [if_neg (by omega)]; omega
  have m2B : G2 sm_leftMixed B = f_Lm h ai B (x B) w := by rw [j5, lB2]; unfold pt; rw [if_neg (by omega)]; omega
  have x2B : G2 sm_mixed (8 * m + B) = x B := by rw [j7, dm B hB]; unfold pt; rw [if_neg (by omega)]; omega
  have y2A : G2 sm_above (8 * (m + 1) + A) = G' sm_above (8 * (m + 1) + A) := by rw [j6]; unfold pt; rw [if_neg (by omega)]; omega
  have z2A : G2 sm_mixed (8 * (m + 1) + A) = G' sm_mixed (8 * (m + 1) + A) := by rw [j7]; unfold pt; rw [if_neg (by omega)]; omega
  refine x_aload_n d_Sm_step_110 rfl rfl ?_
  refine x_iload_n d_Sm_step_111 rfl rfl ?_
  refine x_iload d_Sm_step_112 rfl ?_
  refine x_iload d_Sm_step_114 rfl ?_
  refine x_iload d_Sm_step_116 rfl ?_
  refine x_inegN d_Sm_step_118 (by omega) (by omega) ?_
  have c2 := c_carry (G := G2) m B A (- ai w) hm (by omega) (by omega) (by omega) (by omega) (by omega) (by omega) (by omega) (by omega) (by omega)
  rw [s2B, a2B, m2B, x2B, ← wb3, ← wb4] at c2
  refine x_VQ d_Sm_step_119 e_Sm_step_Sm_carry ⟨rfl, rfl, Nat.zero_le _, Nat.zero_le _⟩ rfl rfl rfl rfl (Nat.le_of_ble_eq_true rfl) (c2) (fun v τ hv => ?_)
  obtain ⟨rfl, G3, rfl, k1, k2, k3, k4, k5, k6, k7⟩ := hv
  show x_A y_Sm_step 122 _ [] (S0, G3) 0 0 Q
  refine k G3 ⟨fun i q1 q2 q3 q4 q5 => (k1 i q1 q2 q3 q4 q5).trans ((j1 i q1 q2 q3 q4 q5).trans (i1 i q1 q2 q3 q4 q5)), fun q hq => (k2 q hq).trans ((j2 q hq).trans (i2 q hq)), fun p hp => ?_, fun j => ?_, fun j => ?_⟩
  · obtain ⟨p1, p2, p3⟩ := i3 p hp
    have eL := f_La_s h ai p (a p) w
    have eM := f_Lm_s h ai p (x p) w
    have eS : f_str h ai p (w + 1) = (f_str h ai p w || (f_at h p w && (decide (6 ≤ ai w) || decide (ai w ≤ -6)))) := rfl
    have hbit : xb (G3 o_Sm 12) p = (f_str h ai p w || ((decide (p = A) || decide (p = B)) && (decide (6 ≤ ai w) || decide (ai w ≤ -6)))) := by
      rw [k3, j3]
      by_cases q : 6 ≤ ai w ∨ ai w ≤ -6
      · rw [if_pos (by omega), if_pos q, xb_or, xb_or, p3, xb_one (by omega) (by omega), xb_one (by omega) (by omega)]
        have : (decide (6 ≤ ai w) || decide (ai w ≤ -6)) = true := by rcases q with q | q <;> simp [q]
        rw [this]
        cases f_str h ai p w <;> simp
      · rw [if_neg (by omega), if_neg q, p3]
        have : (decide (6 ≤ ai w) || decide (ai w ≤ -6)) = false := by rw [decide_eq_false (by omega), decide_eq_false (by omega)]; rfl
        rw [this]
        simp
    rw [hbit, eL, eM, eS, k4, j4, k5, j5, p1, p2]
    unfold pt
    by_cases q1 : p = A
    · subst q1
      rw [if_pos rfl, if_pos rfl, if_neg hAB, if_neg hAB, wa1, decide_eq_true rfl]
      refine ⟨by omega, by omega, by simp⟩
    · by_cases q2 : p = B
      · subst q2
        rw [if_neg q1, if_pos rfl, if_neg q1, if_pos rfl, wb1, decide_eq_true (show p = p from rfl)]
        refine ⟨by omega, by omega, by simp⟩
      · obtain ⟨o1, o2, o3⟩ := way_O h ai eA eB q1 q2 (a p) (x p)
        rw [if_neg q1, if_neg q2, if_neg q1, if_neg q2, o1, o2, o3, decide_eq_false q1, decide_eq_false q2]
        refine ⟨by omega, by omega, by simp⟩
  · rw [k6, j6, i4, way_dA hh ai a _ _ hw eA eB]; omega
  · rw [k7, j7, i5, way_dM hh ai x _ _ hw eA eB]; omega
/-- behind the first n pieces that settle -/
def sI (h : HH) (ai a x : Nat → Int) (m n : Nat) (G2 G' : Nat → Nat → Int) : Prop :=
  (∀ i, i ≠ sm_leftAbove → i ≠ sm_leftMixed → i ≠ sm_above → i ≠ sm_mixed → i ≠ sm_totals → G' i = G2 i) ∧ (∀ p, n ≤ p → G' sm_leftAbove p = G2 sm_leftAbove p ∧ G' sm_leftMixed p = G2 sm_leftMixed p) ∧
  (∀ j, G' sm_totals j = G2 sm_totals j + pt (3 * (m + 1) + 1) (sk_go h ai a x n) j) ∧
  (∀ j, G' sm_above j = G2 sm_above j + su (fun p => pt (8 * (m + 1) + p) (f_ra h ai p (a p) - f_fall h ai p (a p)) j) n) ∧ (∀ j, G' sm_mixed j = G2 sm_mixed j + su (fun p => pt (8 * (m + 1) + p) (f_rm h ai p (x p) + f_fall h ai p (a p)) j) n)
theorem su_pts {t n j : Nat} {v : Nat → Int} (hj : t + n ≤ j ∨ j < t) : su (fun p => pt (t + p) (v p) j) n = 0 := by
  rw [su_congr (g := fun _ => 0) (fun p hp => by unfold pt; rw [if_neg (by omega)]), su_zero]
theorem su_diag {t n q : Nat} {v : Nat → Int} (hq : q < n) : su (fun p => pt (t + p) (v p) (t + q)) n = v q := by
  rw [su_congr (g := pt q (v q)) (fun p hp => by unfold pt; by_cases e : p = q
                                                 · subst e; rw [if_pos rfl, if_pos rfl]
                                                 · rw [if_neg (by omega), if_neg e]), su_pt _ hq]
theorem sI_s (hh : Hwf h) (r : fRep h G) {ai a x : Nat → Int} {m n : Nat} {G1 G2 G' : Nat → Nat → Int} {Q : XRes → XM → Prop} {lv : List (Option XV)} (hm : m < 20) (hn : n < h.2 0) (ha : ∀ p, 0 ≤ a p ∧ a p ≤ 2100000) (hx : ∀ p, 0 ≤ x p ∧ x p ≤ 2100000) (hsh : ∀ p, p < h.2 0 → G1 sm_shares p = a p / 8) (hz : ∀ j, 8 * (m + 1) ≤ j → j < 168 → G1 sm_above j = 0 ∧ G1 sm_mixed j = 0) (hmx : ∀ p, p < h.2 0 → G1 sm_mixed (8 * m + p) = x p) (hT : 0 ≤ G1 sm_totals (3 * (m + 1) + 1) ∧ G1 sm_totals (3 * (m + 1) + 1) ≤ 10000000)
    (hf : ∀ i, 6 ≤ i → i < 26 → G1 i = G i) (hI : wI h ai a x m (h.2 1) G1 G2) (hJ : sI h ai a x m n G2 G') (elv : lv = [some oSm, some (xI (m : Int)), none, none, some (xI (n : Int)), none, none, none])
    (k : ∀ G3, sI h ai a x m (n + 1) G2 G3 → x_A y_Sm_step 153 lv [] (S0, G3) 0 0 Q) : x_A y_Sm_step 146 lv [] (S0, G') 0 0 Q := by
  have b := hh.1
  obtain ⟨i1, i2, i3, i4, i5⟩ := hI
  obtain ⟨j1, j2, j3, j4, j5⟩ := hJ
  obtain ⟨p1, p2, p3⟩ := i3 n hn
  obtain ⟨q1, q2⟩ := j2 n (Nat.le_refl n)
  have rr : fRep h G' := r.same (fun i h1 h2 => by
    rw [j1 i (by simp only [sm_leftAbove]; omega) (by simp only [sm_leftMixed]; omega) (by simp only [sm_above]; omega) (by simp only [sm_mixed]; omega) (by simp only [sm_totals]; omega), i1 i (by simp only [sm_leftAbove]; omega) (by simp only [sm_leftMixed]; omega) (by simp only [sm_above]; omega) (by simp only [sm_mixed]; omega) (by simp only [o_Sm]; omega)]
    exact hf i h1 h2)
  have es : G' sm_shares n = a n / 8 := by
    rw [j1 sm_shares (by decide) (by decide) (by decide) (by decide) (by decide), i1 sm_shares (by decide) (by decide) (by decide) (by decide) (by decide)]
    exact hsh n hn
  have eS : G' o_Sm = G2 o_Sm := j1 o_Sm (by decide) (by decide) (by decide) (by decide) (by decide)
  have dm : G' sm_mixed (8 * m + n) = x n := by
    rw [j5, su_pts (Or.inr (by omega)), i5, hmx n hn, su_congr (g := fun _ => 0) (fun q hq => f_dM_o hh ai q (8 * (m + 1)) (x q) (Nat.le_refl _) (Or.inl (by omega))), su_zero]; omega
  have bd := wI_bd hh (ai := ai) ha hx (8 * (m + 1)) (h.2 1) (8 * (m + 1) + n)
  have zz := hz (8 * (m + 1) + n) (by omega) (by omega)
  have vA := i4 (8 * (m + 1) + n)
  have uA := i5 (8 * (m + 1) + n)
  have wA := j4 (8 * (m + 1) + n)
  have xA := j5 (8 * (m + 1) + n)
  rw [su_pts (Or.inl (Nat.le_refl _))] at wA xA
  have hgo := sk_go_bd h ai (a := a) (x := x) (B := 2100000) ha hx n
  have tA := j3 (3 * (m + 1) + 1)
  have eT : G2 sm_totals = G1 sm_totals := i1 sm_totals (by decide) (by decide) (by decide) (by decide) (by decide)
  rw [eT] at tA
  have tA2 : pt (3 * (m + 1) + 1) (sk_go h ai a x n) (3 * (m + 1) + 1) = sk_go h ai a x n := by unfold pt; rw [if_pos rfl]
  have bLA := f_La_bd h ai n (ha n).1 (h.2 1)
  have bMA := f_Lm_bd h ai n (hx n).1 (h.2 1)
  have haA := ha n
  have hxA := hx n
  have hnB : (n : Int) * (2 * 2100000) ≤ 33600000 := by omega
  subst elv
  refine x_aload_n d_Sm_step_146 rfl rfl ?_
  refine x_iload_n d_Sm_step_147 rfl rfl ?_
  refine x_iload d_Sm_step_148 rfl ?_
  have c1 := c_settle (G := G') hh rr m n hm hn (la := f_La h ai n (a n) (h.2 1)) (lm := f_Lm h ai n (x n) (h.2 1)) (x := x n) (sh := a n / 8) (q1.trans p1) (q2.trans p2) es dm (by omega) (by omega) (by omega) (by omega) (by omega) (by omega) (by omega) (ga := f_ga h ai n (a n)) (gm := f_gm h ai n (x n)) (fl := f_fall h ai n (a n)) rfl rfl (by rw [eS, p3]; rfl)
  refine x_VQ d_Sm_step_150 e_Sm_step_Sm_settle ⟨rfl, rfl, Nat.zero_le _, Nat.zero_le _⟩ rfl rfl rfl rfl (Nat.le_of_ble_eq_true rfl) (c1) (fun v τ hv => ?_)
  obtain ⟨rfl, G3, rfl, k1, k2, k3, k4, k5⟩ := hv
  show x_A y_Sm_step 153 _ [] (S0, G3) 0 0 Q
  refine k G3 ⟨fun i z1 z2 z3 z4 z5 => (k1 i z1 z2 z3 z4 z5).trans (j1 i z1 z2 z3 z4 z5), fun p hp => ?_, fun j => ?_, fun j => ?_, fun j => ?_⟩
  · obtain ⟨g1, g2⟩ := k2 p (by omega)
    obtain ⟨g3, g4⟩ := j2 p (by omega)
    exact ⟨g1.trans g3, g2.trans g4⟩
  · rw [k3, j3]
    show _ = _ + pt _ (sk_go h ai a x n + (f_ga h ai n (a n) + f_gm h ai n (x n))) j
    rw [pt_add (3 * (m + 1) + 1) (sk_go h ai a x n)]
    omega
  · rw [k4, j4]
    show _ = _ + (su _ n + pt (8 * (m + 1) + n) (f_ra h ai n (a n) - f_fall h ai n (a n)) j)
    have : f_La h ai n (a n) (h.2 1) - f_ga h ai n (a n) - f_fall h ai n (a n) = f_ra h ai n (a n) - f_fall h ai n (a n) := rfl
    rw [this]
    omega
  · rw [k5, j5]
    show _ = _ + (su _ n + pt (8 * (m + 1) + n) (f_rm h ai n (x n) + f_fall h ai n (a n)) j)
    have : f_Lm h ai n (x n) (h.2 1) - f_gm h ai n (x n) + f_fall h ai n (a n) = f_rm h ai n (x n) + f_fall h ai n (a n) := rfl
    rw [this]
    omega
end CW
