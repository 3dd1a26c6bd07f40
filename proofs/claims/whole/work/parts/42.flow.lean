/-! what goes through a net: never more than any cut; as much as a cut that nothing can leave -/
/-- L is left on the arcs when val has gone from the source 336 to the sink 337 -/
def fOK (N : NT) (L : Nat → Int) (val : Int) : Prop :=
  (∀ k, k < N.1 → 0 ≤ L (2 * k) ∧ 0 ≤ L (2 * k + 1) ∧ L (2 * k) + L (2 * k + 1) = N.2.2.2 k) ∧ ∀ χ : Nat → Int, su (fun k => L (2 * k + 1) * (χ (N.2.1 k) - χ (N.2.2.1 k))) N.1 = val * (χ 336 - χ 337)
def nOut (S : Nat → Bool) : Prop := S 336 = true ∧ S 337 = false
/-- nothing can leave S any more -/
def nShut (N : NT) (L : Nat → Int) (S : Nat → Bool) : Prop := ∀ e, e < 2 * N.1 → S (te N e) = true → 0 < L e → S (he N e) = true
theorem fOK_0 {N : NT} (h : nWf N) : fOK N (L0 N) 0 := by
  refine ⟨fun k hk => ?_, fun χ => ?_⟩
  · unfold L0
    rw [if_pos (by omega), if_neg (by omega), show 2 * k / 2 = k by omega]
    have := (h.2 k hk).2.2
    omega
  · rw [su_congr (g := fun _ => 0) (fun k hk => ?_), su_zero]
    · omega
    · unfold L0
      rw [if_neg (by omega)]
      omega
theorem su_mono {f g : Nat → Int} {n : Nat} (h : ∀ i, i < n → f i ≤ g i) : su f n ≤ su g n := by
  induction n with
  | zero => exact Int.le_refl 0
  | succ n ih => show su f n + f n ≤ su g n + g n; have := ih (fun i hi => h i (by omega)); have := h n (by omega); omega
theorem su_tight {f g : Nat → Int} {n : Nat} (h : ∀ i, i < n → f i ≤ g i) (e : su f n = su g n) : ∀ i, i < n → f i = g i := by
  induction n with
  | zero => intro i hi; omega
  | succ n ih =>
    have e : su f n + f n = su g n + g n := e
    have h1 := su_mono (fun i hi => h i (by omega : i < n + 1)) (n := n)
    have h2 := h n (by omega)
    intro i hi
    by_cases q : i = n
    · subst q; omega
    · exact ih (fun i hi => h i (by omega)) (by omega) i (by omega)
theorem f_term {N : NT} {L : Nat → Int} {val : Int} (h : fOK N L val) (S : Nat → Bool) {k : Nat} (hk : k < N.1) : L (2 * k + 1) * (b2i (S (N.2.1 k)) - b2i (S (N.2.2.1 k))) ≤ ind S (N.2.1 k) (N.2.2.1 k) (N.2.2.2 k) := by
  have g := h.1 k hk
  unfold ind b2i
  cases S (N.2.1 k) <;> cases S (N.2.2.1 k) <;> simp <;> omega
theorem f_val {N : NT} {L : Nat → Int} {val : Int} (h : fOK N L val) {S : Nat → Bool} (hS : nOut S) : su (fun k => L (2 * k + 1) * (b2i (S (N.2.1 k)) - b2i (S (N.2.2.1 k)))) N.1 = val := by
  rw [h.2 (fun n => b2i (S n)), hS.1, hS.2]
  show val * (1 - 0) = val
  omega
theorem f_le {N : NT} {L : Nat → Int} {val : Int} (h : fOK N L val) {S : Nat → Bool} (hS : nOut S) : val ≤ cut N S := by
  rw [← f_val h hS]
  exact su_mono (fun k hk => f_term h S hk)
theorem te_0 (N : NT) (k : Nat) : te N (2 * k) = N.2.1 k ∧ he N (2 * k) = N.2.2.1 k := by
  unfold te he; rw [if_pos (by omega), if_pos (by omega), show 2 * k / 2 = k by omega]; exact ⟨rfl, rfl⟩
theorem te_1 (N : NT) (k : Nat) : te N (2 * k + 1) = N.2.2.1 k ∧ he N (2 * k + 1) = N.2.1 k := by
  unfold te he; rw [if_neg (by omega), if_neg (by omega), show (2 * k + 1) / 2 = k by omega]; exact ⟨rfl, rfl⟩
theorem f_eq {N : NT} {L : Nat → Int} {val : Int} (h : fOK N L val) {S : Nat → Bool} (hS : nOut S) (hc : nShut N L S) : val = cut N S := by
  rw [← f_val h hS]
  refine su_congr (fun k hk => ?_)
  have g := h.1 k hk
  have c0 := hc (2 * k) (by omega)
  have c1 := hc (2 * k + 1) (by omega)
  rw [(te_0 N k).1, (te_0 N k).2] at c0
  rw [(te_1 N k).1, (te_1 N k).2] at c1
  unfold ind b2i
  cases hu : S (N.2.1 k) <;> cases hv : S (N.2.2.1 k) <;> simp [hu, hv] at c0 c1 ⊢ <;> omega
theorem f_shut {N : NT} {L : Nat → Int} {val : Int} (h : fOK N L val) {S : Nat → Bool} (hS : nOut S) (e : val = cut N S) : nShut N L S := by
  have ht := su_tight (f := fun k => L (2 * k + 1) * (b2i (S (N.2.1 k)) - b2i (S (N.2.2.1 k)))) (g := fun k => ind S (N.2.1 k) (N.2.2.1 k) (N.2.2.2 k)) (n := N.1) (fun k hk => f_term h S hk) ((f_val h hS).trans e)
  intro q hq h1 h2
  have hk : q / 2 < N.1 := by omega
  have t := ht (q / 2) hk
  have g := h.1 (q / 2) hk
  by_cases p : q % 2 = 0
  · rw [show q = 2 * (q / 2) by omega] at h1 h2 ⊢
    rw [(te_0 N (q / 2)).1] at h1
    rw [(te_0 N (q / 2)).2]
    unfold ind b2i at t
    cases hv : S (N.2.2.1 (q / 2))
    · simp [h1, hv] at t; omega
    · rfl
  · rw [show q = 2 * (q / 2) + 1 by omega] at h1 h2 ⊢
    rw [(te_1 N (q / 2)).1] at h1
    rw [(te_1 N (q / 2)).2]
    unfold ind b2i at t
    cases hu : S (N.2.1 (q / 2))
    · simp [h1, hu] at t; omega
    · rfl
/-- what is left behind a push of n along the first i arcs of a path -/
def pushL (L : Nat → Int) (p : Nat → Nat) (n : Int) : Nat → Nat → Int
  | 0 => L
  | i + 1 => fun e => pushL L p n i e - pt (p i) n e + pt (xr (p i)) n e
def pmin (L : Nat → Int) (p : Nat → Nat) : Nat → Int
  | 0 => 1000000
  | i + 1 => min (pmin L p i) (L (p i))
theorem pmin_le (L : Nat → Int) (p : Nat → Nat) (n : Nat) : pmin L p n ≤ 1000000 ∧ ∀ i, i < n → pmin L p n ≤ L (p i) := by
  induction n with
  | zero => exact ⟨Int.le_refl _, fun i hi => by omega⟩
  | succ n ih =>
    have e : pmin L p (n + 1) = min (pmin L p n) (L (p n)) := rfl
    refine ⟨by omega, fun i hi => ?_⟩
    by_cases q : i = n
    · subst q; omega
    · have := ih.2 i (by omega); omega
theorem pmin_pos {L : Nat → Int} {p : Nat → Nat} {n : Nat} (h : ∀ i, i < n → 1 ≤ L (p i)) : 1 ≤ pmin L p n := by
  induction n with
  | zero => show (1 : Int) ≤ 1000000; omega
  | succ n ih =>
    have e : pmin L p (n + 1) = min (pmin L p n) (L (p n)) := rfl
    have := ih (fun i hi => h i (by omega))
    have := h n (by omega)
    omega
theorem pmin_nn {L : Nat → Int} {p : Nat → Nat} {n : Nat} (h : ∀ i, i < n → 0 ≤ L (p i)) : 0 ≤ pmin L p n := by
  induction n with
  | zero => show (0 : Int) ≤ 1000000; omega
  | succ n ih =>
    have e : pmin L p (n + 1) = min (pmin L p n) (L (p n)) := rfl
    have := ih (fun i hi => h i (by omega))
    have := h n (by omega)
    omega
theorem push_bd {L : Nat → Int} {p : Nat → Nat} {n : Int} (hL : ∀ e, 0 ≤ L e ∧ L e ≤ 1000000) (hn : 0 ≤ n ∧ n ≤ 1000000) (i e : Nat) : -(1000000 * (i : Int)) ≤ pushL L p n i e ∧ pushL L p n i e ≤ 1000000 * ((i : Int) + 1) := by
  induction i with
  | zero => show _ ≤ L e ∧ L e ≤ _; have := hL e; omega
  | succ i ih =>
    show _ ≤ pushL L p n i e - pt (p i) n e + pt (xr (p i)) n e ∧ pushL L p n i e - pt (p i) n e + pt (xr (p i)) n e ≤ _
    unfold pt
    split <;> split <;> omega
theorem push_nn {L : Nat → Int} {p : Nat → Nat} {n : Int} {i : Nat} (hL : ∀ e, 0 ≤ L e) (hn : 0 ≤ n) (hp : ∀ j, j < i → n ≤ L (p j)) (hd : ∀ j k, j < i → k < i → p j = p k → j = k) (e : Nat) : 0 ≤ pushL L p n i e ∧ ((∀ j, j < i → p j ≠ e) → L e ≤ pushL L p n i e) := by
  have key : ∀ m, m ≤ i → ((∀ j, j < m → p j ≠ e) → L e ≤ pushL L p n m e) ∧ L e - n ≤ pushL L p n m e ∧ 0 ≤ pushL L p n m e := by
    intro m
    induction m with
    | zero => intro _; exact ⟨fun _ => Int.le_refl _, by show L e - n ≤ L e; omega, hL e⟩
    | succ m ih =>
      intro hm
      obtain ⟨i1, i2, i3⟩ := ih (by omega)
      have e1 : pushL L p n (m + 1) e = pushL L p n m e - pt (p m) n e + pt (xr (p m)) n e := rfl
      have e2 : 0 ≤ pt (xr (p m)) n e := by unfold pt; split <;> omega
      by_cases q : p m = e
      · have e3 : pt (p m) n e = n := by unfold pt; rw [if_pos q.symm]
        have i4 := i1 (fun j hj z => by have := hd j m (by omega) (by omega) (z.trans q.symm); omega)
        have := hp m (by omega)
        rw [q] at this
        exact ⟨fun h => absurd q (h m (by omega)), by omega, by omega⟩
      · have e3 : pt (p m) n e = 0 := by unfold pt; rw [if_neg (fun z => q z.symm)]
        exact ⟨fun h => by have := i1 (fun j hj => h j (by omega)); omega, by omega, by omega⟩
  exact ⟨(key i (Nat.le_refl i)).2.2, (key i (Nat.le_refl i)).1⟩
theorem push_pair (L : Nat → Int) (p : Nat → Nat) (n : Int) (i k : Nat) : pushL L p n i (2 * k) + pushL L p n i (2 * k + 1) = L (2 * k) + L (2 * k + 1) := by
  induction i with
  | zero => rfl
  | succ i ih =>
    show pushL L p n i (2 * k) - pt (p i) n (2 * k) + pt (xr (p i)) n (2 * k) + (pushL L p n i (2 * k + 1) - pt (p i) n (2 * k + 1) + pt (xr (p i)) n (2 * k + 1)) = _
    have a1 : pt (p i) n (2 * k) = pt (xr (p i)) n (2 * k + 1) := by
      unfold pt xr
      by_cases q : p i % 2 = 0
      · rw [if_pos q]
        by_cases q2 : 2 * k = p i
        · rw [if_pos q2, if_pos (by omega)]
        · rw [if_neg q2, if_neg (by omega)]
      · rw [if_neg q, if_neg (by omega), if_neg (by omega)]
    have a2 : pt (xr (p i)) n (2 * k) = pt (p i) n (2 * k + 1) := by
      unfold pt xr
      by_cases q : p i % 2 = 0
      · rw [if_pos q, if_neg (by omega), if_neg (by omega)]
      · rw [if_neg q]
        by_cases q2 : 2 * k + 1 = p i
        · rw [if_pos (by omega), if_pos q2]
        · rw [if_neg (by omega), if_neg q2]
    omega
/-- the node at which a path stands behind i arcs -/
def pend (N : NT) (p : Nat → Nat) (s : Nat) : Nat → Nat
  | 0 => s
  | i + 1 => he N (p i)
theorem su_one {f g : Nat → Int} {n k : Nat} {d : Int} (hk : k < n) (h : ∀ i, i < n → i ≠ k → g i = f i) (h2 : g k = f k + d) : su g n = su f n + d := by
  induction n with
  | zero => omega
  | succ n ih =>
    show su g n + g n = su f n + f n + d
    by_cases q : k = n
    · subst q
      rw [su_congr (f := g) (g := f) (fun i hi => h i (by omega) (by omega)), h2]; omega
    · rw [ih (by omega) (fun i hi => h i (by omega)), h n (by omega) (fun z => q z.symm)]; omega
theorem push_val {N : NT} {L : Nat → Int} {p : Nat → Nat} {n : Int} {i : Nat} (hp : ∀ j, j < i → p j < 2 * N.1 ∧ te N (p j) = pend N p 336 j) (χ : Nat → Int) : su (fun k => pushL L p n i (2 * k + 1) * (χ (N.2.1 k) - χ (N.2.2.1 k))) N.1 = su (fun k => L (2 * k + 1) * (χ (N.2.1 k) - χ (N.2.2.1 k))) N.1 + n * (χ 336 - χ (pend N p 336 i)) := by
  induction i with
  | zero => show _ = _ + n * (χ 336 - χ 336); rw [Int.sub_self, Int.mul_zero, Int.add_zero]; rfl
  | succ i ih =>
    obtain ⟨h1, h2⟩ := hp i (by omega)
    have i1 := ih (fun j hj => hp j (by omega))
    have hk : p i / 2 < N.1 := by omega
    have step := su_one (f := fun k => pushL L p n i (2 * k + 1) * (χ (N.2.1 k) - χ (N.2.2.1 k))) (g := fun k => pushL L p n (i + 1) (2 * k + 1) * (χ (N.2.1 k) - χ (N.2.2.1 k))) (n := N.1) (k := p i / 2) (d := n * (χ (te N (p i)) - χ (he N (p i)))) hk (fun j hj hne => ?_) ?_
    · rw [step, i1, h2]
      show _ = _ + n * (χ 336 - χ (he N (p i)))
      rw [Int.mul_sub, Int.mul_sub, Int.mul_sub]
      omega
    · show (pushL L p n i (2 * j + 1) - pt (p i) n (2 * j + 1) + pt (xr (p i)) n (2 * j + 1)) * _ = _
      have a1 : pt (p i) n (2 * j + 1) = 0 := by unfold pt; rw [if_neg (by omega)]
      have a2 : pt (xr (p i)) n (2 * j + 1) = 0 := by unfold pt xr; split <;> rw [if_neg (by omega)]
      rw [a1, a2, Int.sub_zero, Int.add_zero]
    · show (pushL L p n i (2 * (p i / 2) + 1) - pt (p i) n (2 * (p i / 2) + 1) + pt (xr (p i)) n (2 * (p i / 2) + 1)) * (χ (N.2.1 (p i / 2)) - χ (N.2.2.1 (p i / 2))) = pushL L p n i (2 * (p i / 2) + 1) * (χ (N.2.1 (p i / 2)) - χ (N.2.2.1 (p i / 2))) + _
      by_cases q : p i % 2 = 0
      · have a1 : pt (p i) n (2 * (p i / 2) + 1) = 0 := by unfold pt; rw [if_neg (by omega)]
        have a2 : pt (xr (p i)) n (2 * (p i / 2) + 1) = n := by unfold pt xr; rw [if_pos q, if_pos (by omega)]
        have a3 : te N (p i) = N.2.1 (p i / 2) ∧ he N (p i) = N.2.2.1 (p i / 2) := by unfold te he; rw [if_pos q, if_pos q]; exact ⟨rfl, rfl⟩
        rw [a1, a2, a3.1, a3.2, Int.sub_zero, Int.add_mul]
      · have a1 : pt (p i) n (2 * (p i / 2) + 1) = n := by unfold pt; rw [if_pos (by omega)]
        have a2 : pt (xr (p i)) n (2 * (p i / 2) + 1) = 0 := by unfold pt xr; rw [if_neg q, if_neg (by omega)]
        have a3 : te N (p i) = N.2.2.1 (p i / 2) ∧ he N (p i) = N.2.1 (p i / 2) := by unfold te he; rw [if_neg q, if_neg q]; exact ⟨rfl, rfl⟩
        rw [a1, a2, a3.1, a3.2, Int.add_zero, Int.sub_mul, Int.mul_sub n (χ (N.2.1 (p i / 2))) (χ (N.2.2.1 (p i / 2))), Int.mul_sub n (χ (N.2.2.1 (p i / 2))) (χ (N.2.1 (p i / 2)))]
        omega
/-- a push from source to sink keeps all in order -/
theorem push_ok {N : NT} {L : Nat → Int} {val n : Int} {p : Nat → Nat} {i : Nat} (h : fOK N L val) (hn : 0 ≤ n) (hp : ∀ j, j < i → p j < 2 * N.1 ∧ te N (p j) = pend N p 336 j) (hle : ∀ j, j < i → n ≤ L (p j)) (hd : ∀ j k, j < i → k < i → p j = p k → j = k) (hL : ∀ e, 0 ≤ L e) (hend : pend N p 336 i = 337) : fOK N (pushL L p n i) (val + n) := by
  refine ⟨fun k hk => ?_, fun χ => ?_⟩
  · have g := h.1 k hk
    have a := (push_nn hL hn hle hd (2 * k)).1
    have b := (push_nn hL hn hle hd (2 * k + 1)).1
    have c := push_pair L p n i k
    omega
  · rw [push_val hp χ, h.2 χ, hend, Int.add_mul]
