/-! the class: the most that goes through a net -/
section CN5
variable {G : Nat → Nat → Int}
def mMostC (N : NT) (G : Nat → Nat → Int) : Option XV → XM → Prop := fun v τ => ∃ G' L V, τ = (S0, G') ∧ v = some (xI V) ∧ eFrame G G' ∧ fOK N L V ∧ isMin (cut N) V ∧ nR N L (rSeen G') ∧ rSeen G' 337 = false ∧ ∀ n, n < 338 → (G' ne_seen n = 0 ∨ G' ne_seen n = 1)
theorem c_nmost {N : NT} (hw : nWf N) (hK : N.1 ≤ 1024) (hn : cNet N (L0 N) G) (hB : ∃ S, nOut S ∧ cut N S ≤ 1000) : x_M y_Ne_most [oNe] (S0, G) (fun r τ => ∃ v, r = .inl v ∧ mMostC N G v τ) := by
  obtain ⟨n1, n2, n3⟩ := hn
  have cutB : ∀ (L : Nat → Int) (V : Int), fOK N L V → V ≤ 1000 := fun L V h => by
    obtain ⟨S, s1, s2⟩ := hB
    have := f_le h s1
    omega
  refine x_of 3 rfl (Nat.le_of_ble_eq_true rfl) ?_
  show x_A y_Ne_most 0 [some oNe, none, none, none] [] (S0, G) 0 0 _
  generalize hQ : (fun (r : XRes) (τ : XM) => ∃ v, r = .inl v ∧ mMostC N G v τ) = Q
  refine x_iconst (0) d_Ne_most_0 rfl ⟨by decide, by decide⟩ ?_
  refine x_istore_n d_Ne_most_1 rfl (by decide) ?_
  dsimp only [x_st1, x_st2, x_kill, List.set, List.getElem?_cons_zero, List.getElem?_cons_succ]
  refine x_iconst (0) d_Ne_most_2 rfl ⟨by decide, by decide⟩ ?_
  refine x_istore_n d_Ne_most_3 rfl (by decide) ?_
  dsimp only [x_st1, x_st2, x_kill, List.set, List.getElem?_cons_zero, List.getElem?_cons_succ]
  have loop : ∀ t : Nat, ∀ (V rd : Int) (L : Nat → Int) (G' : Nat → Nat → Int) z, (∀ i, i ≠ ne_pointers → i ≠ ne_path → i ≠ ne_seen → i ≠ ne_free → G' i = G i) → (∀ e, e < 2 * N.1 → G' ne_free e = L e) → fOK N L V → 0 ≤ rd → rd ≤ V → 1000 - V < t → x_A y_Ne_most 4 [some oNe, some (xI V), some (xI rd), z] [] (S0, G') 0 0 Q := by
    intro t
    induction t with
    | zero =>
      intro V rd L G' z f1 f2 f3 r1 r2 ht
      have := cutB _ _ f3
      omega
    | succ t ih =>
      intro V rd L G' z f1 f2 f3 r1 r2 ht
      have cb := cutB _ _ f3
      have hnet : cNet N L G' := ⟨by rw [f1 o_Ne (by decide) (by decide) (by decide) (by decide)]; exact n1, fun e he => by
          rw [f1 ne_ends (by decide) (by decide) (by decide) (by decide), f1 ne_later (by decide) (by decide) (by decide) (by decide)]
          exact ⟨(n2 e he).1, (n2 e he).2.1, f2 e he⟩, fun n hn => by rw [f1 ne_heads (by decide) (by decide) (by decide) (by decide)]; exact n3 n hn⟩
      refine x_iload_n d_Ne_most_4 rfl rfl ?_
      refine x_ldc (1000000) d_Ne_most_5 k_Ne_42 ⟨by decide, by decide⟩ ?_
      refine x_icmp_ge (32) d_Ne_most_7 (by decide) (fun g => ?_) (fun g => ?_)
      · omega
      · refine x_aload_n d_Ne_most_10 rfl rfl ?_
        refine x_VQ d_Ne_most_11 e_Ne_most_Ne_searchRound ⟨rfl, rfl, Nat.zero_le _, Nat.zero_le _⟩ rfl rfl rfl rfl (Nat.le_of_ble_eq_true rfl) (c_searchRound hw hK hnet f3 (by omega) hB) (fun v τ hv => ?_)
        obtain ⟨G2, L2, s, rfl, rfl, s0, g1, g2, g3, g4, g5⟩ := hv
        show x_A y_Ne_most 14 [some oNe, some (xI V), some (xI rd), z] [xI s] (S0, G2) 0 0 Q
        have cb2 := cutB _ _ g3
        refine x_istore_n d_Ne_most_14 rfl (by decide) ?_
        dsimp only [x_st1, x_st2, x_kill, List.set, List.getElem?_cons_zero, List.getElem?_cons_succ]
        refine x_iload_n d_Ne_most_15 rfl rfl ?_
        refine x_iload_n d_Ne_most_16 rfl rfl ?_
        refine x_iaddN d_Ne_most_17 (by omega) (by omega) ?_
        refine x_istore_n d_Ne_most_18 rfl (by decide) ?_
        dsimp only [x_st1, x_st2, x_kill, List.set, List.getElem?_cons_zero, List.getElem?_cons_succ]
        refine x_iload_n d_Ne_most_19 rfl rfl ?_
        refine x_if_ne (26) d_Ne_most_20 (by decide) (fun g6 => ?_) (fun g6 => ?_)
        · refine x_iincN d_Ne_most_26 rfl (by decide) (by omega) (by omega) ?_
          dsimp only [x_st1, x_st2, x_kill, List.set, List.getElem?_cons_zero, List.getElem?_cons_succ]
          refine x_goto (4) d_Ne_most_29 (by decide) ?_
          exact ih (V + s) _ L2 G2 _ (fun i q1 q2 q3 q4 => by rw [g1 i q1 q2 q3 q4]; exact f1 i q1 q2 q3 q4) g2 g3 (by omega) (by omega) (by omega)
        · refine x_goto (32) d_Ne_most_23 (by decide) ?_
          refine x_iload_n d_Ne_most_32 rfl rfl ?_
          refine x_ireturn d_Ne_most_33 rfl ?_ (Nat.zero_le _) (Nat.zero_le _)
          rw [← hQ]
          have e : s = 0 := by omega
          subst e
          rw [Int.add_zero] at g3 ⊢
          obtain ⟨a1, a2, a3⟩ := g5 rfl
          have hout : nOut (rSeen G2) := ⟨a1.1, a2⟩
          refine ⟨_, rfl, G2, L2, V, rfl, rfl, fun i hi => ?_, g3, ⟨⟨rSeen G2, hout, (f_eq g3 hout a1.2.1).symm⟩, fun S hS => f_le g3 hS⟩, a1, a2, a3⟩
          rw [g1 i (by intro q; subst q; simp only [ne_pointers, o_Ne, ne_free] at hi; omega) (by intro q; subst q; simp only [ne_path, o_Ne, ne_free] at hi; omega) (by intro q; subst q; simp only [ne_seen, o_Ne, ne_free] at hi; omega) (by intro q; subst q; simp only [o_Ne, ne_free] at hi; omega)]
          exact f1 i (by intro q; subst q; simp only [ne_pointers, o_Ne, ne_free] at hi; omega) (by intro q; subst q; simp only [ne_path, o_Ne, ne_free] at hi; omega) (by intro q; subst q; simp only [ne_seen, o_Ne, ne_free] at hi; omega) (by intro q; subst q; simp only [o_Ne, ne_free] at hi; omega)
  exact loop 2000 0 0 (L0 N) G none (fun _ _ _ _ _ => rfl) (fun e he => (n2 e he).2.2) (fOK_0 hw) (Int.le_refl 0) (Int.le_refl 0) (by omega)
end CN5
/-! the class's nodes and the reference's -/
def rho (n : Nat) : Nat := if 336 ≤ n then n else 16 * (n / 16) + (if n % 16 < 8 then 2 * (n % 16) else 2 * (n % 16 - 8) + 1)
def rhoI (n : Nat) : Nat := if 336 ≤ n then n else 16 * (n / 16) + (if n % 2 = 0 then n % 16 / 2 else 8 + n % 16 / 2)
theorem rho_b {m p : Nat} (hm : m < 21) (hp : p < 8) : rho (16 * m + p) = 16 * m + 2 * p := by
  unfold rho
  rw [if_neg (by omega), if_pos (by omega)]; omega
theorem rho_i {m p : Nat} (hm : m < 21) (hp : p < 8) : rho (16 * m + 8 + p) = 16 * m + 2 * p + 1 := by
  unfold rho
  rw [if_neg (by omega), if_neg (by omega)]; omega
theorem rho_s : rho 336 = 336 := rfl
theorem rho_t : rho 337 = 337 := rfl
theorem rho_inv (n : Nat) : rho (rhoI n) = n := by
  unfold rhoI
  by_cases h : 336 ≤ n
  · rw [if_pos h]; unfold rho; rw [if_pos h]
  · rw [if_neg h]
    by_cases q : n % 2 = 0
    · rw [if_pos q]
      unfold rho
      rw [if_neg (by omega), if_pos (by omega)]; omega
    · rw [if_neg q]
      unfold rho
      rw [if_neg (by omega), if_neg (by omega)]; omega
theorem rhoI_inv (n : Nat) : rhoI (rho n) = n := by
  unfold rho
  by_cases h : 336 ≤ n
  · rw [if_pos h]; unfold rhoI; rw [if_pos h]
  · rw [if_neg h]
    by_cases q : n % 16 < 8
    · rw [if_pos q]
      unfold rhoI
      rw [if_neg (by omega), if_pos (by omega)]; omega
    · rw [if_neg q]
      unfold rhoI
      rw [if_neg (by omega), if_neg (by omega)]; omega
theorem ind_rho (S : Nat → Bool) (a b : Nat) (c : Int) : ind (fun n => S (rho n)) a b c = ind S (rho a) (rho b) c := rfl
theorem su_swap (f : Nat → Nat → Int) (n m : Nat) : su (fun i => su (fun j => f i j) m) n = su (fun j => su (fun i => f i j) n) m := by
  induction n with
  | zero => show (0 : Int) = su (fun _ => 0) m; rw [su_zero]
  | succ n ih =>
    show su _ n + su (fun j => f n j) m = su (fun j => su (fun i => f i j) n + f n j) m
    rw [su_add, ih]
theorem su_ext {f : Nat → Int} {m n : Nat} (h : m ≤ n) (z : ∀ i, m ≤ i → i < n → f i = 0) : su f n = su f m := by
  obtain ⟨d, rfl⟩ : ∃ d, n = m + d := ⟨n - m, by omega⟩
  clear h
  induction d with
  | zero => rfl
  | succ d ih =>
    show su f (m + d) + f (m + d) = su f m
    rw [ih (fun i h1 h2 => z i h1 (by omega)), z (m + d) (by omega) (by omega)]; omega
/-- what the rooms add, what the outs add -/
def kR (h : HH) (sh : Nat → Nat → Bool) (by' : Nat) (S : Nat → Bool) (m p : Nat) : Int := ind S (16 * m + p) (16 * m + 8 + p) (if sh m p = true then 0 else h.1 0 p 0) + (if m < by' then ind S (16 * m + 8 + p) (16 * (m + 1) + p) 1000000 else 0)
def kX (h : HH) (by' : Nat) (set : Int) (S : Nat → Bool) (m p : Nat) : Int := if m < by' then ind S (16 * m + 8 + p) 337 (f_wide h p set (h.2 6)) else 0
theorem kP_RX (h : HH) (sh : Nat → Nat → Bool) (by' : Nat) (set : Int) (S : Nat → Bool) (m p : Nat) : kP h sh by' set S m p = kR h sh by' S m p + kX h by' set S m p := by
  unfold kP kR kX
  by_cases a : sh m p = true
  · rw [if_pos a, if_pos a, ind_0]
    split <;> omega
  · rw [if_neg a, if_neg a]
    split <;> omega
theorem cutF_C (h : HH) (sh : Nat → Nat → Bool) (by' times : Nat) (set : Int) (S : Nat → Bool) :
    su (fun p => su (fun m => kR h sh by' S m p) (by' + 1)) (h.2 0) + su (fun w => su (fun m => kW h by' times S m w) (by' + 1)) (h.2 1) + su (fun p => su (fun m => kX h by' set S m p) (by' + 1)) (h.2 0) + su (kG h by' S) (h.2 5) = cutF h sh by' times set S := by
  unfold cutF kM
  rw [su_add, su_swap (fun p m => kR h sh by' S m p), su_swap (fun w m => kW h by' times S m w), su_swap (fun p m => kX h by' set S m p)]
  have e : (fun m => su (kP h sh by' set S m) (h.2 0)) = fun m => su (fun p => kR h sh by' S m p) (h.2 0) + su (fun p => kX h by' set S m p) (h.2 0) := by
    funext m
    rw [← su_add]
    exact su_congr (fun p _ => kP_RX h sh by' set S m p)
  rw [e, su_add]
  have e2 : su (fun i => su (kW h by' times S i) (h.2 1)) (by' + 1) = su (fun j => su (fun i => kW h by' times S j i) (h.2 1)) (by' + 1) := rfl
  omega
