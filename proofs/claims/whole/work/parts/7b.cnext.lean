/-! the class: nextArc -/
section CN3
variable {G : Nat → Nat → Int}
/-- a pointer of the node n: none, or one of n's arcs -/
def okP (N : NT) (n : Nat) (z : Int) : Prop := z = -1 ∨ ∃ e : Nat, z = e ∧ e < 2 * N.1 ∧ te N e = n
def mNext (N : NT) (L : Nat → Int) (n : Nat) (G : Nat → Nat → Int) : Option XV → XM → Prop := fun v τ => ∃ z : Int, v = some (xI z) ∧ τ = (S0, up G ne_pointers n z) ∧ okP N n z ∧ (∀ q : Nat, q < 2 * N.1 → te N q = n → z < (q : Int) → (q : Int) ≤ G ne_pointers n → L q ≤ 0 ∨ G ne_seen (he N q) ≠ 0) ∧ ∀ e : Nat, z = e → 0 < L e ∧ G ne_seen (he N e) = 0
theorem c_nextArc {N : NT} {L : Nat → Int} (hw : nWf N) (hK : N.1 ≤ 1024) (hn : ∀ e, e < 2 * N.1 → G ne_ends e = he N e ∧ G ne_later e = prv N (te N e) e ∧ G ne_free e = L e) (n : Nat) (h8 : n < 338) (hp : okP N n (G ne_pointers n)) : x_M y_Ne_nextArc [oNe, xI (n : Int)] (S0, G) (fun r τ => ∃ v, r = .inl v ∧ mNext N L n G v τ) := by
  refine x_of 2 rfl (Nat.le_of_ble_eq_true rfl) ?_
  show x_A y_Ne_nextArc 0 [some oNe, some (xI (n : Int)), none, none] [] (S0, G) 0 0 _
  generalize hQ : (fun (r : XRes) (τ : XM) => ∃ v, r = .inl v ∧ mNext N L n G v τ) = Q
  refine x_aload_n d_Ne_nextArc_0 rfl rfl ?_
  refine x_getF (kf := 1) d_Ne_nextArc_1 rfl rfl rfl in_Ne f_Ne_15 ?_
  refine x_iload_n d_Ne_nextArc_4 rfl rfl ?_
  refine x_ialdN (n) d_Ne_nextArc_5 rfl (by omega) (by omega) ?_
  refine x_istore_n d_Ne_nextArc_6 rfl (by decide) ?_
  dsimp only [x_st1, x_st2, x_kill, List.set, List.getElem?_cons_zero, List.getElem?_cons_succ]
  refine x_iconst (0) d_Ne_nextArc_7 rfl ⟨by decide, by decide⟩ ?_
  refine x_istore_n d_Ne_nextArc_8 rfl (by decide) ?_
  dsimp only [x_st1, x_st2, x_kill, List.set, List.getElem?_cons_zero, List.getElem?_cons_succ]
  have last : ∀ (z : Int) w, okP N n z → (∀ q : Nat, q < 2 * N.1 → te N q = n → z < (q : Int) → (q : Int) ≤ G ne_pointers n → L q ≤ 0 ∨ G ne_seen (he N q) ≠ 0) → (∀ e : Nat, z = e → 0 < L e ∧ G ne_seen (he N e) = 0) → x_A y_Ne_nextArc 60 [some oNe, some (xI (n : Int)), some (xI z), w] [] (S0, G) 0 0 Q := by
    intro z w z1 z2 z3
    refine x_aload_n d_Ne_nextArc_60 rfl rfl ?_
    refine x_getF (kf := 1) d_Ne_nextArc_61 rfl rfl rfl in_Ne f_Ne_15 ?_
    refine x_iload_n d_Ne_nextArc_64 rfl rfl ?_
    refine x_iload_n d_Ne_nextArc_65 rfl rfl ?_
    refine x_iastN (n) d_Ne_nextArc_66 rfl (by omega) (by omega) ?_
    refine x_iload_n d_Ne_nextArc_67 rfl rfl ?_
    refine x_ireturn d_Ne_nextArc_68 rfl ?_ (Nat.zero_le _) (Nat.zero_le _)
    rw [← hQ]
    exact ⟨_, rfl, z, rfl, rfl, z1, z2, z3⟩
  have key : ∀ f : Nat, ∀ (z t : Int), okP N n z → (∀ q : Nat, q < 2 * N.1 → te N q = n → z < (q : Int) → (q : Int) ≤ G ne_pointers n → L q ≤ 0 ∨ G ne_seen (he N q) ≠ 0) → z + 1 < f → 0 ≤ t → t + z ≤ G ne_pointers n → x_A y_Ne_nextArc 9 [some oNe, some (xI (n : Int)), some (xI z), some (xI t)] [] (S0, G) 0 0 Q := by
    have hp0 : G ne_pointers n < 2 * (N.1 : Int) := by
      rcases hp with h | ⟨e, h1, h2, -⟩ <;> omega
    intro f
    induction f with
    | zero =>
      intro z t z1 z2 z3 t1 t2
      rcases z1 with h | ⟨e, h1, -⟩ <;> omega
    | succ f ih =>
      intro z t z1 z2 z3 t1 t2
      refine x_iload_n d_Ne_nextArc_9 rfl rfl ?_
      refine x_sipush (2048) d_Ne_nextArc_10 rfl ⟨by decide, by decide⟩ ?_
      refine x_icmp_ge (60) d_Ne_nextArc_13 (by decide) (fun g => ?_) (fun g => ?_)
      · rcases z1 with h | ⟨e, h1, h2, h3⟩
        · exact last z _ (Or.inl h) z2 (fun e he => by omega)
        · omega
      · refine x_iload_n d_Ne_nextArc_16 rfl rfl ?_
        refine x_iconst (-1) d_Ne_nextArc_17 rfl ⟨by decide, by decide⟩ ?_
        refine x_icmp_eq (60) d_Ne_nextArc_18 (by decide) (fun g2 => ?_) (fun g2 => ?_)
        · exact last z _ z1 z2 (fun e he => by omega)
        · rcases z1 with h | ⟨e, rfl, h2, h3⟩
          · exact absurd h g2
          · obtain ⟨n1, n2, n3⟩ := hn e h2
            have hl := (te_lt hw h2).2
            have next : (L e ≤ 0 ∨ G ne_seen (he N e) ≠ 0) → x_A y_Ne_nextArc 47 [some oNe, some (xI (n : Int)), some (xI (e : Int)), some (xI t)] [] (S0, G) 0 0 Q := by
              intro hu
              have b := prv_lt N (te N e) e
              refine x_aload_n d_Ne_nextArc_47 rfl rfl ?_
              refine x_getF (kf := 4) d_Ne_nextArc_48 rfl rfl rfl in_Ne f_Ne_25 ?_
              refine x_iload_n d_Ne_nextArc_51 rfl rfl ?_
              refine x_ialdN (e) d_Ne_nextArc_52 rfl (by omega) (by omega) ?_
              rw [n2]
              refine x_istore_n d_Ne_nextArc_53 rfl (by decide) ?_
              dsimp only [x_st1, x_st2, x_kill, List.set, List.getElem?_cons_zero, List.getElem?_cons_succ]
              refine x_iincN d_Ne_nextArc_54 rfl (by decide) (by omega) (by omega) ?_
              dsimp only [x_st1, x_st2, x_kill, List.set, List.getElem?_cons_zero, List.getElem?_cons_succ]
              refine x_goto (9) d_Ne_nextArc_57 (by decide) ?_
              refine ih _ _ ?_ (fun q q1 q2 q3 q4 => ?_) (by omega) (by omega) (by omega)
              · by_cases c : prv N (te N e) e = -1
                · exact Or.inl c
                · right
                  refine ⟨(prv N (te N e) e).toNat, by omega, by omega, ?_⟩
                  have := (prv_te (N := N) (n := te N e) (e := e) (q := (prv N (te N e) e).toNat) (by omega)).1
                  rw [this, h3]
              · by_cases c : q = e
                · subst c; exact hu
                · by_cases c2 : e < q
                  · exact z2 q q1 q2 (by omega) q4
                  · have := prv_max (N := N) (n := te N e) (e := e) (q := q) (by rw [q2, h3]) (by omega)
                    omega
            refine x_aload_n d_Ne_nextArc_21 rfl rfl ?_
            refine x_getF (kf := 6) d_Ne_nextArc_22 rfl rfl rfl in_Ne f_Ne_31 ?_
            refine x_iload_n d_Ne_nextArc_25 rfl rfl ?_
            refine x_ialdN (e) d_Ne_nextArc_26 rfl (by omega) (by omega) ?_
            rw [n3]
            refine x_if_le (47) d_Ne_nextArc_27 (by decide) (fun g3 => ?_) (fun g3 => ?_)
            · exact next (Or.inl g3)
            · refine x_aload_n d_Ne_nextArc_30 rfl rfl ?_
              refine x_getF (kf := 3) d_Ne_nextArc_31 rfl rfl rfl in_Ne f_Ne_21 ?_
              refine x_aload_n d_Ne_nextArc_34 rfl rfl ?_
              refine x_getF (kf := 5) d_Ne_nextArc_35 rfl rfl rfl in_Ne f_Ne_28 ?_
              refine x_iload_n d_Ne_nextArc_38 rfl rfl ?_
              refine x_ialdN (e) d_Ne_nextArc_39 rfl (by omega) (by omega) ?_
              rw [n1]
              refine x_baldN (he N e) d_Ne_nextArc_40 rfl (by omega) (by omega) ?_
              refine x_if_ne (47) d_Ne_nextArc_41 (by decide) (fun g4 => ?_) (fun g4 => ?_)
              · exact next (Or.inr g4)
              · refine x_goto (60) d_Ne_nextArc_44 (by decide) ?_
                exact last (e : Int) _ (Or.inr ⟨e, rfl, h2, h3⟩) z2 (fun e' he' => by
                  have : e' = e := by omega
                  subst this
                  exact ⟨by omega, by omega⟩)
  rcases hp with h | ⟨e, h1, h2, h3⟩
  · exact key 1 _ 0 (Or.inl h) (fun q _ _ a b => by omega) (by omega) (by omega) (by omega)
  · exact key (e + 2) _ 0 (Or.inr ⟨e, h1, h2, h3⟩) (fun q _ _ a b => by omega) (by omega) (by omega) (by omega)
end CN3
