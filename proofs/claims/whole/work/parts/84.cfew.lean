/-! the class: the fewest doors -/
theorem bc_key : ∀ n : Fin 64, x_and (w32 (w32 (x_and (w32 (w32 (x_and (w32 (((n : Nat) : Int) - x_and (x_ushr ((n : Nat) : Int) 1) 1431655765)) 858993459 + x_and (x_ushr (w32 (((n : Nat) : Int) - x_and (x_ushr ((n : Nat) : Int) 1) 1431655765)) 2) 858993459) + x_ushr (w32 (x_and (w32 (((n : Nat) : Int) - x_and (x_ushr ((n : Nat) : Int) 1) 1431655765)) 858993459 + x_and (x_ushr (w32 (((n : Nat) : Int) - x_and (x_ushr ((n : Nat) : Int) 1) 1431655765)) 2) 858993459)) 4)) 252645135 + x_ushr (x_and (w32 (w32 (x_and (w32 (((n : Nat) : Int) - x_and (x_ushr ((n : Nat) : Int) 1) 1431655765)) 858993459 + x_and (x_ushr (w32 (((n : Nat) : Int) - x_and (x_ushr ((n : Nat) : Int) 1) 1431655765)) 2) 858993459) + x_ushr (w32 (x_and (w32 (((n : Nat) : Int) - x_and (x_ushr ((n : Nat) : Int) 1) 1431655765)) 858993459 + x_and (x_ushr (w32 (((n : Nat) : Int) - x_and (x_ushr ((n : Nat) : Int) 1) 1431655765)) 2) 858993459)) 4)) 252645135) 8) + x_ushr (w32 (x_and (w32 (w32 (x_and (w32 (((n : Nat) : Int) - x_and (x_ushr ((n : Nat) : Int) 1) 1431655765)) 858993459 + x_and (x_ushr (w32 (((n : Nat) : Int) - x_and (x_ushr ((n : Nat) : Int) 1) 1431655765)) 2) 858993459) + x_ushr (w32 (x_and (w32 (((n : Nat) : Int) - x_and (x_ushr ((n : Nat) : Int) 1) 1431655765)) 858993459 + x_and (x_ushr (w32 (((n : Nat) : Int) - x_and (x_ushr ((n : Nat) : Int) 1) 1431655765)) 2) 858993459)) 4)) 252645135 + x_ushr (x_and (w32 (w32 (x_and (w32 (((n : Nat) : Int) - x_and (x_ushr ((n : Nat) : Int) 1) 1431655765)) 858993459 + x_and (x_ushr (w32 (((n : Nat) : Int) - x_and (x_ushr ((n : Nat) : Int) 1) 1431655765)) 2) 858993459) + x_ushr (w32 (x_and (w32 (((n : Nat) : Int) - x_and (x_ushr ((n : Nat) : Int) 1) 1431655765)) 858993459 + x_and (x_ushr (w32 (((n : Nat) : Int) - x_and (x_ushr ((n : Nat) : Int) 1) 1431655765)) 2) 858993459)) 4)) 252645135) 8)) 16)) 63 = (cb n : Int) := by decide +kernel
theorem c_bitCount (σ : XM) {n : Nat} (hn : n < 64) : x_M y_JI_bitCount [xI (n : Int)] σ (x_is (.inl (some (xI (cb n : Int)))) σ) := by
  refine x_ofJ 0 pf_bitCount (Nat.le_of_ble_eq_true rfl) ?_
  show x_A y_JI_bitCount 0 [some (xI (n : Int))] [] σ 0 0 _
  rw [← bc_key ⟨n, hn⟩]
  refine x_iload_n d_JI_bitCount_0 rfl rfl ?_
  refine x_iload_n d_JI_bitCount_1 rfl rfl ?_
  refine x_iconst (1) d_JI_bitCount_2 rfl ⟨by decide, by decide⟩ ?_
  refine x_iushr d_JI_bitCount_3 ?_
  refine x_ldcw (1431655765) d_JI_bitCount_4 k_JI_265 ⟨by decide, by decide⟩ ?_
  refine x_iand d_JI_bitCount_7 ?_
  refine x_isub d_JI_bitCount_8 ?_
  refine x_istore_n d_JI_bitCount_9 rfl (by decide) ?_
  dsimp only [x_st1, x_st2, x_kill, List.set, List.getElem?_cons_zero, List.getElem?_cons_succ]
  refine x_iload_n d_JI_bitCount_10 rfl rfl ?_
  refine x_ldcw (858993459) d_JI_bitCount_11 k_JI_266 ⟨by decide, by decide⟩ ?_
  refine x_iand d_JI_bitCount_14 ?_
  refine x_iload_n d_JI_bitCount_15 rfl rfl ?_
  refine x_iconst (2) d_JI_bitCount_16 rfl ⟨by decide, by decide⟩ ?_
  refine x_iushr d_JI_bitCount_17 ?_
  refine x_ldcw (858993459) d_JI_bitCount_18 k_JI_266 ⟨by decide, by decide⟩ ?_
  refine x_iand d_JI_bitCount_21 ?_
  refine x_iadd d_JI_bitCount_22 ?_
  refine x_istore_n d_JI_bitCount_23 rfl (by decide) ?_
  dsimp only [x_st1, x_st2, x_kill, List.set, List.getElem?_cons_zero, List.getElem?_cons_succ]
  refine x_iload_n d_JI_bitCount_24 rfl rfl ?_
  refine x_iload_n d_JI_bitCount_25 rfl rfl ?_
  refine x_iconst (4) d_JI_bitCount_26 rfl ⟨by decide, by decide⟩ ?_
  refine x_iushr d_JI_bitCount_27 ?_
  refine x_iadd d_JI_bitCount_28 ?_
  refine x_ldcw (252645135) d_JI_bitCount_29 k_JI_267 ⟨by decide, by decide⟩ ?_
  refine x_iand d_JI_bitCount_32 ?_
  refine x_istore_n d_JI_bitCount_33 rfl (by decide) ?_
  dsimp only [x_st1, x_st2, x_kill, List.set, List.getElem?_cons_zero, List.getElem?_cons_succ]
  refine x_iload_n d_JI_bitCount_34 rfl rfl ?_
  refine x_iload_n d_JI_bitCount_35 rfl rfl ?_
  refine x_bipush (8) d_JI_bitCount_36 rfl ⟨by decide, by decide⟩ ?_
  refine x_iushr d_JI_bitCount_38 ?_
  refine x_iadd d_JI_bitCount_39 ?_
  refine x_istore_n d_JI_bitCount_40 rfl (by decide) ?_
  dsimp only [x_st1, x_st2, x_kill, List.set, List.getElem?_cons_zero, List.getElem?_cons_succ]
  refine x_iload_n d_JI_bitCount_41 rfl rfl ?_
  refine x_iload_n d_JI_bitCount_42 rfl rfl ?_
  refine x_bipush (16) d_JI_bitCount_43 rfl ⟨by decide, by decide⟩ ?_
  refine x_iushr d_JI_bitCount_45 ?_
  refine x_iadd d_JI_bitCount_46 ?_
  refine x_istore_n d_JI_bitCount_47 rfl (by decide) ?_
  dsimp only [x_st1, x_st2, x_kill, List.set, List.getElem?_cons_zero, List.getElem?_cons_succ]
  refine x_iload_n d_JI_bitCount_48 rfl rfl ?_
  refine x_bipush (63) d_JI_bitCount_49 rfl ⟨by decide, by decide⟩ ?_
  refine x_iand d_JI_bitCount_51 ?_
  refine x_ireturn d_JI_bitCount_52 rfl ?_ (Nat.zero_le _) (Nat.zero_le _)
  exact ⟨rfl, rfl⟩
theorem c_compare (σ : XM) (a b : Int) : x_M y_JI_compare [xI a, xI b] σ (x_is (.inl (some (xI (if a < b then -1 else if a = b then 0 else 1)))) σ) := by
  refine x_ofJ 0 pf_compare (Nat.le_of_ble_eq_true rfl) ?_
  show x_A y_JI_compare 0 [some (xI a), some (xI b)] [] σ 0 0 _
  refine x_iload_n d_JI_compare_0 rfl rfl ?_
  refine x_iload_n d_JI_compare_1 rfl rfl ?_
  refine x_icmp_ge (9) d_JI_compare_2 (by decide) (fun g => ?_) (fun g => ?_)
  · refine x_iload_n d_JI_compare_9 rfl rfl ?_
    refine x_iload_n d_JI_compare_10 rfl rfl ?_
    refine x_icmp_ne (18) d_JI_compare_11 (by decide) (fun g2 => ?_) (fun g2 => ?_)
    · refine x_iconst (1) d_JI_compare_18 rfl ⟨by decide, by decide⟩ ?_
      refine x_ireturn d_JI_compare_19 rfl ?_ (Nat.zero_le _) (Nat.zero_le _)
      rw [if_neg (by omega), if_neg (by omega)]
      exact ⟨rfl, rfl⟩
    · refine x_iconst (0) d_JI_compare_14 rfl ⟨by decide, by decide⟩ ?_
      refine x_goto (19) d_JI_compare_15 (by decide) ?_
      refine x_ireturn d_JI_compare_19 rfl ?_ (Nat.zero_le _) (Nat.zero_le _)
      rw [if_neg (by omega), if_pos (by omega)]
      exact ⟨rfl, rfl⟩
  · refine x_iconst (-1) d_JI_compare_5 rfl ⟨by decide, by decide⟩ ?_
    refine x_goto (19) d_JI_compare_6 (by decide) ?_
    refine x_ireturn d_JI_compare_19 rfl ?_ (Nat.zero_le _) (Nat.zero_le _)
    rw [if_pos (by omega)]
    exact ⟨rfl, rfl⟩
theorem f_dc_su (h : HH) (s d : Nat) : su (f_dcs h (s : Int)) d = f_dc h s d := by
  induction d with
  | zero => rfl
  | succ d ih =>
    show su _ d + f_dcs h s d = f_dc h s d + _
    rw [ih]
    rfl
theorem cb_le {d s : Nat} (hd : d ≤ 6) (hs : s < 2 ^ d) : cb s ≤ d := by
  have h64 : 2 ^ d ≤ 2 ^ 6 := Nat.pow_le_pow_right (by decide) hd
  have key : ∀ (d : Fin 7) (s : Fin 64), (s : Nat) < 2 ^ (d : Nat) → cb s ≤ d := by decide +kernel
  exact key ⟨d, by omega⟩ ⟨s, by omega⟩ hs
theorem x_shl_p {d : Nat} (hd : d ≤ 6) : x_shl 1 d = ((2 ^ d : Nat) : Int) := by
  have key : ∀ d : Fin 7, x_shl 1 (d : Nat) = ((2 ^ (d : Nat) : Nat) : Int) := by decide +kernel
  exact key ⟨d, by omega⟩
/-! the best set: as few as can be, of these the least cost, of these the least -/
def okV (h : HH) (suf : Int → Bool) (s : Nat) : Prop := x_and (s : Int) (f_made h (h.2 6)) = 0 ∧ suf (x_or (s : Int) (f_made h (h.2 6))) = true
def dcs (h : HH) (s : Nat) : Int := f_dc h s (h.2 6)
def bet (h : HH) (s t : Nat) : Prop := cb s < cb t ∨ (cb s = cb t ∧ dcs h s < dcs h t)
def isB (h : HH) (ok : Nat → Prop) (n : Nat) (best : Int) : Prop := (best = -1 ∧ ∀ t, t < n → ¬ ok t) ∨ ∃ s : Nat, best = s ∧ s < n ∧ ok s ∧ ∀ t, t < n → ok t → bet h s t ∨ (cb s = cb t ∧ dcs h s = dcs h t ∧ s ≤ t)
theorem isB.uniq {h : HH} {ok : Nat → Prop} {n : Nat} {a b : Int} (x : isB h ok n a) (y : isB h ok n b) : a = b := by
  rcases x with ⟨x1, x2⟩ | ⟨s, x1, x2, x3, x4⟩
  · rcases y with ⟨y1, y2⟩ | ⟨t, y1, y2, y3, y4⟩
    · omega
    · exact absurd y3 (x2 t y2)
  · rcases y with ⟨y1, y2⟩ | ⟨t, y1, y2, y3, y4⟩
    · exact absurd x3 (y2 s x2)
    · have p := x4 t y2 y3
      have q := y4 s x2 x3
      unfold bet at p q
      omega
theorem isB.next {h : HH} {ok : Nat → Prop} {n : Nat} {best : Int} (x : isB h ok n best) : (ok n ∧ (best = -1 ∨ ∃ s : Nat, best = s ∧ bet h n s) → isB h ok (n + 1) n) ∧ (¬ (ok n ∧ (best = -1 ∨ ∃ s : Nat, best = s ∧ bet h n s)) → isB h ok (n + 1) best) := by
  constructor
  · rintro ⟨y1, y2⟩
    refine Or.inr ⟨n, rfl, by omega, y1, fun t ht hok => ?_⟩
    by_cases e : t = n
    · subst e; exact Or.inr ⟨rfl, rfl, Nat.le_refl _⟩
    · rcases x with ⟨x1, x2⟩ | ⟨s, x1, x2, x3, x4⟩
      · exact absurd hok (x2 t (by omega))
      · have p := x4 t (by omega) hok
        rcases y2 with z | ⟨s', z1, z2⟩
        · omega
        · have : s' = s := by omega
          subst this
          unfold bet at *
          omega
  · intro y
    rcases x with ⟨x1, x2⟩ | ⟨s, x1, x2, x3, x4⟩
    · refine Or.inl ⟨x1, fun t ht hok => ?_⟩
      by_cases e : t = n
      · subst e; exact y ⟨hok, Or.inl x1⟩
      · exact x2 t (by omega) hok
    · refine Or.inr ⟨s, x1, by omega, x3, fun t ht hok => ?_⟩
      by_cases e : t = n
      · subst e
        by_cases c : bet h t s
        · exact absurd ⟨hok, Or.inr ⟨s, x1, c⟩⟩ y
        · unfold bet at *
          omega
      · exact x4 t (by omega) hok
theorem f_fst_is {h : HH} {suf : Int → Bool} {many : Nat} {z : Int × Int} (hz : z.1 = -1) (n : Nat) : isB h (fun s => okV h suf s ∧ cb s = many) n (f_fst h suf many z n).1 ∧ ∀ s : Nat, (f_fst h suf many z n).1 = s → (f_fst h suf many z n).2 = dcs h s := by
  induction n with
  | zero => exact ⟨Or.inl ⟨hz, fun t ht => by omega⟩, fun s hs => by have : (f_fst h suf many z 0).1 = -1 := hz; omega⟩
  | succ n ih =>
    obtain ⟨i1, i2⟩ := ih
    have e : f_fst h suf many z (n + 1) = if cb n = many ∧ x_and (n : Int) (f_made h (h.2 6)) = 0 ∧ ((f_fst h suf many z n).1 = -1 ∨ f_dc h n (h.2 6) < (f_fst h suf many z n).2) ∧ suf (x_or (n : Int) (f_made h (h.2 6))) = true then ((n : Int), f_dc h n (h.2 6)) else f_fst h suf many z n := rfl
    rw [e]
    obtain ⟨n1, n2⟩ := i1.next
    by_cases c : cb n = many ∧ x_and (n : Int) (f_made h (h.2 6)) = 0 ∧ ((f_fst h suf many z n).1 = -1 ∨ f_dc h n (h.2 6) < (f_fst h suf many z n).2) ∧ suf (x_or (n : Int) (f_made h (h.2 6))) = true
    · rw [if_pos c]
      refine ⟨n1 ⟨⟨⟨c.2.1, c.2.2.2⟩, c.1⟩, ?_⟩, fun s hs => ?_⟩
      · rcases c.2.2.1 with q | q
        · exact Or.inl q
        · rcases i1 with ⟨x1, x2⟩ | ⟨s, x1, x2, x3, x4⟩
          · exact Or.inl x1
          · refine Or.inr ⟨s, x1, ?_⟩
            have := i2 s x1
            have := x3.2
            unfold bet dcs at *
            omega
      · have : s = n := by dsimp only at hs; omega
        subst this
        rfl
    · rw [if_neg c]
      refine ⟨n2 (fun q => c ⟨q.1.2, q.1.1.1, ?_, q.1.1.2⟩), i2⟩
      rcases q.2 with q2 | ⟨s, q2, q3⟩
      · exact Or.inl q2
      · have := i2 s q2
        rcases i1 with ⟨x1, x2⟩ | ⟨s', x1, x2, x3, x4⟩
        · omega
        · have : s' = s := by omega
          subst this
          have := x3.2
          have := q.1.2
          right
          unfold bet dcs at *
          omega
theorem f_few_is {h : HH} (hh : Hwf h) (suf : Int → Bool) (n : Nat) : isB h (fun s => okV h suf s ∧ cb s < n) (2 ^ h.2 6) (f_few h suf n).1 := by
  induction n with
  | zero => exact Or.inl ⟨rfl, fun t _ z => by omega⟩
  | succ n ih =>
    have e : f_few h suf (n + 1) = if (f_few h suf n).1 = -1 then f_fst h suf n (f_few h suf n) (2 ^ h.2 6) else f_few h suf n := rfl
    rw [e]
    by_cases c : (f_few h suf n).1 = -1
    · rw [if_pos c]
      obtain ⟨i1, -⟩ := f_fst_is (h := h) (suf := suf) (many := n) c (2 ^ h.2 6)
      have none' : ∀ t, t < 2 ^ h.2 6 → ¬ (okV h suf t ∧ cb t < n) := by
        rcases ih with ⟨x1, x2⟩ | ⟨s, x1, x2, x3, x4⟩
        · exact x2
        · omega
      rcases i1 with ⟨x1, x2⟩ | ⟨s, x1, x2, x3, x4⟩
      · refine Or.inl ⟨x1, fun t ht z => ?_⟩
        by_cases q : cb t = n
        · exact x2 t ht ⟨z.1, q⟩
        · exact none' t ht ⟨z.1, by omega⟩
      · refine Or.inr ⟨s, x1, x2, ⟨x3.1, by omega⟩, fun t ht z => ?_⟩
        by_cases q : cb t = n
        · exact x4 t ht ⟨z.1, q⟩
        · exact absurd ⟨z.1, by omega⟩ (none' t ht)
    · rw [if_neg c]
      rcases ih with ⟨x1, x2⟩ | ⟨s, x1, x2, x3, x4⟩
      · exact absurd x1 c
      · refine Or.inr ⟨s, x1, x2, ⟨x3.1, by omega⟩, fun t ht z => ?_⟩
        by_cases q : cb t < n
        · exact x4 t ht ⟨z.1, q⟩
        · exact Or.inl (Or.inl (by omega))
theorem f_few_B {h : HH} (hh : Hwf h) (suf : Int → Bool) : isB h (okV h suf) (2 ^ h.2 6) (f_few h suf (h.2 6 + 1)).1 := by
  have b := hh.1
  have ih := f_few_is hh suf (h.2 6 + 1)
  have cbs : ∀ t, t < 2 ^ h.2 6 → cb t < h.2 6 + 1 := fun t ht => by have := cb_le (by omega) ht; omega
  rcases ih with ⟨x1, x2⟩ | ⟨s, x1, x2, x3, x4⟩
  · exact Or.inl ⟨x1, fun t ht z => x2 t ht ⟨z, cbs t ht⟩⟩
  · exact Or.inr ⟨s, x1, x2, x3.1, fun t ht z => x4 t ht ⟨z, cbs t ht⟩⟩
section CFw
variable {h : HH} {G : Nat → Nat → Int}
theorem c_isBetter (hh : Hwf h) (r : fRep h G) (s : Nat) (best : Int) (hs : s < 2 ^ h.2 6) (hb : best = -1 ∨ ∃ t : Nat, best = t ∧ t < 2 ^ h.2 6) (bb : Bool) (hbb : bb = true ↔ (best = -1 ∨ ∃ t : Nat, best = t ∧ bet h s t)) : x_M y_Tu_isBetter [oTu, xI (s : Int), xI best] (S0, G) (x_is (.inl (some (xI (b2i bb)))) (S0, G)) := by
  have b := hh.1
  have h64 : 2 ^ h.2 6 ≤ 2 ^ 6 := Nat.pow_le_pow_right (by decide) (by omega)
  refine x_of 1 rfl (Nat.le_of_ble_eq_true rfl) ?_
  show x_A y_Tu_isBetter 0 [some oTu, some (xI (s : Int)), some (xI best), none] [] (S0, G) 0 0 _
  generalize hQ : x_is (.inl (some (xI (b2i bb)))) (S0, G) = Q
  refine x_iload_n d_Tu_isBetter_0 rfl rfl ?_
  refine x_iconst (-1) d_Tu_isBetter_1 rfl ⟨by decide, by decide⟩ ?_
  refine x_icmp_ne (7) d_Tu_isBetter_2 (by decide) (fun g => ?_) (fun g => ?_)
  · rcases hb with hb | ⟨t, rfl, ht⟩
    · exact absurd hb g
    · have yes : bet h s t → ∀ z, x_A y_Tu_isBetter 46 [some oTu, some (xI (s : Int)), some (xI (t : Int)), z] [] (S0, G) 0 0 Q := by
        intro hbt z
        refine x_iconst (1) d_Tu_isBetter_46 rfl ⟨by decide, by decide⟩ ?_
        refine x_goto (51) d_Tu_isBetter_47 (by decide) ?_
        refine x_zreturn d_Tu_isBetter_51 rfl (by first | exact Or.inl rfl | exact Or.inr rfl | (split <;> first | exact Or.inl rfl | exact Or.inr rfl) | assumption) ?_ (Nat.zero_le _) (Nat.zero_le _)
        rw [← hQ, hbb.mpr (Or.inr ⟨t, rfl, hbt⟩)]
        exact ⟨rfl, rfl⟩
      have no : ¬ bet h s t → ∀ z, x_A y_Tu_isBetter 50 [some oTu, some (xI (s : Int)), some (xI (t : Int)), z] [] (S0, G) 0 0 Q := by
        intro hbt z
        refine x_iconst (0) d_Tu_isBetter_50 rfl ⟨by decide, by decide⟩ ?_
        refine x_zreturn d_Tu_isBetter_51 rfl (by first | exact Or.inl rfl | exact Or.inr rfl | (split <;> first | exact Or.inl rfl | exact Or.inr rfl) | assumption) ?_ (Nat.zero_le _) (Nat.zero_le _)
        have : bb = false := by
          by_cases c : bb = true
          · rcases hbb.mp c with q | ⟨t', q1, q2⟩
            · omega
            · have : t' = t := by omega
              subst this
              exact absurd q2 hbt
          · simpa using c
        rw [← hQ, this]
        exact ⟨rfl, rfl⟩
      refine x_iload_n d_Tu_isBetter_7 rfl rfl ?_
      refine x_S1 d_Tu_isBetter_8 e_Tu_isBetter_JI_bitCount ⟨rfl, rfl, Nat.zero_le _, Nat.zero_le _⟩ rfl rfl (Nat.le_of_ble_eq_true rfl) (c_bitCount _ (by omega)) ?_
      refine x_iload_n d_Tu_isBetter_11 rfl rfl ?_
      refine x_S1 d_Tu_isBetter_12 e_Tu_isBetter_JI_bitCount ⟨rfl, rfl, Nat.zero_le _, Nat.zero_le _⟩ rfl rfl (Nat.le_of_ble_eq_true rfl) (c_bitCount _ (by omega)) ?_
      refine x_S1 d_Tu_isBetter_15 e_Tu_isBetter_JI_compare ⟨rfl, rfl, Nat.zero_le _, Nat.zero_le _⟩ rfl rfl (Nat.le_of_ble_eq_true rfl) (c_compare _ _ _) ?_
      refine x_istore_n d_Tu_isBetter_18 rfl (by decide) ?_
      dsimp only [x_st1, x_st2, x_kill, List.set, List.getElem?_cons_zero, List.getElem?_cons_succ]
      refine x_iload_n d_Tu_isBetter_19 rfl rfl ?_
      refine x_if_lt (46) d_Tu_isBetter_20 (by decide) (fun g2 => ?_) (fun g2 => ?_)
      · refine yes (Or.inl ?_) _
        by_cases c : (cb s : Int) < cb t
        · omega
        · rw [if_neg c] at g2; split at g2 <;> omega
      · refine x_iload_n d_Tu_isBetter_23 rfl rfl ?_
        refine x_if_ne (50) d_Tu_isBetter_24 (by decide) (fun g3 => ?_) (fun g3 => ?_)
        · refine no (fun q => ?_) _
          rcases q with q | ⟨q, -⟩
          · exact g2 (by rw [if_pos (by omega)]; decide)
          · exact g3 (by rw [if_neg (by omega), if_pos (by omega)])
        · have ec : cb s = cb t := by
            by_cases c : (cb s : Int) < cb t
            · rw [if_pos c] at g3; cases g3
            · rw [if_neg c] at g3
              by_cases c2 : (cb s : Int) = cb t
              · omega
              · rw [if_neg c2] at g3; cases g3
          refine x_aload_n d_Tu_isBetter_27 rfl rfl ?_
          refine x_getF (kf := 0) d_Tu_isBetter_28 rfl rfl rfl in_Tu f_Tu_21 ?_
          refine x_iload_n d_Tu_isBetter_31 rfl rfl ?_
          refine x_V1 d_Tu_isBetter_32 e_Tu_isBetter_Ho_doorCost ⟨rfl, rfl, Nat.zero_le _, Nat.zero_le _⟩ rfl rfl rfl rfl (Nat.le_of_ble_eq_true rfl) (c_doorCost hh r (s : Int)) ?_
          refine x_aload_n d_Tu_isBetter_35 rfl rfl ?_
          refine x_getF (kf := 0) d_Tu_isBetter_36 rfl rfl rfl in_Tu f_Tu_21 ?_
          refine x_iload_n d_Tu_isBetter_39 rfl rfl ?_
          refine x_V1 d_Tu_isBetter_40 e_Tu_isBetter_Ho_doorCost ⟨rfl, rfl, Nat.zero_le _, Nat.zero_le _⟩ rfl rfl rfl rfl (Nat.le_of_ble_eq_true rfl) (c_doorCost hh r (t : Int)) ?_
          rw [f_dc_su, f_dc_su]
          refine x_icmp_ge (50) d_Tu_isBetter_43 (by decide) (fun g4 => ?_) (fun g4 => ?_)
          · refine no (fun q => ?_) _
            unfold bet dcs at q
            omega
          · exact yes (Or.inr ⟨ec, by unfold dcs; omega⟩) _
  · refine x_iconst (1) d_Tu_isBetter_5 rfl ⟨by decide, by decide⟩ ?_
    refine x_zreturn d_Tu_isBetter_6 rfl (by first | exact Or.inl rfl | exact Or.inr rfl | (split <;> first | exact Or.inl rfl | exact Or.inr rfl) | assumption) ?_ (Nat.zero_le _) (Nat.zero_le _)
    rw [← hQ, hbb.mpr (Or.inl (by omega))]
    exact ⟨rfl, rfl⟩
theorem sufB_iff (h : HH) (pl : Int) (y : Nat) (mask set : Int) : sufB h pl y mask set = true ↔ ∀ i, i < 5 → okS h pl y mask set i := by
  unfold sufB
  exact @decide_eq_true_iff _ (Classical.propDecidable _)
/-- smoke and net may be otherwise -/
def zFrame (G G' : Nat → Nat → Int) : Prop := ∀ i, (i < o_Sm ∨ ne_free < i) → G' i = G i
theorem zFrame.tr {G1 G2 G3 : Nat → Nat → Int} (a : zFrame G1 G2) (b : zFrame G2 G3) : zFrame G1 G3 := fun i hi => (b i hi).trans (a i hi)
theorem sFrame.z {G G' : Nat → Nat → Int} (f : sFrame G G') : zFrame G G' := fun i h1 => f i (by simp only [o_Sm, sm_leftMixed, ne_free] at *; omega)
theorem eFrame.z {G G' : Nat → Nat → Int} (f : eFrame G G') : zFrame G G' := fun i h1 => f i (by simp only [o_Sm, o_Ne, ne_free] at *; omega)
def mZ (h : HH) (V : Int) (G : Nat → Nat → Int) : Option XV → XM → Prop := fun v τ => v = some (xI V) ∧ ∃ G', τ = (S0, G') ∧ zFrame G G' ∧ cQ h G'
theorem c_areAllOut (hh : Hwf h) (q : cQ h G) (pl : Int) (y : Nat) (mask set : Int) (hy : y ≤ 20) (hf : ∀ i, i < 4 → xb mask i = true → i < h.2 2) : x_M y_Tu_areAllOut [oTu, xI pl, xI (y : Int), xI mask, xI set] (S0, G) (fun r τ => ∃ v, r = .inl v ∧ mZ h (b2i (sufB h pl y mask set)) G v τ) := by
  have b := hh.1
  obtain ⟨wt, ew, hw1, hw2⟩ := f_wt hh
  refine x_of 2 rfl (Nat.le_of_ble_eq_true rfl) ?_
  show x_A y_Tu_areAllOut 0 [some oTu, some (xI pl), some (xI (y : Int)), some (xI mask), some (xI set), none, none] [] (S0, G) 0 0 _
  generalize hQ : (fun (r : XRes) (τ : XM) => ∃ v, r = .inl v ∧ mZ h (b2i (sufB h pl y mask set)) G v τ) = Q
  refine x_aload_n d_Tu_areAllOut_0 rfl rfl ?_
  refine x_getF (kf := 0) d_Tu_areAllOut_1 rfl rfl rfl in_Tu f_Tu_21 ?_
  refine x_V1 d_Tu_areAllOut_4 e_Tu_areAllOut_Ho_allPeople ⟨rfl, rfl, Nat.zero_le _, Nat.zero_le _⟩ rfl rfl rfl rfl (Nat.le_of_ble_eq_true rfl) (c_allPeople hh q.1) ?_
  refine x_istore d_Tu_areAllOut_7 (by decide) ?_
  dsimp only [x_st1, x_st2, x_kill, List.set, List.getElem?_cons_zero, List.getElem?_cons_succ]
  refine x_iconst (0) d_Tu_areAllOut_9 rfl ⟨by decide, by decide⟩ ?_
  refine x_istore d_Tu_areAllOut_10 (by decide) ?_
  dsimp only [x_st1, x_st2, x_kill, List.set, List.getElem?_cons_zero, List.getElem?_cons_succ]
  refine x_up_to (P := fun i => ∀ G', zFrame G G' → cQ h G' → (∀ j, j < i → okS h pl y mask set j) → x_A y_Tu_areAllOut 12 [some oTu, some (xI pl), some (xI (y : Int)), some (xI mask), some (xI set), some (xI (f_people h)), some (xI (i : Int))] [] (S0, G') 0 0 Q) 0 5 (Nat.zero_le _) (fun G' f1 f2 f3 => ?_) (fun i _ hi k G' f1 f2 f3 => ?_) G (fun _ _ => rfl) q (fun j hj => by omega)
  · refine x_iload d_Tu_areAllOut_12 rfl ?_
    refine x_iconst (4) d_Tu_areAllOut_14 rfl ⟨by decide, by decide⟩ ?_
    refine x_icmp_gt (80) d_Tu_areAllOut_15 (by decide) (fun g => ?_) (fun g => ?_)
    · refine x_iconst (1) d_Tu_areAllOut_80 rfl ⟨by decide, by decide⟩ ?_
      refine x_zreturn d_Tu_areAllOut_81 rfl (by first | exact Or.inl rfl | exact Or.inr rfl | (split <;> first | exact Or.inl rfl | exact Or.inr rfl) | assumption) ?_ (Nat.zero_le _) (Nat.zero_le _)
      rw [← hQ, (sufB_iff _ _ _ _ _).mpr f3]
      exact ⟨_, rfl, rfl, G', rfl, f1, f2⟩
    · omega
  · refine x_iload d_Tu_areAllOut_12 rfl ?_
    refine x_iconst (4) d_Tu_areAllOut_14 rfl ⟨by decide, by decide⟩ ?_
    refine x_icmp_gt (80) d_Tu_areAllOut_15 (by decide) (fun g => ?_) (fun g => ?_)
    · omega
    · refine x_iload_n d_Tu_areAllOut_18 rfl rfl ?_
      refine x_iload d_Tu_areAllOut_19 rfl ?_
      refine x_ishr d_Tu_areAllOut_21 ?_
      refine x_iconst (1) d_Tu_areAllOut_22 rfl ⟨by decide, by decide⟩ ?_
      refine x_iand d_Tu_areAllOut_23 ?_
      refine x_iconst (1) d_Tu_areAllOut_24 rfl ⟨by decide, by decide⟩ ?_
      refine x_icmp_ne (74) d_Tu_areAllOut_25 (by decide) (fun g2 => ?_) (fun g2 => ?_)
      · refine x_iincN d_Tu_areAllOut_74 rfl (by decide) (by omega) (by omega) ?_
        dsimp only [x_st1, x_st2, x_kill, List.set, List.getElem?_cons_zero, List.getElem?_cons_succ]
        refine x_goto (12) d_Tu_areAllOut_77 (by decide) ?_
        refine k G' f1 f2 (fun j hj => ?_)
        by_cases e : j = i
        · subst e; exact fun z => absurd ((x_bit _ (by omega)).mpr z) g2
        · exact f3 j (by omega)
      · have hbit : xb mask i = true := (x_bit _ (by omega)).mp (by omega)
        have hfi : -1 ≤ f_fi i ∧ f_fi i < h.2 2 := by
          unfold f_fi
          split
          · omega
          · have := hf i (by omega) hbit; omega
        have body : x_A y_Tu_areAllOut 47 [some oTu, some (xI pl), some (xI (y : Int)), some (xI mask), some (xI set), some (xI (f_people h)), some (xI (i : Int))] [xI (f_fi i), xI 0, xI pl, xI pl, oSm] (S0, G') 0 0 Q := by
          refine x_VQ d_Tu_areAllOut_47 e_Tu_areAllOut_Sm_follow ⟨rfl, rfl, Nat.zero_le _, Nat.zero_le _⟩ rfl rfl rfl rfl (Nat.le_of_ble_eq_true rfl) (c_follow hh f2.1 f2.2.1 (pl, pl, 0, f_fi i) hfi) (fun v τ hv => ?_)
          obtain ⟨rfl, G1, rfl, g1, g2, g3, g4⟩ := hv
          show x_A y_Tu_areAllOut 50 [some oTu, some (xI pl), some (xI (y : Int)), some (xI mask), some (xI set), some (xI (f_people h)), some (xI (i : Int))] [] (S0, G1) 0 0 Q
          have q1 := f2.followed g1 g2 g3 g4
          refine x_aload_n d_Tu_areAllOut_50 rfl rfl ?_
          refine x_getF (kf := 3) d_Tu_areAllOut_51 rfl rfl rfl in_Tu f_Tu_33 ?_
          refine x_iload_n d_Tu_areAllOut_54 rfl rfl ?_
          refine x_aload_n d_Tu_areAllOut_55 rfl rfl ?_
          refine x_getF (kf := 0) d_Tu_areAllOut_56 rfl rfl rfl in_Tu f_Tu_21 ?_
          refine x_V1 d_Tu_areAllOut_59 e_Tu_areAllOut_Ho_walkTimes ⟨rfl, rfl, Nat.zero_le _, Nat.zero_le _⟩ rfl rfl rfl rfl (Nat.le_of_ble_eq_true rfl) (c_walkTimes hh q1.1) ?_
          rw [ew]
          refine x_iload d_Tu_areAllOut_62 rfl ?_
          refine x_VQ d_Tu_areAllOut_64 e_Tu_areAllOut_Es_most ⟨rfl, rfl, Nat.zero_le _, Nat.zero_le _⟩ rfl rfl rfl rfl (Nat.le_of_ble_eq_true rfl) (c_emost hh q1.1 (f_sh h (pl, pl, 0, f_fi i)) (f_sh_c g2) y wt set hy ⟨hw1, hw2⟩) (fun v τ hv => ?_)
          obtain ⟨G2, rfl, rfl, e1, e2, e3, e4⟩ := hv
          have ev : mv (cutF h (f_sh h (pl, pl, 0, f_fi i)) y wt set) = f_out h (pl, pl, 0, f_fi i) y set := by
            unfold f_out
            rw [ew, Int.toNat_natCast]
          show x_A y_Tu_areAllOut 67 [some oTu, some (xI pl), some (xI (y : Int)), some (xI mask), some (xI set), some (xI (f_people h)), some (xI (i : Int))] [xI (mv (cutF h (f_sh h (pl, pl, 0, f_fi i)) y wt set))] (S0, G2) 0 0 Q
          rw [ev]
          have q2 := q1.most e1
          have fr2 := f1.tr (g1.z.tr e1.z)
          refine x_iload d_Tu_areAllOut_67 rfl ?_
          refine x_icmp_ge (74) d_Tu_areAllOut_69 (by decide) (fun g5 => ?_) (fun g5 => ?_)
          · refine x_iincN d_Tu_areAllOut_74 rfl (by decide) (by omega) (by omega) ?_
            dsimp only [x_st1, x_st2, x_kill, List.set, List.getElem?_cons_zero, List.getElem?_cons_succ]
            refine x_goto (12) d_Tu_areAllOut_77 (by decide) ?_
            refine k G2 fr2 q2 (fun j hj => ?_)
            by_cases e : j = i
            · subst e; exact fun _ => by omega
            · exact f3 j (by omega)
          · refine x_iconst (0) d_Tu_areAllOut_72 rfl ⟨by decide, by decide⟩ ?_
            refine x_zreturn d_Tu_areAllOut_73 rfl (by first | exact Or.inl rfl | exact Or.inr rfl | (split <;> first | exact Or.inl rfl | exact Or.inr rfl) | assumption) ?_ (Nat.zero_le _) (Nat.zero_le _)
            have : sufB h pl y mask set = false := by
              by_cases c : sufB h pl y mask set = true
              · have := (sufB_iff _ _ _ _ _).mp c i hi hbit
                omega
              · simpa using c
            rw [← hQ, this]
            exact ⟨_, rfl, rfl, G2, rfl, fr2, q2⟩
        refine x_aload_n d_Tu_areAllOut_28 rfl rfl ?_
        refine x_getF (kf := 2) d_Tu_areAllOut_29 rfl rfl rfl in_Tu f_Tu_29 ?_
        refine x_iload_n d_Tu_areAllOut_32 rfl rfl ?_
        refine x_iload_n d_Tu_areAllOut_33 rfl rfl ?_
        refine x_iconst (0) d_Tu_areAllOut_34 rfl ⟨by decide, by decide⟩ ?_
        refine x_iload d_Tu_areAllOut_35 rfl ?_
        refine x_iconst (4) d_Tu_areAllOut_37 rfl ⟨by decide, by decide⟩ ?_
        by_cases c : i = 4
        · subst c
          refine x_icmp_ne (45) d_Tu_areAllOut_38 (by decide) (fun g3 => ?_) (fun g3 => ?_)
          · exact absurd rfl g3
          · refine x_iconst (-1) d_Tu_areAllOut_41 rfl ⟨by decide, by decide⟩ ?_
            refine x_goto (47) d_Tu_areAllOut_42 (by decide) ?_
            exact body
        · rw [f_fi_n (by omega)] at body
          refine x_icmp_ne (45) d_Tu_areAllOut_38 (by decide) (fun g3 => ?_) (fun g3 => ?_)
          · refine x_iload d_Tu_areAllOut_45 rfl ?_
            exact body
          · omega
theorem c_fewestDoors (hh : Hwf h) (q : cQ h G) (pl : Int) (y : Nat) (mask : Int) (hy : y ≤ 20) (hf : ∀ i, i < 4 → xb mask i = true → i < h.2 2) : x_M y_Tu_fewestDoors [oTu, xI pl, xI (y : Int), xI mask] (S0, G) (fun r τ => ∃ v, r = .inl v ∧ mZ h (f_few h (sufB h pl y mask) (h.2 6 + 1)).1 G v τ) := by
  have b := hh.1
  have h64 : 2 ^ h.2 6 ≤ 2 ^ 6 := Nat.pow_le_pow_right (by decide) (by omega)
  refine x_of 3 rfl (Nat.le_of_ble_eq_true rfl) ?_
  show x_A y_Tu_fewestDoors 0 [some oTu, some (xI pl), some (xI (y : Int)), some (xI mask), none, none, none] [] (S0, G) 0 0 _
  generalize hQ : (fun (r : XRes) (τ : XM) => ∃ v, r = .inl v ∧ mZ h (f_few h (sufB h pl y mask) (h.2 6 + 1)).1 G v τ) = Q
  refine x_aload_n d_Tu_fewestDoors_0 rfl rfl ?_
  refine x_getF (kf := 0) d_Tu_fewestDoors_1 rfl rfl rfl in_Tu f_Tu_21 ?_
  refine x_V1 d_Tu_fewestDoors_4 e_Tu_fewestDoors_Ho_madeDoors ⟨rfl, rfl, Nat.zero_le _, Nat.zero_le _⟩ rfl rfl rfl rfl (Nat.le_of_ble_eq_true rfl) (c_madeDoors hh q.1) ?_
  refine x_istore d_Tu_fewestDoors_7 (by decide) ?_
  dsimp only [x_st1, x_st2, x_kill, List.set, List.getElem?_cons_zero, List.getElem?_cons_succ]
  refine x_iconst (-1) d_Tu_fewestDoors_9 rfl ⟨by decide, by decide⟩ ?_
  refine x_istore d_Tu_fewestDoors_10 (by decide) ?_
  dsimp only [x_st1, x_st2, x_kill, List.set, List.getElem?_cons_zero, List.getElem?_cons_succ]
  refine x_iconst (0) d_Tu_fewestDoors_12 rfl ⟨by decide, by decide⟩ ?_
  refine x_istore d_Tu_fewestDoors_13 (by decide) ?_
  dsimp only [x_st1, x_st2, x_kill, List.set, List.getElem?_cons_zero, List.getElem?_cons_succ]
  refine x_up_to (P := fun s => ∀ G' best, zFrame G G' → cQ h G' → isB h (okV h (sufB h pl y mask)) s best → x_A y_Tu_fewestDoors 15 [some oTu, some (xI pl), some (xI (y : Int)), some (xI mask), some (xI (f_made h (h.2 6))), some (xI best), some (xI (s : Int))] [] (S0, G') 0 0 Q) 0 (2 ^ h.2 6) (Nat.zero_le _) (fun G' best f1 f2 f3 => ?_) (fun s _ hs k G' best f1 f2 f3 => ?_) G (-1) (fun _ _ => rfl) q (Or.inl ⟨rfl, fun t ht => by omega⟩)
  · have r2 := f2.1
    refine x_iload d_Tu_fewestDoors_15 rfl ?_
    refine x_iconst (1) d_Tu_fewestDoors_17 rfl ⟨by decide, by decide⟩ ?_
    refine x_aload_n d_Tu_fewestDoors_18 rfl rfl ?_
    refine x_getF (kf := 0) d_Tu_fewestDoors_19 rfl rfl rfl in_Tu f_Tu_21 ?_
    refine x_getF (kf := 6) d_Tu_fewestDoors_22 rfl rfl rfl in_Ho f_Tu_96 ?_
    refine x_V1 d_Tu_fewestDoors_25 e_Tu_fewestDoors_Ta_size ⟨rfl, rfl, Nat.zero_le _, Nat.zero_le _⟩ rfl rfl rfl rfl (Nat.le_of_ble_eq_true rfl) (k_size r2 6 (by decide)) ?_
    refine x_ishl d_Tu_fewestDoors_28 ?_
    rw [x_shl_p (by omega)]
    refine x_icmp_ge (76) d_Tu_fewestDoors_29 (by decide) (fun g => ?_) (fun g => ?_)
    · refine x_iload d_Tu_fewestDoors_76 rfl ?_
      refine x_ireturn d_Tu_fewestDoors_78 rfl ?_ (Nat.zero_le _) (Nat.zero_le _)
      rw [← hQ, (f_few_B hh _).uniq f3]
      exact ⟨_, rfl, rfl, G', rfl, f1, f2⟩
    · omega
  · have r2 := f2.1
    obtain ⟨n1, n2⟩ := f3.next
    have hbest : best = -1 ∨ ∃ t : Nat, best = t ∧ t < 2 ^ h.2 6 := by
      rcases f3 with ⟨x1, -⟩ | ⟨t, x1, x2, -⟩
      · exact Or.inl x1
      · exact Or.inr ⟨t, x1, by omega⟩
    refine x_iload d_Tu_fewestDoors_15 rfl ?_
    refine x_iconst (1) d_Tu_fewestDoors_17 rfl ⟨by decide, by decide⟩ ?_
    refine x_aload_n d_Tu_fewestDoors_18 rfl rfl ?_
    refine x_getF (kf := 0) d_Tu_fewestDoors_19 rfl rfl rfl in_Tu f_Tu_21 ?_
    refine x_getF (kf := 6) d_Tu_fewestDoors_22 rfl rfl rfl in_Ho f_Tu_96 ?_
    refine x_V1 d_Tu_fewestDoors_25 e_Tu_fewestDoors_Ta_size ⟨rfl, rfl, Nat.zero_le _, Nat.zero_le _⟩ rfl rfl rfl rfl (Nat.le_of_ble_eq_true rfl) (k_size r2 6 (by decide)) ?_
    refine x_ishl d_Tu_fewestDoors_28 ?_
    rw [x_shl_p (by omega)]
    refine x_icmp_ge (76) d_Tu_fewestDoors_29 (by decide) (fun g => ?_) (fun g => ?_)
    · omega
    · refine x_iload d_Tu_fewestDoors_32 rfl ?_
      refine x_iload d_Tu_fewestDoors_34 rfl ?_
      refine x_iand d_Tu_fewestDoors_36 ?_
      refine x_if_ne (70) d_Tu_fewestDoors_37 (by decide) (fun g2 => ?_) (fun g2 => ?_)
      · refine x_iincN d_Tu_fewestDoors_70 rfl (by decide) (by omega) (by omega) ?_
        dsimp only [x_st1, x_st2, x_kill, List.set, List.getElem?_cons_zero, List.getElem?_cons_succ]
        refine x_goto (15) d_Tu_fewestDoors_73 (by decide) ?_
        exact k G' best f1 f2 (n2 (fun z => g2 z.1.1))
      · refine x_aload_n d_Tu_fewestDoors_40 rfl rfl ?_
        refine x_iload d_Tu_fewestDoors_41 rfl ?_
        refine x_iload d_Tu_fewestDoors_43 rfl ?_
        refine x_V1 d_Tu_fewestDoors_45 e_Tu_fewestDoors_Tu_isBetter ⟨rfl, rfl, Nat.zero_le _, Nat.zero_le _⟩ rfl rfl rfl rfl (Nat.le_of_ble_eq_true rfl) (c_isBetter hh r2 s best hs hbest (@decide (best = -1 ∨ ∃ t : Nat, best = t ∧ bet h s t) (Classical.propDecidable _)) (@decide_eq_true_iff _ (Classical.propDecidable _))) ?_
        by_cases c : best = -1 ∨ ∃ t : Nat, best = t ∧ bet h s t
        · rw [@decide_eq_true _ (Classical.propDecidable _) c]
          refine x_if_eq (70) d_Tu_fewestDoors_48 (by decide) (fun g3 => ?_) (fun g3 => ?_)
          · cases g3
          · refine x_aload_n d_Tu_fewestDoors_51 rfl rfl ?_
            refine x_iload_n d_Tu_fewestDoors_52 rfl rfl ?_
            refine x_iload_n d_Tu_fewestDoors_53 rfl rfl ?_
            refine x_iload_n d_Tu_fewestDoors_54 rfl rfl ?_
            refine x_iload d_Tu_fewestDoors_55 rfl ?_
            refine x_iload d_Tu_fewestDoors_57 rfl ?_
            refine x_ior d_Tu_fewestDoors_59 ?_
            refine x_VQ d_Tu_fewestDoors_60 e_Tu_fewestDoors_Tu_areAllOut ⟨rfl, rfl, Nat.zero_le _, Nat.zero_le _⟩ rfl rfl rfl rfl (Nat.le_of_ble_eq_true rfl) (c_areAllOut hh f2 pl y mask (x_or (s : Int) (f_made h (h.2 6))) hy hf) (fun v τ hv => ?_)
            obtain ⟨rfl, G2, rfl, e1, e2⟩ := hv
            show x_A y_Tu_fewestDoors 63 [some oTu, some (xI pl), some (xI (y : Int)), some (xI mask), some (xI (f_made h (h.2 6))), some (xI best), some (xI (s : Int))] [xI (b2i (sufB h pl y mask (x_or (s : Int) (f_made h (h.2 6)))))] (S0, G2) 0 0 Q
            by_cases c2 : sufB h pl y mask (x_or (s : Int) (f_made h (h.2 6))) = true
            · rw [c2]
              refine x_if_eq (70) d_Tu_fewestDoors_63 (by decide) (fun g4 => ?_) (fun g4 => ?_)
              · cases g4
              · refine x_iload d_Tu_fewestDoors_66 rfl ?_
                refine x_istore d_Tu_fewestDoors_68 (by decide) ?_
                dsimp only [x_st1, x_st2, x_kill, List.set, List.getElem?_cons_zero, List.getElem?_cons_succ]
                refine x_iincN d_Tu_fewestDoors_70 rfl (by decide) (by omega) (by omega) ?_
                dsimp only [x_st1, x_st2, x_kill, List.set, List.getElem?_cons_zero, List.getElem?_cons_succ]
                refine x_goto (15) d_Tu_fewestDoors_73 (by decide) ?_
                exact k G2 _ (f1.tr e1) e2 (n1 ⟨⟨g2, c2⟩, c⟩)
            · rw [show sufB h pl y mask (x_or (s : Int) (f_made h (h.2 6))) = false by simpa using c2]
              refine x_if_eq (70) d_Tu_fewestDoors_63 (by decide) (fun g4 => ?_) (fun g4 => ?_)
              · refine x_iincN d_Tu_fewestDoors_70 rfl (by decide) (by omega) (by omega) ?_
                dsimp only [x_st1, x_st2, x_kill, List.set, List.getElem?_cons_zero, List.getElem?_cons_succ]
                refine x_goto (15) d_Tu_fewestDoors_73 (by decide) ?_
                exact k G2 best (f1.tr e1) e2 (n2 (fun z => c2 z.1.2))
              · exact absurd rfl g4
        · rw [@decide_eq_false _ (Classical.propDecidable _) c]
          refine x_if_eq (70) d_Tu_fewestDoors_48 (by decide) (fun g3 => ?_) (fun g3 => ?_)
          · refine x_iincN d_Tu_fewestDoors_70 rfl (by decide) (by omega) (by omega) ?_
            dsimp only [x_st1, x_st2, x_kill, List.set, List.getElem?_cons_zero, List.getElem?_cons_succ]
            refine x_goto (15) d_Tu_fewestDoors_73 (by decide) ?_
            exact k G' best f1 f2 (n2 (fun z => c z.2))
          · exact absurd rfl g3
end CFw
