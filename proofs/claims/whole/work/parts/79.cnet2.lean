/-! the class: a way through the net is found and used -/
theorem pushL_su (L : Nat → Int) (p : Nat → Nat) (n : Int) (d e : Nat) : pushL L p n d e = L e + su (fun j => pt (xr (p j)) n e - pt (p j) n e) d := by
  induction d with
  | zero => show L e = L e + 0; omega
  | succ d ih =>
    show pushL L p n d e - pt (p d) n e + pt (xr (p d)) n e = L e + (su _ d + (pt (xr (p d)) n e - pt (p d) n e))
    rw [ih]; omega
/-- the arcs from i on are done -/
def pfr (L : Nat → Int) (p : Nat → Nat) (n : Int) (d i e : Nat) : Int := L e + su (fun j => if i ≤ j then pt (xr (p j)) n e - pt (p j) n e else 0) d
theorem pfr_s (L : Nat → Int) (p : Nat → Nat) (n : Int) {d i : Nat} (hi : i < d) (e : Nat) : pfr L p n d i e = pfr L p n d (i + 1) e - pt (p i) n e + pt (xr (p i)) n e := by
  unfold pfr
  rw [su_one (f := fun j => if i + 1 ≤ j then pt (xr (p j)) n e - pt (p j) n e else 0) (d := pt (xr (p i)) n e - pt (p i) n e) hi (fun j _ hj => by
    by_cases q : i ≤ j
    · rw [if_pos q, if_pos (by omega)]
    · rw [if_neg q, if_neg (by omega)]) (by rw [if_pos (Nat.le_refl i), if_neg (by omega)]; omega)]
  omega
theorem pfr_d (L : Nat → Int) (p : Nat → Nat) (n : Int) (d e : Nat) : pfr L p n d d e = L e := by
  unfold pfr
  rw [su_congr (g := fun _ => 0) (fun j hj => if_neg (by omega)), su_zero]; omega
theorem pfr_0 (L : Nat → Int) (p : Nat → Nat) (n : Int) (d e : Nat) : pfr L p n d 0 e = pushL L p n d e := by
  rw [pushL_su]
  unfold pfr
  rw [su_congr (g := fun j => pt (xr (p j)) n e - pt (p j) n e) (fun j hj => if_pos (Nat.zero_le _))]
theorem pfr_bd {L : Nat → Int} {p : Nat → Nat} {n : Int} {d : Nat} (hL : ∀ e, 0 ≤ L e ∧ L e ≤ 1000000) (hn : 0 ≤ n ∧ n ≤ 1000000) (hd : d ≤ 338) (i e : Nat) : -340000000 ≤ pfr L p n d i e ∧ pfr L p n d i e ≤ 340000000 := by
  have := su_bd (f := fun j => if i ≤ j then pt (xr (p j)) n e - pt (p j) n e else 0) (c := -1000000) (d := 1000000) (n := d) (fun j _ => by
    have h1 : 0 ≤ pt (xr (p j)) n e ∧ pt (xr (p j)) n e ≤ 1000000 := by unfold pt; split <;> omega
    have h2 : 0 ≤ pt (p j) n e ∧ pt (p j) n e ≤ 1000000 := by unfold pt; split <;> omega
    split <;> omega)
  have := hL e
  unfold pfr
  omega
theorem pfr_own {L : Nat → Int} {p : Nat → Nat} {n : Int} {d i k : Nat} (hi : i < d) (hk : k ≤ i) (h1 : ∀ j, j < d → p j = p i → j = i) (h2 : ∀ j, j < d → xr (p j) ≠ p i) : pfr L p n d k (p i) = L (p i) - n := by
  unfold pfr
  rw [su_one (f := fun _ => 0) (d := -n) hi (fun j hj hne => by
    split
    · unfold pt
      rw [if_neg (fun z => h2 j hj z.symm), if_neg (fun z => hne (h1 j hj z.symm))]; rfl
    · rfl) (by
    rw [if_pos hk]
    unfold pt
    rw [if_neg (fun z => h2 i hi z.symm), if_pos rfl]; omega), su_zero]
  omega
