/-! the class: acts -/
abbrev oAc : XV := xR (some o_Ac)
section CAc
variable {G : Nat → Nat → Int}
theorem c_slotOf {ol a : Nat} (h1 : G o_Ac 3 = ol) (h2 : ol < 100) (h3 : a ≤ 100) {z : Int} (hz : z = a) : x_M y_Ac_slotOf [oAc, xI z] (S0, G) (x_is (.inl (some (xI (((ol + a) % 100 : Nat) : Int)))) (S0, G)) := by
  subst hz
  refine x_of 0 rfl (Nat.le_of_ble_eq_true rfl) ?_
  show x_A y_Ac_slotOf 0 [some oAc, some (xI (a : Int))] [] (S0, G) 0 0 _
  refine x_aload_n d_Ac_slotOf_0 rfl rfl ?_
  refine x_getIG (kf := 3) d_Ac_slotOf_1 rfl rfl rfl in_Ac f_Ac_53 ?_
  rw [h1]
  refine x_iload_n d_Ac_slotOf_4 rfl rfl ?_
  refine x_iaddN d_Ac_slotOf_5 (by omega) (by omega) ?_
  refine x_bipush (100) d_Ac_slotOf_6 rfl ⟨by decide, by decide⟩ ?_
  refine x_irem d_Ac_slotOf_8 (by decide) ?_
  rw [x_rem_eq (by omega)]
  refine x_ireturn d_Ac_slotOf_9 rfl ?_ (Nat.zero_le _) (Nat.zero_le _)
  exact ⟨by rw [show ((ol : Int) + (a : Int)) % 100 = (((ol + a) % 100 : Nat) : Int) by omega], rfl⟩
/-- behind newest -/
def mNew' (G G' : Nat → Nat → Int) (t : Nat) (row : Int) (ol dn s : Nat) : Prop := (∀ i, i ≠ o_Ac → i ≠ ac_tables → i ≠ ac_changed → G' i = G i) ∧ G' o_Ac 3 = ol ∧ G' o_Ac 4 = dn + 1 ∧ G' o_Ac 5 = 0 ∧ G' o_Ac 6 = G o_Ac 6 + 1 ∧ (G' ac_tables = fun j => if j = s then (t : Int) + 1 else G ac_tables j) ∧ (G' ac_changed = fun j => if j = s then row else G ac_changed j) ∧ s = (ol + dn) % 100
def olN (ol dn : Nat) : Nat := if dn = 100 then (ol + 1) % 100 else ol
def dnN (dn : Nat) : Nat := if dn = 100 then 99 else dn
def mNew (t : Nat) (row : Int) (ol dn : Nat) (G : Nat → Nat → Int) : Option XV → XM → Prop := fun v τ => ∃ s : Nat, v = some (xI (s : Int)) ∧ ∃ G', τ = (S0, G') ∧ mNew' G G' t row (olN ol dn) (dnN dn) s
theorem c_newest {t q L ol dn : Nat} (ht : isTab t q L) (row : Int) (h1 : G o_Ac 3 = ol) (h2 : ol < 100) (h3 : G o_Ac 4 = dn) (h4 : dn ≤ 100) (h5 : 0 ≤ G o_Ac 6 ∧ G o_Ac 6 ≤ 100000) : x_M y_Ac_newest [oAc, xR (some t), xI row] (S0, G) (fun r τ => ∃ v, r = .inl v ∧ mNew t row ol dn G v τ) := by
  obtain ⟨t1, t2, t3, t4⟩ := ht
  refine x_of 1 rfl (Nat.le_of_ble_eq_true rfl) ?_
  show x_A y_Ac_newest 0 [some oAc, some (xR (some t)), some (xI row), none] [] (S0, G) 0 0 _
  generalize hQ : (fun (r : XRes) (τ : XM) => ∃ v, r = .inl v ∧ mNew t row ol dn G v τ) = Q
  have n1 : ac_tables ≠ o_Ac := by decide
  have n2 : ac_changed ≠ o_Ac := by decide
  have n3 : ac_changed ≠ ac_tables := by decide
  have tail : ∀ (G1 : Nat → Nat → Int) (o d : Nat), (∀ i, i ≠ o_Ac → G1 i = G i) → G1 o_Ac 3 = (o : Int) → G1 o_Ac 4 = (d : Int) → G1 o_Ac 5 = 0 → G1 o_Ac 6 = G o_Ac 6 → o < 100 → d < 100 → o = olN ol dn → d = dnN dn → x_A y_Ac_newest 37 [some oAc, some (xR (some t)), some (xI row), none] [] (S0, G1) 0 0 Q := by
    intro G1 o d g1 g2 g3 g4 g5 g6 g7 g8 g9
    have cs := c_slotOf (G := G1) g2 g6 (a := d) (by omega) rfl
    have hs : (o + d) % 100 < 100 := Nat.mod_lt _ (by decide)
    generalize hs0 : (o + d) % 100 = s at *
    refine x_aload_n d_Ac_newest_37 rfl rfl ?_
    refine x_aload_n d_Ac_newest_38 rfl rfl ?_
    refine x_getIG (kf := 4) d_Ac_newest_39 rfl rfl rfl in_Ac f_Ac_24 ?_
    rw [g3]
    refine x_V1 d_Ac_newest_42 e_Ac_newest_Ac_slotOf ⟨rfl, rfl, Nat.zero_le _, Nat.zero_le _⟩ rfl rfl rfl rfl (Nat.le_of_ble_eq_true rfl) (cs) ?_
    refine x_istore_n d_Ac_newest_45 rfl (by decide) ?_
    dsimp only [x_st1, x_st2, x_kill, List.set, List.getElem?_cons_zero, List.getElem?_cons_succ]
    refine x_aload_n d_Ac_newest_46 rfl rfl ?_
    refine x_dup d_Ac_newest_47 rfl ?_
    refine x_getIG (kf := 4) d_Ac_newest_48 rfl rfl rfl in_Ac f_Ac_24 ?_
    rw [g3]
    refine x_iconst (1) d_Ac_newest_51 rfl ⟨by decide, by decide⟩ ?_
    refine x_iaddN d_Ac_newest_52 (by omega) (by omega) ?_
    refine x_putIG (kf := 4) tyX0 d_Ac_newest_53 rfl rfl rfl in_Ac f_Ac_24 tyX0_ok nmX0 (by decide +kernel) rfl ?_
    refine x_aload_n d_Ac_newest_56 rfl rfl ?_
    refine x_dup d_Ac_newest_57 rfl ?_
    refine x_getIG (kf := 6) d_Ac_newest_58 rfl rfl rfl in_Ac f_Ac_31 ?_
    rw [up_ne (by decide), g5]
    refine x_iconst (1) d_Ac_newest_61 rfl ⟨by decide, by decide⟩ ?_
    refine x_iaddN d_Ac_newest_62 (by omega) (by omega) ?_
    refine x_putIG (kf := 6) tyX0 d_Ac_newest_63 rfl rfl rfl in_Ac f_Ac_31 tyX0_ok nmX0 (by decide +kernel) rfl ?_
    refine x_aload_n d_Ac_newest_66 rfl rfl ?_
    refine x_getF (kf := 0) d_Ac_newest_67 rfl rfl rfl in_Ac f_Ac_11 ?_
    refine x_iload_n d_Ac_newest_70 rfl rfl ?_
    refine x_aload_n d_Ac_newest_71 rfl rfl ?_
    refine x_aastore d_Ac_newest_72 rfl (by omega) (by omega) t1 rfl ?_
    show x_A y_Ac_newest 73 [some oAc, some (xR (some t)), some (xI row), some (xI (s : Int))] [] (S0, up (up (up G1 o_Ac 4 ((d : Int) + 1)) o_Ac 6 (G o_Ac 6 + 1)) ac_tables (s : Int).toNat ((t : Int) + 1)) 0 0 Q
    rw [Int.toNat_natCast]
    refine x_aload_n d_Ac_newest_73 rfl rfl ?_
    refine x_getF (kf := 1) d_Ac_newest_74 rfl rfl rfl in_Ac f_Ac_17 ?_
    refine x_iload_n d_Ac_newest_77 rfl rfl ?_
    refine x_iload_n d_Ac_newest_78 rfl rfl ?_
    refine x_iastN (s) d_Ac_newest_79 rfl (by omega) (by omega) ?_
    refine x_iload_n d_Ac_newest_80 rfl rfl ?_
    refine x_ireturn d_Ac_newest_81 rfl ?_ (Nat.zero_le _) (Nat.zero_le _)
    rw [← hQ]
    refine ⟨_, rfl, s, rfl, _, rfl, ⟨fun i h1 h2 h3 => ?_, ?_, ?_, ?_, ?_, ?_, ?_, ?_⟩⟩
    · rw [up_cell h3, up_cell h2, up_cell h1, up_cell h1]; exact g1 i h1
    · rw [up_cell n2.symm, up_cell n1.symm, up_ne (by decide), up_ne (by decide), g2, g8]
    · rw [up_cell n2.symm, up_cell n1.symm, up_ne (by decide), up_same, g9]
    · rw [up_cell n2.symm, up_cell n1.symm, up_ne (by decide), up_ne (by decide), g4]
    · rw [up_cell n2.symm, up_cell n1.symm, up_same]
    · rw [up_cell n3.symm, up_row, up_cell n1, up_cell n1, g1 _ n1]
    · rw [up_row, up_cell n3, up_cell n2, up_cell n2, g1 _ n2]
    · rw [← g8, ← g9]; exact hs0.symm
  have e5 : ∀ i, i ≠ o_Ac → up G o_Ac 5 0 i = G i := fun i hi => up_cell hi
  refine x_aload_n d_Ac_newest_0 rfl rfl ?_
  refine x_iconst (0) d_Ac_newest_1 rfl ⟨by decide, by decide⟩ ?_
  refine x_putIG (kf := 5) tyX0 d_Ac_newest_2 rfl rfl rfl in_Ac f_Ac_28 tyX0_ok nmX0 (by decide +kernel) rfl ?_
  refine x_aload_n d_Ac_newest_5 rfl rfl ?_
  refine x_getIG (kf := 4) d_Ac_newest_6 rfl rfl rfl in_Ac f_Ac_24 ?_
  rw [up_ne (by decide), h3]
  refine x_bipush (100) d_Ac_newest_9 rfl ⟨by decide, by decide⟩ ?_
  refine x_icmp_ne (37) d_Ac_newest_11 (by decide) (fun g => ?_) (fun g => ?_)
  · exact tail _ ol dn e5 (by rw [up_ne (by decide)]; exact h1) (by rw [up_ne (by decide)]; exact h3) (up_same _ _ _ _) (up_ne (by decide)) h2 (by omega) (by unfold olN; rw [if_neg (by omega)]) (by unfold dnN; rw [if_neg (by omega)])
  · have e100 : dn = 100 := by omega
    subst e100
    refine x_aload_n d_Ac_newest_14 rfl rfl ?_
    refine x_aload_n d_Ac_newest_15 rfl rfl ?_
    refine x_getIG (kf := 3) d_Ac_newest_16 rfl rfl rfl in_Ac f_Ac_53 ?_
    rw [up_ne (by decide), h1]
    refine x_iconst (1) d_Ac_newest_19 rfl ⟨by decide, by decide⟩ ?_
    refine x_iaddN d_Ac_newest_20 (by omega) (by omega) ?_
    refine x_bipush (100) d_Ac_newest_21 rfl ⟨by decide, by decide⟩ ?_
    refine x_irem d_Ac_newest_23 (by decide) ?_
    rw [x_rem_eq (by omega)]
    refine x_putIG (kf := 3) tyX0 d_Ac_newest_24 rfl rfl rfl in_Ac f_Ac_53 tyX0_ok nmX0 (by decide +kernel) rfl ?_
    refine x_aload_n d_Ac_newest_27 rfl rfl ?_
    refine x_dup d_Ac_newest_28 rfl ?_
    refine x_getIG (kf := 4) d_Ac_newest_29 rfl rfl rfl in_Ac f_Ac_24 ?_
    rw [up_ne (by decide), up_ne (by decide), h3]
    refine x_iconst (1) d_Ac_newest_32 rfl ⟨by decide, by decide⟩ ?_
    refine x_isubN d_Ac_newest_33 (by omega) (by omega) ?_
    refine x_putIG (kf := 4) tyX0 d_Ac_newest_34 rfl rfl rfl in_Ac f_Ac_24 tyX0_ok nmX0 (by decide +kernel) rfl ?_
    refine tail _ ((ol + 1) % 100) 99 (fun i hi => by rw [up_cell hi, up_cell hi, up_cell hi]) ?_ ?_ ?_ ?_ (Nat.mod_lt _ (by decide)) (by decide) rfl rfl
    · rw [up_ne (by decide), up_same]; omega
    · rw [up_same]; rfl
    · rw [up_ne (by decide), up_ne (by decide), up_same]
    · rw [up_ne (by decide), up_ne (by decide), up_ne (by decide)]
end CAc
